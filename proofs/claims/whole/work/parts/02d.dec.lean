abbrev mX10_init : aM := (yX10_init, cX10_init, 2, none)
theorem dX10_init_0 : decode mX10_init.2.1 0 = .ok (.aload_n 0, 1) := by decide +kernel
theorem dX10_init_1 : decode mX10_init.2.1 1 = .ok (.invokespecial 1, 3) := by decide +kernel
theorem dX10_init_4 : decode mX10_init.2.1 4 = .ok (.aload_n 0, 1) := by decide +kernel
theorem dX10_init_5 : decode mX10_init.2.1 5 = .ok (.sipush 1800, 3) := by decide +kernel
theorem dX10_init_8 : decode mX10_init.2.1 8 = .ok (.newarray .int, 2) := by decide +kernel
theorem dX10_init_10 : decode mX10_init.2.1 10 = .ok (.putfield 7, 3) := by decide +kernel
theorem dX10_init_13 : decode mX10_init.2.1 13 = .ok (.aload_n 0, 1) := by decide +kernel
theorem dX10_init_14 : decode mX10_init.2.1 14 = .ok (.iconst 0, 1) := by decide +kernel
theorem dX10_init_15 : decode mX10_init.2.1 15 = .ok (.putfield 13, 3) := by decide +kernel
theorem dX10_init_18 : decode mX10_init.2.1 18 = .ok (.aload_n 0, 1) := by decide +kernel
theorem dX10_init_19 : decode mX10_init.2.1 19 = .ok (.iconst 0, 1) := by decide +kernel
theorem dX10_init_20 : decode mX10_init.2.1 20 = .ok (.putfield 17, 3) := by decide +kernel
theorem dX10_init_23 : decode mX10_init.2.1 23 = .ok (.aload_n 0, 1) := by decide +kernel
theorem dX10_init_24 : decode mX10_init.2.1 24 = .ok (.iconst 0, 1) := by decide +kernel
theorem dX10_init_25 : decode mX10_init.2.1 25 = .ok (.putfield 20, 3) := by decide +kernel
theorem dX10_init_28 : decode mX10_init.2.1 28 = .ok (.aload_n 0, 1) := by decide +kernel
theorem dX10_init_29 : decode mX10_init.2.1 29 = .ok (.iconst 0, 1) := by decide +kernel
theorem dX10_init_30 : decode mX10_init.2.1 30 = .ok (.putfield 23, 3) := by decide +kernel
theorem dX10_init_33 : decode mX10_init.2.1 33 = .ok (.aload_n 0, 1) := by decide +kernel
theorem dX10_init_34 : decode mX10_init.2.1 34 = .ok (.iconst 0, 1) := by decide +kernel
theorem dX10_init_35 : decode mX10_init.2.1 35 = .ok (.putfield 26, 3) := by decide +kernel
theorem dX10_init_38 : decode mX10_init.2.1 38 = .ok (.aload_n 0, 1) := by decide +kernel
theorem dX10_init_39 : decode mX10_init.2.1 39 = .ok (.iconst 0, 1) := by decide +kernel
theorem dX10_init_40 : decode mX10_init.2.1 40 = .ok (.putfield 29, 3) := by decide +kernel
theorem dX10_init_43 : decode mX10_init.2.1 43 = .ok (.aload_n 0, 1) := by decide +kernel
theorem dX10_init_44 : decode mX10_init.2.1 44 = .ok (.lconst 0, 1) := by decide +kernel
theorem dX10_init_45 : decode mX10_init.2.1 45 = .ok (.putfield 32, 3) := by decide +kernel
theorem dX10_init_48 : decode mX10_init.2.1 48 = .ok (.aload_n 0, 1) := by decide +kernel
theorem dX10_init_49 : decode mX10_init.2.1 49 = .ok (.iconst 0, 1) := by decide +kernel
theorem dX10_init_50 : decode mX10_init.2.1 50 = .ok (.putfield 36, 3) := by decide +kernel
theorem dX10_init_53 : decode mX10_init.2.1 53 = .ok (.aload_n 0, 1) := by decide +kernel
theorem dX10_init_54 : decode mX10_init.2.1 54 = .ok (.iconst (-1), 1) := by decide +kernel
theorem dX10_init_55 : decode mX10_init.2.1 55 = .ok (.putfield 39, 3) := by decide +kernel
theorem dX10_init_58 : decode mX10_init.2.1 58 = .ok (.aload_n 0, 1) := by decide +kernel
theorem dX10_init_59 : decode mX10_init.2.1 59 = .ok (.iconst 0, 1) := by decide +kernel
theorem dX10_init_60 : decode mX10_init.2.1 60 = .ok (.putfield 42, 3) := by decide +kernel
theorem dX10_init_63 : decode mX10_init.2.1 63 = .ok (.aload_n 0, 1) := by decide +kernel
theorem dX10_init_64 : decode mX10_init.2.1 64 = .ok (.iconst (-1), 1) := by decide +kernel
theorem dX10_init_65 : decode mX10_init.2.1 65 = .ok (.putfield 45, 3) := by decide +kernel
theorem dX10_init_68 : decode mX10_init.2.1 68 = .ok (.aload_n 0, 1) := by decide +kernel
theorem dX10_init_69 : decode mX10_init.2.1 69 = .ok (.iconst (-1), 1) := by decide +kernel
theorem dX10_init_70 : decode mX10_init.2.1 70 = .ok (.putfield 48, 3) := by decide +kernel
theorem dX10_init_73 : decode mX10_init.2.1 73 = .ok (.aload_n 0, 1) := by decide +kernel
theorem dX10_init_74 : decode mX10_init.2.1 74 = .ok (.iconst 0, 1) := by decide +kernel
theorem dX10_init_75 : decode mX10_init.2.1 75 = .ok (.putfield 51, 3) := by decide +kernel
theorem dX10_init_78 : decode mX10_init.2.1 78 = .ok (.aload_n 0, 1) := by decide +kernel
theorem dX10_init_79 : decode mX10_init.2.1 79 = .ok (.iconst 2, 1) := by decide +kernel
theorem dX10_init_80 : decode mX10_init.2.1 80 = .ok (.newarray .int, 2) := by decide +kernel
theorem dX10_init_82 : decode mX10_init.2.1 82 = .ok (.putfield 54, 3) := by decide +kernel
theorem dX10_init_85 : decode mX10_init.2.1 85 = .ok (.aload_n 0, 1) := by decide +kernel
theorem dX10_init_86 : decode mX10_init.2.1 86 = .ok (.bipush 10, 2) := by decide +kernel
theorem dX10_init_88 : decode mX10_init.2.1 88 = .ok (.newarray .int, 2) := by decide +kernel
theorem dX10_init_90 : decode mX10_init.2.1 90 = .ok (.putfield 57, 3) := by decide +kernel
theorem dX10_init_93 : decode mX10_init.2.1 93 = .ok (.aload_n 0, 1) := by decide +kernel
theorem dX10_init_94 : decode mX10_init.2.1 94 = .ok (.bipush 10, 2) := by decide +kernel
theorem dX10_init_96 : decode mX10_init.2.1 96 = .ok (.newarray .int, 2) := by decide +kernel
theorem dX10_init_98 : decode mX10_init.2.1 98 = .ok (.putfield 60, 3) := by decide +kernel
theorem dX10_init_101 : decode mX10_init.2.1 101 = .ok (.aload_n 0, 1) := by decide +kernel
theorem dX10_init_102 : decode mX10_init.2.1 102 = .ok (.iconst 2, 1) := by decide +kernel
theorem dX10_init_103 : decode mX10_init.2.1 103 = .ok (.newarray .int, 2) := by decide +kernel
theorem dX10_init_105 : decode mX10_init.2.1 105 = .ok (.putfield 63, 3) := by decide +kernel
theorem dX10_init_108 : decode mX10_init.2.1 108 = .ok (.aload_n 0, 1) := by decide +kernel
theorem dX10_init_109 : decode mX10_init.2.1 109 = .ok (.bipush 12, 2) := by decide +kernel
theorem dX10_init_111 : decode mX10_init.2.1 111 = .ok (.newarray .int, 2) := by decide +kernel
theorem dX10_init_113 : decode mX10_init.2.1 113 = .ok (.putfield 66, 3) := by decide +kernel
theorem dX10_init_116 : decode mX10_init.2.1 116 = .ok (.aload_n 0, 1) := by decide +kernel
theorem dX10_init_117 : decode mX10_init.2.1 117 = .ok (.bipush 12, 2) := by decide +kernel
theorem dX10_init_119 : decode mX10_init.2.1 119 = .ok (.newarray .int, 2) := by decide +kernel
theorem dX10_init_121 : decode mX10_init.2.1 121 = .ok (.putfield 69, 3) := by decide +kernel
theorem dX10_init_124 : decode mX10_init.2.1 124 = .ok (.aload_n 0, 1) := by decide +kernel
theorem dX10_init_125 : decode mX10_init.2.1 125 = .ok (.iconst 2, 1) := by decide +kernel
theorem dX10_init_126 : decode mX10_init.2.1 126 = .ok (.newarray .int, 2) := by decide +kernel
theorem dX10_init_128 : decode mX10_init.2.1 128 = .ok (.putfield 72, 3) := by decide +kernel
theorem dX10_init_131 : decode mX10_init.2.1 131 = .ok (.aload_n 0, 1) := by decide +kernel
theorem dX10_init_132 : decode mX10_init.2.1 132 = .ok (.bipush 12, 2) := by decide +kernel
theorem dX10_init_134 : decode mX10_init.2.1 134 = .ok (.newarray .int, 2) := by decide +kernel
theorem dX10_init_136 : decode mX10_init.2.1 136 = .ok (.putfield 75, 3) := by decide +kernel
theorem dX10_init_139 : decode mX10_init.2.1 139 = .ok (.aload_n 0, 1) := by decide +kernel
theorem dX10_init_140 : decode mX10_init.2.1 140 = .ok (.bipush 12, 2) := by decide +kernel
theorem dX10_init_142 : decode mX10_init.2.1 142 = .ok (.newarray .int, 2) := by decide +kernel
theorem dX10_init_144 : decode mX10_init.2.1 144 = .ok (.putfield 78, 3) := by decide +kernel
theorem dX10_init_147 : decode mX10_init.2.1 147 = .ok (.aload_n 0, 1) := by decide +kernel
theorem dX10_init_148 : decode mX10_init.2.1 148 = .ok (.iconst 2, 1) := by decide +kernel
theorem dX10_init_149 : decode mX10_init.2.1 149 = .ok (.newarray .int, 2) := by decide +kernel
theorem dX10_init_151 : decode mX10_init.2.1 151 = .ok (.putfield 81, 3) := by decide +kernel
theorem dX10_init_154 : decode mX10_init.2.1 154 = .ok (.aload_n 0, 1) := by decide +kernel
theorem dX10_init_155 : decode mX10_init.2.1 155 = .ok (.iconst 2, 1) := by decide +kernel
theorem dX10_init_156 : decode mX10_init.2.1 156 = .ok (.newarray .int, 2) := by decide +kernel
theorem dX10_init_158 : decode mX10_init.2.1 158 = .ok (.putfield 84, 3) := by decide +kernel
theorem dX10_init_161 : decode mX10_init.2.1 161 = .ok (.aload_n 0, 1) := by decide +kernel
theorem dX10_init_162 : decode mX10_init.2.1 162 = .ok (.bipush 10, 2) := by decide +kernel
theorem dX10_init_164 : decode mX10_init.2.1 164 = .ok (.newarray .int, 2) := by decide +kernel
theorem dX10_init_166 : decode mX10_init.2.1 166 = .ok (.putfield 87, 3) := by decide +kernel
theorem dX10_init_169 : decode mX10_init.2.1 169 = .ok (.aload_n 0, 1) := by decide +kernel
theorem dX10_init_170 : decode mX10_init.2.1 170 = .ok (.bipush 10, 2) := by decide +kernel
theorem dX10_init_172 : decode mX10_init.2.1 172 = .ok (.newarray .int, 2) := by decide +kernel
theorem dX10_init_174 : decode mX10_init.2.1 174 = .ok (.putfield 90, 3) := by decide +kernel
theorem dX10_init_177 : decode mX10_init.2.1 177 = .ok (.aload_n 0, 1) := by decide +kernel
theorem dX10_init_178 : decode mX10_init.2.1 178 = .ok (.sipush 3200, 3) := by decide +kernel
theorem dX10_init_181 : decode mX10_init.2.1 181 = .ok (.newarray .int, 2) := by decide +kernel
theorem dX10_init_183 : decode mX10_init.2.1 183 = .ok (.putfield 93, 3) := by decide +kernel
theorem dX10_init_186 : decode mX10_init.2.1 186 = .ok (.aload_n 0, 1) := by decide +kernel
theorem dX10_init_187 : decode mX10_init.2.1 187 = .ok (.sipush 3200, 3) := by decide +kernel
theorem dX10_init_190 : decode mX10_init.2.1 190 = .ok (.newarray .int, 2) := by decide +kernel
theorem dX10_init_192 : decode mX10_init.2.1 192 = .ok (.putfield 96, 3) := by decide +kernel
theorem dX10_init_195 : decode mX10_init.2.1 195 = .ok (.aload_n 0, 1) := by decide +kernel
theorem dX10_init_196 : decode mX10_init.2.1 196 = .ok (.bipush 10, 2) := by decide +kernel
theorem dX10_init_198 : decode mX10_init.2.1 198 = .ok (.newarray .long, 2) := by decide +kernel
theorem dX10_init_200 : decode mX10_init.2.1 200 = .ok (.putfield 99, 3) := by decide +kernel
theorem dX10_init_203 : decode mX10_init.2.1 203 = .ok (.aload_n 0, 1) := by decide +kernel
theorem dX10_init_204 : decode mX10_init.2.1 204 = .ok (.bipush 12, 2) := by decide +kernel
theorem dX10_init_206 : decode mX10_init.2.1 206 = .ok (.newarray .long, 2) := by decide +kernel
theorem dX10_init_208 : decode mX10_init.2.1 208 = .ok (.putfield 103, 3) := by decide +kernel
theorem dX10_init_211 : decode mX10_init.2.1 211 = .ok (.aload_n 0, 1) := by decide +kernel
theorem dX10_init_212 : decode mX10_init.2.1 212 = .ok (.bipush 12, 2) := by decide +kernel
theorem dX10_init_214 : decode mX10_init.2.1 214 = .ok (.newarray .long, 2) := by decide +kernel
theorem dX10_init_216 : decode mX10_init.2.1 216 = .ok (.putfield 106, 3) := by decide +kernel
theorem dX10_init_219 : decode mX10_init.2.1 219 = .ok (.aload_n 0, 1) := by decide +kernel
theorem dX10_init_220 : decode mX10_init.2.1 220 = .ok (.iconst 0, 1) := by decide +kernel
theorem dX10_init_221 : decode mX10_init.2.1 221 = .ok (.putfield 109, 3) := by decide +kernel
theorem dX10_init_224 : decode mX10_init.2.1 224 = .ok (.aload_n 0, 1) := by decide +kernel
theorem dX10_init_225 : decode mX10_init.2.1 225 = .ok (.iconst 1, 1) := by decide +kernel
theorem dX10_init_226 : decode mX10_init.2.1 226 = .ok (.putfield 112, 3) := by decide +kernel
theorem dX10_init_229 : decode mX10_init.2.1 229 = .ok (.aload_n 0, 1) := by decide +kernel
theorem dX10_init_230 : decode mX10_init.2.1 230 = .ok (.iconst 0, 1) := by decide +kernel
theorem dX10_init_231 : decode mX10_init.2.1 231 = .ok (.putfield 115, 3) := by decide +kernel
theorem dX10_init_234 : decode mX10_init.2.1 234 = .ok (.aload_n 0, 1) := by decide +kernel
theorem dX10_init_235 : decode mX10_init.2.1 235 = .ok (.bipush 20, 2) := by decide +kernel
theorem dX10_init_237 : decode mX10_init.2.1 237 = .ok (.newarray .int, 2) := by decide +kernel
theorem dX10_init_239 : decode mX10_init.2.1 239 = .ok (.putfield 118, 3) := by decide +kernel
theorem dX10_init_242 : decode mX10_init.2.1 242 = .ok (.aload_n 0, 1) := by decide +kernel
theorem dX10_init_243 : decode mX10_init.2.1 243 = .ok (.bipush 20, 2) := by decide +kernel
theorem dX10_init_245 : decode mX10_init.2.1 245 = .ok (.newarray .int, 2) := by decide +kernel
theorem dX10_init_247 : decode mX10_init.2.1 247 = .ok (.putfield 121, 3) := by decide +kernel
theorem dX10_init_250 : decode mX10_init.2.1 250 = .ok (.aload_n 0, 1) := by decide +kernel
theorem dX10_init_251 : decode mX10_init.2.1 251 = .ok (.bipush 20, 2) := by decide +kernel
theorem dX10_init_253 : decode mX10_init.2.1 253 = .ok (.newarray .boolean, 2) := by decide +kernel
theorem dX10_init_255 : decode mX10_init.2.1 255 = .ok (.putfield 124, 3) := by decide +kernel
theorem dX10_init_258 : decode mX10_init.2.1 258 = .ok (.aload_n 0, 1) := by decide +kernel
theorem dX10_init_259 : decode mX10_init.2.1 259 = .ok (.bipush 20, 2) := by decide +kernel
theorem dX10_init_261 : decode mX10_init.2.1 261 = .ok (.newarray .int, 2) := by decide +kernel
theorem dX10_init_263 : decode mX10_init.2.1 263 = .ok (.putfield 128, 3) := by decide +kernel
theorem dX10_init_266 : decode mX10_init.2.1 266 = .ok (.aload_n 0, 1) := by decide +kernel
theorem dX10_init_267 : decode mX10_init.2.1 267 = .ok (.bipush 20, 2) := by decide +kernel
theorem dX10_init_269 : decode mX10_init.2.1 269 = .ok (.newarray .int, 2) := by decide +kernel
theorem dX10_init_271 : decode mX10_init.2.1 271 = .ok (.putfield 131, 3) := by decide +kernel
theorem dX10_init_274 : decode mX10_init.2.1 274 = .ok (.aload_n 0, 1) := by decide +kernel
theorem dX10_init_275 : decode mX10_init.2.1 275 = .ok (.iconst 0, 1) := by decide +kernel
theorem dX10_init_276 : decode mX10_init.2.1 276 = .ok (.putfield 134, 3) := by decide +kernel
theorem dX10_init_279 : decode mX10_init.2.1 279 = .ok (.aload_n 0, 1) := by decide +kernel
theorem dX10_init_280 : decode mX10_init.2.1 280 = .ok (.iconst 0, 1) := by decide +kernel
theorem dX10_init_281 : decode mX10_init.2.1 281 = .ok (.putfield 137, 3) := by decide +kernel
theorem dX10_init_284 : decode mX10_init.2.1 284 = .ok (.aload_n 0, 1) := by decide +kernel
theorem dX10_init_285 : decode mX10_init.2.1 285 = .ok (.sipush 500, 3) := by decide +kernel
theorem dX10_init_288 : decode mX10_init.2.1 288 = .ok (.newarray .int, 2) := by decide +kernel
theorem dX10_init_290 : decode mX10_init.2.1 290 = .ok (.putfield 140, 3) := by decide +kernel
theorem dX10_init_293 : decode mX10_init.2.1 293 = .ok (.aload_n 0, 1) := by decide +kernel
theorem dX10_init_294 : decode mX10_init.2.1 294 = .ok (.iconst 0, 1) := by decide +kernel
theorem dX10_init_295 : decode mX10_init.2.1 295 = .ok (.putfield 143, 3) := by decide +kernel
theorem dX10_init_298 : decode mX10_init.2.1 298 = .ok (.aload_n 0, 1) := by decide +kernel
theorem dX10_init_299 : decode mX10_init.2.1 299 = .ok (.iconst 0, 1) := by decide +kernel
theorem dX10_init_300 : decode mX10_init.2.1 300 = .ok (.putfield 146, 3) := by decide +kernel
theorem dX10_init_303 : decode mX10_init.2.1 303 = .ok (.aload_n 0, 1) := by decide +kernel
theorem dX10_init_304 : decode mX10_init.2.1 304 = .ok (.bipush 6, 2) := by decide +kernel
theorem dX10_init_306 : decode mX10_init.2.1 306 = .ok (.newarray .int, 2) := by decide +kernel
theorem dX10_init_308 : decode mX10_init.2.1 308 = .ok (.putfield 150, 3) := by decide +kernel
theorem dX10_init_311 : decode mX10_init.2.1 311 = .ok (.aload_n 0, 1) := by decide +kernel
theorem dX10_init_312 : decode mX10_init.2.1 312 = .ok (.bipush 22, 2) := by decide +kernel
theorem dX10_init_314 : decode mX10_init.2.1 314 = .ok (.newarray .int, 2) := by decide +kernel
theorem dX10_init_316 : decode mX10_init.2.1 316 = .ok (.putfield 153, 3) := by decide +kernel
theorem dX10_init_319 : decode mX10_init.2.1 319 = .ok (.aload_n 0, 1) := by decide +kernel
theorem dX10_init_320 : decode mX10_init.2.1 320 = .ok (.bipush 22, 2) := by decide +kernel
theorem dX10_init_322 : decode mX10_init.2.1 322 = .ok (.newarray .int, 2) := by decide +kernel
theorem dX10_init_324 : decode mX10_init.2.1 324 = .ok (.putfield 156, 3) := by decide +kernel
theorem dX10_init_327 : decode mX10_init.2.1 327 = .ok (.aload_n 0, 1) := by decide +kernel
theorem dX10_init_328 : decode mX10_init.2.1 328 = .ok (.bipush 110, 2) := by decide +kernel
theorem dX10_init_330 : decode mX10_init.2.1 330 = .ok (.newarray .int, 2) := by decide +kernel
theorem dX10_init_332 : decode mX10_init.2.1 332 = .ok (.putfield 159, 3) := by decide +kernel
theorem dX10_init_335 : decode mX10_init.2.1 335 = .ok (.aload_n 0, 1) := by decide +kernel
theorem dX10_init_336 : decode mX10_init.2.1 336 = .ok (.sipush 132, 3) := by decide +kernel
theorem dX10_init_339 : decode mX10_init.2.1 339 = .ok (.newarray .int, 2) := by decide +kernel
theorem dX10_init_341 : decode mX10_init.2.1 341 = .ok (.putfield 162, 3) := by decide +kernel
theorem dX10_init_344 : decode mX10_init.2.1 344 = .ok (.aload_n 0, 1) := by decide +kernel
theorem dX10_init_345 : decode mX10_init.2.1 345 = .ok (.bipush 22, 2) := by decide +kernel
theorem dX10_init_347 : decode mX10_init.2.1 347 = .ok (.newarray .int, 2) := by decide +kernel
theorem dX10_init_349 : decode mX10_init.2.1 349 = .ok (.putfield 165, 3) := by decide +kernel
theorem dX10_init_352 : decode mX10_init.2.1 352 = .ok (.aload_n 0, 1) := by decide +kernel
theorem dX10_init_353 : decode mX10_init.2.1 353 = .ok (.bipush 22, 2) := by decide +kernel
theorem dX10_init_355 : decode mX10_init.2.1 355 = .ok (.newarray .int, 2) := by decide +kernel
theorem dX10_init_357 : decode mX10_init.2.1 357 = .ok (.putfield 168, 3) := by decide +kernel
theorem dX10_init_360 : decode mX10_init.2.1 360 = .ok (.aload_n 0, 1) := by decide +kernel
theorem dX10_init_361 : decode mX10_init.2.1 361 = .ok (.sipush 3520, 3) := by decide +kernel
theorem dX10_init_364 : decode mX10_init.2.1 364 = .ok (.newarray .int, 2) := by decide +kernel
theorem dX10_init_366 : decode mX10_init.2.1 366 = .ok (.putfield 171, 3) := by decide +kernel
theorem dX10_init_369 : decode mX10_init.2.1 369 = .ok (.aload_n 0, 1) := by decide +kernel
theorem dX10_init_370 : decode mX10_init.2.1 370 = .ok (.iconst 0, 1) := by decide +kernel
theorem dX10_init_371 : decode mX10_init.2.1 371 = .ok (.putfield 174, 3) := by decide +kernel
theorem dX10_init_374 : decode mX10_init.2.1 374 = .ok (.aload_n 0, 1) := by decide +kernel
theorem dX10_init_375 : decode mX10_init.2.1 375 = .ok (.iconst 0, 1) := by decide +kernel
theorem dX10_init_376 : decode mX10_init.2.1 376 = .ok (.putfield 177, 3) := by decide +kernel
theorem dX10_init_379 : decode mX10_init.2.1 379 = .ok (.aload_n 0, 1) := by decide +kernel
theorem dX10_init_380 : decode mX10_init.2.1 380 = .ok (.lconst 1, 1) := by decide +kernel
theorem dX10_init_381 : decode mX10_init.2.1 381 = .ok (.putfield 180, 3) := by decide +kernel
theorem dX10_init_384 : decode mX10_init.2.1 384 = .ok (.aload_n 0, 1) := by decide +kernel
theorem dX10_init_385 : decode mX10_init.2.1 385 = .ok (.sipush 500, 3) := by decide +kernel
theorem dX10_init_388 : decode mX10_init.2.1 388 = .ok (.newarray .long, 2) := by decide +kernel
theorem dX10_init_390 : decode mX10_init.2.1 390 = .ok (.putfield 183, 3) := by decide +kernel
theorem dX10_init_393 : decode mX10_init.2.1 393 = .ok (.aload_n 0, 1) := by decide +kernel
theorem dX10_init_394 : decode mX10_init.2.1 394 = .ok (.bipush 14, 2) := by decide +kernel
theorem dX10_init_396 : decode mX10_init.2.1 396 = .ok (.newarray .int, 2) := by decide +kernel
theorem dX10_init_398 : decode mX10_init.2.1 398 = .ok (.putfield 186, 3) := by decide +kernel
theorem dX10_init_401 : decode mX10_init.2.1 401 = .ok (.aload_n 0, 1) := by decide +kernel
theorem dX10_init_402 : decode mX10_init.2.1 402 = .ok (.bipush 6, 2) := by decide +kernel
theorem dX10_init_404 : decode mX10_init.2.1 404 = .ok (.newarray .int, 2) := by decide +kernel
theorem dX10_init_406 : decode mX10_init.2.1 406 = .ok (.putfield 189, 3) := by decide +kernel
theorem dX10_init_409 : decode mX10_init.2.1 409 = .ok (.aload_n 0, 1) := by decide +kernel
theorem dX10_init_410 : decode mX10_init.2.1 410 = .ok (.bipush 6, 2) := by decide +kernel
theorem dX10_init_412 : decode mX10_init.2.1 412 = .ok (.newarray .int, 2) := by decide +kernel
theorem dX10_init_414 : decode mX10_init.2.1 414 = .ok (.putfield 192, 3) := by decide +kernel
theorem dX10_init_417 : decode mX10_init.2.1 417 = .ok (.aload_n 0, 1) := by decide +kernel
theorem dX10_init_418 : decode mX10_init.2.1 418 = .ok (.bipush 6, 2) := by decide +kernel
theorem dX10_init_420 : decode mX10_init.2.1 420 = .ok (.newarray .int, 2) := by decide +kernel
theorem dX10_init_422 : decode mX10_init.2.1 422 = .ok (.putfield 195, 3) := by decide +kernel
theorem dX10_init_425 : decode mX10_init.2.1 425 = .ok (.aload_n 0, 1) := by decide +kernel
theorem dX10_init_426 : decode mX10_init.2.1 426 = .ok (.bipush 30, 2) := by decide +kernel
theorem dX10_init_428 : decode mX10_init.2.1 428 = .ok (.newarray .int, 2) := by decide +kernel
theorem dX10_init_430 : decode mX10_init.2.1 430 = .ok (.putfield 198, 3) := by decide +kernel
theorem dX10_init_433 : decode mX10_init.2.1 433 = .ok (.aload_n 0, 1) := by decide +kernel
theorem dX10_init_434 : decode mX10_init.2.1 434 = .ok (.iconst 0, 1) := by decide +kernel
theorem dX10_init_435 : decode mX10_init.2.1 435 = .ok (.putfield 201, 3) := by decide +kernel
theorem dX10_init_438 : decode mX10_init.2.1 438 = .ok (.aload_n 0, 1) := by decide +kernel
theorem dX10_init_439 : decode mX10_init.2.1 439 = .ok (.bipush 16, 2) := by decide +kernel
theorem dX10_init_441 : decode mX10_init.2.1 441 = .ok (.newarray .int, 2) := by decide +kernel
theorem dX10_init_443 : decode mX10_init.2.1 443 = .ok (.putfield 204, 3) := by decide +kernel
theorem dX10_init_446 : decode mX10_init.2.1 446 = .ok (.aload_n 0, 1) := by decide +kernel
theorem dX10_init_447 : decode mX10_init.2.1 447 = .ok (.bipush 16, 2) := by decide +kernel
theorem dX10_init_449 : decode mX10_init.2.1 449 = .ok (.newarray .int, 2) := by decide +kernel
theorem dX10_init_451 : decode mX10_init.2.1 451 = .ok (.putfield 207, 3) := by decide +kernel
theorem dX10_init_454 : decode mX10_init.2.1 454 = .ok (.aload_n 0, 1) := by decide +kernel
theorem dX10_init_455 : decode mX10_init.2.1 455 = .ok (.bipush 16, 2) := by decide +kernel
theorem dX10_init_457 : decode mX10_init.2.1 457 = .ok (.newarray .int, 2) := by decide +kernel
theorem dX10_init_459 : decode mX10_init.2.1 459 = .ok (.putfield 210, 3) := by decide +kernel
theorem dX10_init_462 : decode mX10_init.2.1 462 = .ok (.aload_n 0, 1) := by decide +kernel
theorem dX10_init_463 : decode mX10_init.2.1 463 = .ok (.bipush 6, 2) := by decide +kernel
theorem dX10_init_465 : decode mX10_init.2.1 465 = .ok (.newarray .int, 2) := by decide +kernel
theorem dX10_init_467 : decode mX10_init.2.1 467 = .ok (.putfield 213, 3) := by decide +kernel
theorem dX10_init_470 : decode mX10_init.2.1 470 = .ok (.aload_n 0, 1) := by decide +kernel
theorem dX10_init_471 : decode mX10_init.2.1 471 = .ok (.bipush 40, 2) := by decide +kernel
theorem dX10_init_473 : decode mX10_init.2.1 473 = .ok (.newarray .int, 2) := by decide +kernel
theorem dX10_init_475 : decode mX10_init.2.1 475 = .ok (.putfield 216, 3) := by decide +kernel
theorem dX10_init_478 : decode mX10_init.2.1 478 = .ok (.aload_n 0, 1) := by decide +kernel
theorem dX10_init_479 : decode mX10_init.2.1 479 = .ok (.iconst 0, 1) := by decide +kernel
theorem dX10_init_480 : decode mX10_init.2.1 480 = .ok (.putfield 219, 3) := by decide +kernel
theorem dX10_init_483 : decode mX10_init.2.1 483 = .ok (.iconst 0, 1) := by decide +kernel
theorem dX10_init_484 : decode mX10_init.2.1 484 = .ok (.istore_n 1, 1) := by decide +kernel
theorem dX10_init_485 : decode mX10_init.2.1 485 = .ok (.iload_n 1, 1) := by decide +kernel
theorem dX10_init_486 : decode mX10_init.2.1 486 = .ok (.bipush 10, 2) := by decide +kernel
theorem dX10_init_488 : decode mX10_init.2.1 488 = .ok (.if_icmp .ge 16, 3) := by decide +kernel
theorem dX10_init_491 : decode mX10_init.2.1 491 = .ok (.aload_n 0, 1) := by decide +kernel
theorem dX10_init_492 : decode mX10_init.2.1 492 = .ok (.getfield 87, 3) := by decide +kernel
theorem dX10_init_495 : decode mX10_init.2.1 495 = .ok (.iload_n 1, 1) := by decide +kernel
theorem dX10_init_496 : decode mX10_init.2.1 496 = .ok (.iconst (-1), 1) := by decide +kernel
theorem dX10_init_497 : decode mX10_init.2.1 497 = .ok (.iastore, 1) := by decide +kernel
theorem dX10_init_498 : decode mX10_init.2.1 498 = .ok (.iinc 1 1, 3) := by decide +kernel
theorem dX10_init_501 : decode mX10_init.2.1 501 = .ok (.goto (-16), 3) := by decide +kernel
theorem dX10_init_504 : decode mX10_init.2.1 504 = .ok (.return_, 1) := by decide +kernel
abbrev mX10_is : aM := (yX10_is, cX10_is, 3, (some .boolean))
theorem dX10_is_0 : decode mX10_is.2.1 0 = .ok (.iload_n 0, 1) := by decide +kernel
theorem dX10_is_1 : decode mX10_is.2.1 1 = .ok (.iload_n 1, 1) := by decide +kernel
theorem dX10_is_2 : decode mX10_is.2.1 2 = .ok (.if_icmp .lt 12, 3) := by decide +kernel
theorem dX10_is_5 : decode mX10_is.2.1 5 = .ok (.iload_n 0, 1) := by decide +kernel
theorem dX10_is_6 : decode mX10_is.2.1 6 = .ok (.iload_n 2, 1) := by decide +kernel
theorem dX10_is_7 : decode mX10_is.2.1 7 = .ok (.if_icmp .gt 7, 3) := by decide +kernel
theorem dX10_is_10 : decode mX10_is.2.1 10 = .ok (.iconst 1, 1) := by decide +kernel
theorem dX10_is_11 : decode mX10_is.2.1 11 = .ok (.goto 4, 3) := by decide +kernel
theorem dX10_is_14 : decode mX10_is.2.1 14 = .ok (.iconst 0, 1) := by decide +kernel
theorem dX10_is_15 : decode mX10_is.2.1 15 = .ok (.ireturn, 1) := by decide +kernel
abbrev mX10_put : aM := (yX10_put, cX10_put, 3, none)
theorem dX10_put_0 : decode mX10_put.2.1 0 = .ok (.bipush 24, 2) := by decide +kernel
theorem dX10_put_2 : decode mX10_put.2.1 2 = .ok (.istore_n 2, 1) := by decide +kernel
theorem dX10_put_3 : decode mX10_put.2.1 3 = .ok (.iload_n 2, 1) := by decide +kernel
theorem dX10_put_4 : decode mX10_put.2.1 4 = .ok (.ifCond .lt 35, 3) := by decide +kernel
theorem dX10_put_7 : decode mX10_put.2.1 7 = .ok (.aload_n 0, 1) := by decide +kernel
theorem dX10_put_8 : decode mX10_put.2.1 8 = .ok (.getfield 7, 3) := by decide +kernel
theorem dX10_put_11 : decode mX10_put.2.1 11 = .ok (.aload_n 0, 1) := by decide +kernel
theorem dX10_put_12 : decode mX10_put.2.1 12 = .ok (.getfield 13, 3) := by decide +kernel
theorem dX10_put_15 : decode mX10_put.2.1 15 = .ok (.iload_n 1, 1) := by decide +kernel
theorem dX10_put_16 : decode mX10_put.2.1 16 = .ok (.iload_n 2, 1) := by decide +kernel
theorem dX10_put_17 : decode mX10_put.2.1 17 = .ok (.ishr, 1) := by decide +kernel
theorem dX10_put_18 : decode mX10_put.2.1 18 = .ok (.sipush 255, 3) := by decide +kernel
theorem dX10_put_21 : decode mX10_put.2.1 21 = .ok (.iand, 1) := by decide +kernel
theorem dX10_put_22 : decode mX10_put.2.1 22 = .ok (.iastore, 1) := by decide +kernel
theorem dX10_put_23 : decode mX10_put.2.1 23 = .ok (.aload_n 0, 1) := by decide +kernel
theorem dX10_put_24 : decode mX10_put.2.1 24 = .ok (.dup, 1) := by decide +kernel
theorem dX10_put_25 : decode mX10_put.2.1 25 = .ok (.getfield 13, 3) := by decide +kernel
theorem dX10_put_28 : decode mX10_put.2.1 28 = .ok (.iconst 1, 1) := by decide +kernel
theorem dX10_put_29 : decode mX10_put.2.1 29 = .ok (.iadd, 1) := by decide +kernel
theorem dX10_put_30 : decode mX10_put.2.1 30 = .ok (.putfield 13, 3) := by decide +kernel
theorem dX10_put_33 : decode mX10_put.2.1 33 = .ok (.iinc 2 (-8), 3) := by decide +kernel
theorem dX10_put_36 : decode mX10_put.2.1 36 = .ok (.goto (-33), 3) := by decide +kernel
theorem dX10_put_39 : decode mX10_put.2.1 39 = .ok (.return_, 1) := by decide +kernel
abbrev mX10_feed : aM := (yX10_feed, cX10_feed, 6, (some .int))
theorem dX10_feed_0 : decode mX10_feed.2.1 0 = .ok (.aload_n 0, 1) := by decide +kernel
theorem dX10_feed_1 : decode mX10_feed.2.1 1 = .ok (.getfield 13, 3) := by decide +kernel
theorem dX10_feed_4 : decode mX10_feed.2.1 4 = .ok (.bipush 20, 2) := by decide +kernel
theorem dX10_feed_6 : decode mX10_feed.2.1 6 = .ok (.iadd, 1) := by decide +kernel
theorem dX10_feed_7 : decode mX10_feed.2.1 7 = .ok (.sipush 1600, 3) := by decide +kernel
theorem dX10_feed_10 : decode mX10_feed.2.1 10 = .ok (.if_icmp .le 9, 3) := by decide +kernel
theorem dX10_feed_13 : decode mX10_feed.2.1 13 = .ok (.aload_n 0, 1) := by decide +kernel
theorem dX10_feed_14 : decode mX10_feed.2.1 14 = .ok (.iconst 0, 1) := by decide +kernel
theorem dX10_feed_15 : decode mX10_feed.2.1 15 = .ok (.invokevirtual 222, 3) := by decide +kernel
theorem dX10_feed_18 : decode mX10_feed.2.1 18 = .ok (.ireturn, 1) := by decide +kernel
theorem dX10_feed_19 : decode mX10_feed.2.1 19 = .ok (.aload_n 0, 1) := by decide +kernel
theorem dX10_feed_20 : decode mX10_feed.2.1 20 = .ok (.iload_n 1, 1) := by decide +kernel
theorem dX10_feed_21 : decode mX10_feed.2.1 21 = .ok (.invokevirtual 226, 3) := by decide +kernel
theorem dX10_feed_24 : decode mX10_feed.2.1 24 = .ok (.aload_n 0, 1) := by decide +kernel
theorem dX10_feed_25 : decode mX10_feed.2.1 25 = .ok (.iload_n 2, 1) := by decide +kernel
theorem dX10_feed_26 : decode mX10_feed.2.1 26 = .ok (.invokevirtual 226, 3) := by decide +kernel
theorem dX10_feed_29 : decode mX10_feed.2.1 29 = .ok (.aload_n 0, 1) := by decide +kernel
theorem dX10_feed_30 : decode mX10_feed.2.1 30 = .ok (.iload_n 3, 1) := by decide +kernel
theorem dX10_feed_31 : decode mX10_feed.2.1 31 = .ok (.invokevirtual 226, 3) := by decide +kernel
theorem dX10_feed_34 : decode mX10_feed.2.1 34 = .ok (.aload_n 0, 1) := by decide +kernel
theorem dX10_feed_35 : decode mX10_feed.2.1 35 = .ok (.iload 4, 2) := by decide +kernel
theorem dX10_feed_37 : decode mX10_feed.2.1 37 = .ok (.invokevirtual 226, 3) := by decide +kernel
theorem dX10_feed_40 : decode mX10_feed.2.1 40 = .ok (.aload_n 0, 1) := by decide +kernel
theorem dX10_feed_41 : decode mX10_feed.2.1 41 = .ok (.iload 5, 2) := by decide +kernel
theorem dX10_feed_43 : decode mX10_feed.2.1 43 = .ok (.invokevirtual 226, 3) := by decide +kernel
theorem dX10_feed_46 : decode mX10_feed.2.1 46 = .ok (.aload_n 0, 1) := by decide +kernel
theorem dX10_feed_47 : decode mX10_feed.2.1 47 = .ok (.getfield 13, 3) := by decide +kernel
theorem dX10_feed_50 : decode mX10_feed.2.1 50 = .ok (.ireturn, 1) := by decide +kernel
abbrev mX10_end : aM := (yX10_end, cX10_end, 2, (some .boolean))
theorem dX10_end_0 : decode mX10_end.2.1 0 = .ok (.iload_n 1, 1) := by decide +kernel
theorem dX10_end_1 : decode mX10_end.2.1 1 = .ok (.ifCond .lt 11, 3) := by decide +kernel
theorem dX10_end_4 : decode mX10_end.2.1 4 = .ok (.iload_n 1, 1) := by decide +kernel
theorem dX10_end_5 : decode mX10_end.2.1 5 = .ok (.aload_n 0, 1) := by decide +kernel
theorem dX10_end_6 : decode mX10_end.2.1 6 = .ok (.getfield 13, 3) := by decide +kernel
theorem dX10_end_9 : decode mX10_end.2.1 9 = .ok (.if_icmp .le 17, 3) := by decide +kernel
theorem dX10_end_12 : decode mX10_end.2.1 12 = .ok (.aload_n 0, 1) := by decide +kernel
theorem dX10_end_13 : decode mX10_end.2.1 13 = .ok (.iconst 0, 1) := by decide +kernel
theorem dX10_end_14 : decode mX10_end.2.1 14 = .ok (.invokevirtual 222, 3) := by decide +kernel
theorem dX10_end_17 : decode mX10_end.2.1 17 = .ok (.ifCond .lt 7, 3) := by decide +kernel
theorem dX10_end_20 : decode mX10_end.2.1 20 = .ok (.iconst 1, 1) := by decide +kernel
theorem dX10_end_21 : decode mX10_end.2.1 21 = .ok (.goto 4, 3) := by decide +kernel
theorem dX10_end_24 : decode mX10_end.2.1 24 = .ok (.iconst 0, 1) := by decide +kernel
theorem dX10_end_25 : decode mX10_end.2.1 25 = .ok (.ireturn, 1) := by decide +kernel
theorem dX10_end_26 : decode mX10_end.2.1 26 = .ok (.aload_n 0, 1) := by decide +kernel
theorem dX10_end_27 : decode mX10_end.2.1 27 = .ok (.iload_n 1, 1) := by decide +kernel
theorem dX10_end_28 : decode mX10_end.2.1 28 = .ok (.putfield 13, 3) := by decide +kernel
theorem dX10_end_31 : decode mX10_end.2.1 31 = .ok (.iconst 1, 1) := by decide +kernel
theorem dX10_end_32 : decode mX10_end.2.1 32 = .ok (.ireturn, 1) := by decide +kernel
abbrev mX10_blame : aM := (yX10_blame, cX10_blame, 3, none)
theorem dX10_blame_0 : decode mX10_blame.2.1 0 = .ok (.aload_n 0, 1) := by decide +kernel
theorem dX10_blame_1 : decode mX10_blame.2.1 1 = .ok (.getfield 36, 3) := by decide +kernel
theorem dX10_blame_4 : decode mX10_blame.2.1 4 = .ok (.ifCond .le 4, 3) := by decide +kernel
theorem dX10_blame_7 : decode mX10_blame.2.1 7 = .ok (.return_, 1) := by decide +kernel
theorem dX10_blame_8 : decode mX10_blame.2.1 8 = .ok (.aload_n 0, 1) := by decide +kernel
theorem dX10_blame_9 : decode mX10_blame.2.1 9 = .ok (.iload_n 1, 1) := by decide +kernel
theorem dX10_blame_10 : decode mX10_blame.2.1 10 = .ok (.putfield 36, 3) := by decide +kernel
theorem dX10_blame_13 : decode mX10_blame.2.1 13 = .ok (.aload_n 0, 1) := by decide +kernel
theorem dX10_blame_14 : decode mX10_blame.2.1 14 = .ok (.iload_n 2, 1) := by decide +kernel
theorem dX10_blame_15 : decode mX10_blame.2.1 15 = .ok (.putfield 39, 3) := by decide +kernel
theorem dX10_blame_18 : decode mX10_blame.2.1 18 = .ok (.return_, 1) := by decide +kernel
abbrev mX10_isLetter : aM := (yX10_isLetter, cX10_isLetter, 1, (some .boolean))
theorem dX10_isLetter_0 : decode mX10_isLetter.2.1 0 = .ok (.iload_n 0, 1) := by decide +kernel
theorem dX10_isLetter_1 : decode mX10_isLetter.2.1 1 = .ok (.bipush 97, 2) := by decide +kernel
theorem dX10_isLetter_3 : decode mX10_isLetter.2.1 3 = .ok (.if_icmp .lt 13, 3) := by decide +kernel
theorem dX10_isLetter_6 : decode mX10_isLetter.2.1 6 = .ok (.iload_n 0, 1) := by decide +kernel
theorem dX10_isLetter_7 : decode mX10_isLetter.2.1 7 = .ok (.bipush 122, 2) := by decide +kernel
theorem dX10_isLetter_9 : decode mX10_isLetter.2.1 9 = .ok (.if_icmp .gt 7, 3) := by decide +kernel
theorem dX10_isLetter_12 : decode mX10_isLetter.2.1 12 = .ok (.iconst 1, 1) := by decide +kernel
theorem dX10_isLetter_13 : decode mX10_isLetter.2.1 13 = .ok (.goto 4, 3) := by decide +kernel
theorem dX10_isLetter_16 : decode mX10_isLetter.2.1 16 = .ok (.iconst 0, 1) := by decide +kernel
theorem dX10_isLetter_17 : decode mX10_isLetter.2.1 17 = .ok (.ireturn, 1) := by decide +kernel
abbrev mX10_isDigit : aM := (yX10_isDigit, cX10_isDigit, 1, (some .boolean))
theorem dX10_isDigit_0 : decode mX10_isDigit.2.1 0 = .ok (.iload_n 0, 1) := by decide +kernel
theorem dX10_isDigit_1 : decode mX10_isDigit.2.1 1 = .ok (.bipush 48, 2) := by decide +kernel
theorem dX10_isDigit_3 : decode mX10_isDigit.2.1 3 = .ok (.if_icmp .lt 13, 3) := by decide +kernel
theorem dX10_isDigit_6 : decode mX10_isDigit.2.1 6 = .ok (.iload_n 0, 1) := by decide +kernel
theorem dX10_isDigit_7 : decode mX10_isDigit.2.1 7 = .ok (.bipush 57, 2) := by decide +kernel
theorem dX10_isDigit_9 : decode mX10_isDigit.2.1 9 = .ok (.if_icmp .gt 7, 3) := by decide +kernel
theorem dX10_isDigit_12 : decode mX10_isDigit.2.1 12 = .ok (.iconst 1, 1) := by decide +kernel
theorem dX10_isDigit_13 : decode mX10_isDigit.2.1 13 = .ok (.goto 4, 3) := by decide +kernel
theorem dX10_isDigit_16 : decode mX10_isDigit.2.1 16 = .ok (.iconst 0, 1) := by decide +kernel
theorem dX10_isDigit_17 : decode mX10_isDigit.2.1 17 = .ok (.ireturn, 1) := by decide +kernel
abbrev mX10_lex : aM := (yX10_lex, cX10_lex, 1, none)
theorem dX10_lex_0 : decode mX10_lex.2.1 0 = .ok (.aload_n 0, 1) := by decide +kernel
theorem dX10_lex_1 : decode mX10_lex.2.1 1 = .ok (.getfield 48, 3) := by decide +kernel
theorem dX10_lex_4 : decode mX10_lex.2.1 4 = .ok (.iconst (-1), 1) := by decide +kernel
theorem dX10_lex_5 : decode mX10_lex.2.1 5 = .ok (.if_icmp .eq 12, 3) := by decide +kernel
theorem dX10_lex_8 : decode mX10_lex.2.1 8 = .ok (.aload_n 0, 1) := by decide +kernel
theorem dX10_lex_9 : decode mX10_lex.2.1 9 = .ok (.iconst 1, 1) := by decide +kernel
theorem dX10_lex_10 : decode mX10_lex.2.1 10 = .ok (.aload_n 0, 1) := by decide +kernel
theorem dX10_lex_11 : decode mX10_lex.2.1 11 = .ok (.getfield 48, 3) := by decide +kernel
theorem dX10_lex_14 : decode mX10_lex.2.1 14 = .ok (.invokevirtual 230, 3) := by decide +kernel
theorem dX10_lex_17 : decode mX10_lex.2.1 17 = .ok (.return_, 1) := by decide +kernel
abbrev mX10_ahead : aM := (yX10_ahead, cX10_ahead, 6, none)
theorem dX10_ahead_0 : decode mX10_ahead.2.1 0 = .ok (.aload_n 0, 1) := by decide +kernel
theorem dX10_ahead_1 : decode mX10_ahead.2.1 1 = .ok (.getfield 26, 3) := by decide +kernel
theorem dX10_ahead_4 : decode mX10_ahead.2.1 4 = .ok (.istore_n 1, 1) := by decide +kernel
theorem dX10_ahead_5 : decode mX10_ahead.2.1 5 = .ok (.iload_n 1, 1) := by decide +kernel
theorem dX10_ahead_6 : decode mX10_ahead.2.1 6 = .ok (.aload_n 0, 1) := by decide +kernel
theorem dX10_ahead_7 : decode mX10_ahead.2.1 7 = .ok (.getfield 17, 3) := by decide +kernel
theorem dX10_ahead_10 : decode mX10_ahead.2.1 10 = .ok (.if_icmp .ge 31, 3) := by decide +kernel
theorem dX10_ahead_13 : decode mX10_ahead.2.1 13 = .ok (.aload_n 0, 1) := by decide +kernel
theorem dX10_ahead_14 : decode mX10_ahead.2.1 14 = .ok (.getfield 7, 3) := by decide +kernel
theorem dX10_ahead_17 : decode mX10_ahead.2.1 17 = .ok (.iload_n 1, 1) := by decide +kernel
theorem dX10_ahead_18 : decode mX10_ahead.2.1 18 = .ok (.iaload, 1) := by decide +kernel
theorem dX10_ahead_19 : decode mX10_ahead.2.1 19 = .ok (.bipush 32, 2) := by decide +kernel
theorem dX10_ahead_21 : decode mX10_ahead.2.1 21 = .ok (.if_icmp .eq 14, 3) := by decide +kernel
theorem dX10_ahead_24 : decode mX10_ahead.2.1 24 = .ok (.aload_n 0, 1) := by decide +kernel
theorem dX10_ahead_25 : decode mX10_ahead.2.1 25 = .ok (.getfield 7, 3) := by decide +kernel
theorem dX10_ahead_28 : decode mX10_ahead.2.1 28 = .ok (.iload_n 1, 1) := by decide +kernel
theorem dX10_ahead_29 : decode mX10_ahead.2.1 29 = .ok (.iaload, 1) := by decide +kernel
theorem dX10_ahead_30 : decode mX10_ahead.2.1 30 = .ok (.bipush 10, 2) := by decide +kernel
theorem dX10_ahead_32 : decode mX10_ahead.2.1 32 = .ok (.if_icmp .ne 9, 3) := by decide +kernel
theorem dX10_ahead_35 : decode mX10_ahead.2.1 35 = .ok (.iinc 1 1, 3) := by decide +kernel
theorem dX10_ahead_38 : decode mX10_ahead.2.1 38 = .ok (.goto (-33), 3) := by decide +kernel
theorem dX10_ahead_41 : decode mX10_ahead.2.1 41 = .ok (.aload_n 0, 1) := by decide +kernel
theorem dX10_ahead_42 : decode mX10_ahead.2.1 42 = .ok (.iload_n 1, 1) := by decide +kernel
theorem dX10_ahead_43 : decode mX10_ahead.2.1 43 = .ok (.putfield 23, 3) := by decide +kernel
theorem dX10_ahead_46 : decode mX10_ahead.2.1 46 = .ok (.aload_n 0, 1) := by decide +kernel
theorem dX10_ahead_47 : decode mX10_ahead.2.1 47 = .ok (.iload_n 1, 1) := by decide +kernel
theorem dX10_ahead_48 : decode mX10_ahead.2.1 48 = .ok (.putfield 26, 3) := by decide +kernel
theorem dX10_ahead_51 : decode mX10_ahead.2.1 51 = .ok (.aload_n 0, 1) := by decide +kernel
theorem dX10_ahead_52 : decode mX10_ahead.2.1 52 = .ok (.iconst 0, 1) := by decide +kernel
theorem dX10_ahead_53 : decode mX10_ahead.2.1 53 = .ok (.putfield 20, 3) := by decide +kernel
theorem dX10_ahead_56 : decode mX10_ahead.2.1 56 = .ok (.aload_n 0, 1) := by decide +kernel
theorem dX10_ahead_57 : decode mX10_ahead.2.1 57 = .ok (.iconst (-1), 1) := by decide +kernel
theorem dX10_ahead_58 : decode mX10_ahead.2.1 58 = .ok (.putfield 48, 3) := by decide +kernel
theorem dX10_ahead_61 : decode mX10_ahead.2.1 61 = .ok (.iload_n 1, 1) := by decide +kernel
theorem dX10_ahead_62 : decode mX10_ahead.2.1 62 = .ok (.aload_n 0, 1) := by decide +kernel
theorem dX10_ahead_63 : decode mX10_ahead.2.1 63 = .ok (.getfield 17, 3) := by decide +kernel
theorem dX10_ahead_66 : decode mX10_ahead.2.1 66 = .ok (.if_icmp .lt 4, 3) := by decide +kernel
theorem dX10_ahead_69 : decode mX10_ahead.2.1 69 = .ok (.return_, 1) := by decide +kernel
theorem dX10_ahead_70 : decode mX10_ahead.2.1 70 = .ok (.aload_n 0, 1) := by decide +kernel
theorem dX10_ahead_71 : decode mX10_ahead.2.1 71 = .ok (.getfield 7, 3) := by decide +kernel
theorem dX10_ahead_74 : decode mX10_ahead.2.1 74 = .ok (.iload_n 1, 1) := by decide +kernel
theorem dX10_ahead_75 : decode mX10_ahead.2.1 75 = .ok (.iaload, 1) := by decide +kernel
theorem dX10_ahead_76 : decode mX10_ahead.2.1 76 = .ok (.invokestatic 234, 3) := by decide +kernel
theorem dX10_ahead_79 : decode mX10_ahead.2.1 79 = .ok (.istore_n 2, 1) := by decide +kernel
theorem dX10_ahead_80 : decode mX10_ahead.2.1 80 = .ok (.aload_n 0, 1) := by decide +kernel
theorem dX10_ahead_81 : decode mX10_ahead.2.1 81 = .ok (.getfield 7, 3) := by decide +kernel
theorem dX10_ahead_84 : decode mX10_ahead.2.1 84 = .ok (.iload_n 1, 1) := by decide +kernel
theorem dX10_ahead_85 : decode mX10_ahead.2.1 85 = .ok (.iaload, 1) := by decide +kernel
theorem dX10_ahead_86 : decode mX10_ahead.2.1 86 = .ok (.invokestatic 238, 3) := by decide +kernel
theorem dX10_ahead_89 : decode mX10_ahead.2.1 89 = .ok (.istore_n 3, 1) := by decide +kernel
theorem dX10_ahead_90 : decode mX10_ahead.2.1 90 = .ok (.iload_n 2, 1) := by decide +kernel
theorem dX10_ahead_91 : decode mX10_ahead.2.1 91 = .ok (.ifCond .ne 7, 3) := by decide +kernel
theorem dX10_ahead_94 : decode mX10_ahead.2.1 94 = .ok (.iload_n 3, 1) := by decide +kernel
theorem dX10_ahead_95 : decode mX10_ahead.2.1 95 = .ok (.ifCond .eq 40, 3) := by decide +kernel
theorem dX10_ahead_98 : decode mX10_ahead.2.1 98 = .ok (.iload_n 1, 1) := by decide +kernel
theorem dX10_ahead_99 : decode mX10_ahead.2.1 99 = .ok (.ifCond .le 36, 3) := by decide +kernel
theorem dX10_ahead_102 : decode mX10_ahead.2.1 102 = .ok (.aload_n 0, 1) := by decide +kernel
theorem dX10_ahead_103 : decode mX10_ahead.2.1 103 = .ok (.getfield 7, 3) := by decide +kernel
theorem dX10_ahead_106 : decode mX10_ahead.2.1 106 = .ok (.iload_n 1, 1) := by decide +kernel
theorem dX10_ahead_107 : decode mX10_ahead.2.1 107 = .ok (.iconst 1, 1) := by decide +kernel
theorem dX10_ahead_108 : decode mX10_ahead.2.1 108 = .ok (.isub, 1) := by decide +kernel
theorem dX10_ahead_109 : decode mX10_ahead.2.1 109 = .ok (.iaload, 1) := by decide +kernel
theorem dX10_ahead_110 : decode mX10_ahead.2.1 110 = .ok (.invokestatic 234, 3) := by decide +kernel
theorem dX10_ahead_113 : decode mX10_ahead.2.1 113 = .ok (.ifCond .ne 17, 3) := by decide +kernel
theorem dX10_ahead_116 : decode mX10_ahead.2.1 116 = .ok (.aload_n 0, 1) := by decide +kernel
theorem dX10_ahead_117 : decode mX10_ahead.2.1 117 = .ok (.getfield 7, 3) := by decide +kernel
theorem dX10_ahead_120 : decode mX10_ahead.2.1 120 = .ok (.iload_n 1, 1) := by decide +kernel
theorem dX10_ahead_121 : decode mX10_ahead.2.1 121 = .ok (.iconst 1, 1) := by decide +kernel
theorem dX10_ahead_122 : decode mX10_ahead.2.1 122 = .ok (.isub, 1) := by decide +kernel
theorem dX10_ahead_123 : decode mX10_ahead.2.1 123 = .ok (.iaload, 1) := by decide +kernel
theorem dX10_ahead_124 : decode mX10_ahead.2.1 124 = .ok (.invokestatic 238, 3) := by decide +kernel
theorem dX10_ahead_127 : decode mX10_ahead.2.1 127 = .ok (.ifCond .eq 8, 3) := by decide +kernel
theorem dX10_ahead_130 : decode mX10_ahead.2.1 130 = .ok (.aload_n 0, 1) := by decide +kernel
theorem dX10_ahead_131 : decode mX10_ahead.2.1 131 = .ok (.iload_n 1, 1) := by decide +kernel
theorem dX10_ahead_132 : decode mX10_ahead.2.1 132 = .ok (.putfield 48, 3) := by decide +kernel
theorem dX10_ahead_135 : decode mX10_ahead.2.1 135 = .ok (.aload_n 0, 1) := by decide +kernel
theorem dX10_ahead_136 : decode mX10_ahead.2.1 136 = .ok (.iconst 0, 1) := by decide +kernel
theorem dX10_ahead_137 : decode mX10_ahead.2.1 137 = .ok (.putfield 29, 3) := by decide +kernel
theorem dX10_ahead_140 : decode mX10_ahead.2.1 140 = .ok (.aload_n 0, 1) := by decide +kernel
theorem dX10_ahead_141 : decode mX10_ahead.2.1 141 = .ok (.lconst 0, 1) := by decide +kernel
theorem dX10_ahead_142 : decode mX10_ahead.2.1 142 = .ok (.putfield 32, 3) := by decide +kernel
theorem dX10_ahead_145 : decode mX10_ahead.2.1 145 = .ok (.aload_n 0, 1) := by decide +kernel
theorem dX10_ahead_146 : decode mX10_ahead.2.1 146 = .ok (.iconst 3, 1) := by decide +kernel
theorem dX10_ahead_147 : decode mX10_ahead.2.1 147 = .ok (.putfield 20, 3) := by decide +kernel
theorem dX10_ahead_150 : decode mX10_ahead.2.1 150 = .ok (.aload_n 0, 1) := by decide +kernel
theorem dX10_ahead_151 : decode mX10_ahead.2.1 151 = .ok (.iload_n 1, 1) := by decide +kernel
theorem dX10_ahead_152 : decode mX10_ahead.2.1 152 = .ok (.iconst 1, 1) := by decide +kernel
theorem dX10_ahead_153 : decode mX10_ahead.2.1 153 = .ok (.iadd, 1) := by decide +kernel
theorem dX10_ahead_154 : decode mX10_ahead.2.1 154 = .ok (.putfield 26, 3) := by decide +kernel
theorem dX10_ahead_157 : decode mX10_ahead.2.1 157 = .ok (.iload_n 2, 1) := by decide +kernel
theorem dX10_ahead_158 : decode mX10_ahead.2.1 158 = .ok (.ifCond .ne 18, 3) := by decide +kernel
theorem dX10_ahead_161 : decode mX10_ahead.2.1 161 = .ok (.iload_n 3, 1) := by decide +kernel
theorem dX10_ahead_162 : decode mX10_ahead.2.1 162 = .ok (.ifCond .ne 14, 3) := by decide +kernel
theorem dX10_ahead_165 : decode mX10_ahead.2.1 165 = .ok (.aload_n 0, 1) := by decide +kernel
theorem dX10_ahead_166 : decode mX10_ahead.2.1 166 = .ok (.aload_n 0, 1) := by decide +kernel
theorem dX10_ahead_167 : decode mX10_ahead.2.1 167 = .ok (.getfield 7, 3) := by decide +kernel
theorem dX10_ahead_170 : decode mX10_ahead.2.1 170 = .ok (.iload_n 1, 1) := by decide +kernel
theorem dX10_ahead_171 : decode mX10_ahead.2.1 171 = .ok (.iaload, 1) := by decide +kernel
theorem dX10_ahead_172 : decode mX10_ahead.2.1 172 = .ok (.putfield 29, 3) := by decide +kernel
theorem dX10_ahead_175 : decode mX10_ahead.2.1 175 = .ok (.return_, 1) := by decide +kernel
theorem dX10_ahead_176 : decode mX10_ahead.2.1 176 = .ok (.aload_n 0, 1) := by decide +kernel
theorem dX10_ahead_177 : decode mX10_ahead.2.1 177 = .ok (.iload_n 2, 1) := by decide +kernel
theorem dX10_ahead_178 : decode mX10_ahead.2.1 178 = .ok (.ifCond .eq 7, 3) := by decide +kernel
theorem dX10_ahead_181 : decode mX10_ahead.2.1 181 = .ok (.iconst 1, 1) := by decide +kernel
theorem dX10_ahead_182 : decode mX10_ahead.2.1 182 = .ok (.goto 4, 3) := by decide +kernel
theorem dX10_ahead_185 : decode mX10_ahead.2.1 185 = .ok (.iconst 2, 1) := by decide +kernel
theorem dX10_ahead_186 : decode mX10_ahead.2.1 186 = .ok (.putfield 20, 3) := by decide +kernel
theorem dX10_ahead_189 : decode mX10_ahead.2.1 189 = .ok (.iload_n 2, 1) := by decide +kernel
theorem dX10_ahead_190 : decode mX10_ahead.2.1 190 = .ok (.ifCond .eq 8, 3) := by decide +kernel
theorem dX10_ahead_193 : decode mX10_ahead.2.1 193 = .ok (.bipush 6, 2) := by decide +kernel
theorem dX10_ahead_195 : decode mX10_ahead.2.1 195 = .ok (.goto 4, 3) := by decide +kernel
theorem dX10_ahead_198 : decode mX10_ahead.2.1 198 = .ok (.iconst 4, 1) := by decide +kernel
theorem dX10_ahead_199 : decode mX10_ahead.2.1 199 = .ok (.istore 4, 2) := by decide +kernel
theorem dX10_ahead_201 : decode mX10_ahead.2.1 201 = .ok (.iconst 0, 1) := by decide +kernel
theorem dX10_ahead_202 : decode mX10_ahead.2.1 202 = .ok (.istore 5, 2) := by decide +kernel
theorem dX10_ahead_204 : decode mX10_ahead.2.1 204 = .ok (.iload_n 1, 1) := by decide +kernel
theorem dX10_ahead_205 : decode mX10_ahead.2.1 205 = .ok (.aload_n 0, 1) := by decide +kernel
theorem dX10_ahead_206 : decode mX10_ahead.2.1 206 = .ok (.getfield 17, 3) := by decide +kernel
theorem dX10_ahead_209 : decode mX10_ahead.2.1 209 = .ok (.if_icmp .ge 125, 3) := by decide +kernel
theorem dX10_ahead_212 : decode mX10_ahead.2.1 212 = .ok (.iload_n 2, 1) := by decide +kernel
theorem dX10_ahead_213 : decode mX10_ahead.2.1 213 = .ok (.ifCond .eq 18, 3) := by decide +kernel
theorem dX10_ahead_216 : decode mX10_ahead.2.1 216 = .ok (.aload_n 0, 1) := by decide +kernel
theorem dX10_ahead_217 : decode mX10_ahead.2.1 217 = .ok (.getfield 7, 3) := by decide +kernel
theorem dX10_ahead_220 : decode mX10_ahead.2.1 220 = .ok (.iload_n 1, 1) := by decide +kernel
theorem dX10_ahead_221 : decode mX10_ahead.2.1 221 = .ok (.iaload, 1) := by decide +kernel
theorem dX10_ahead_222 : decode mX10_ahead.2.1 222 = .ok (.invokestatic 234, 3) := by decide +kernel
theorem dX10_ahead_225 : decode mX10_ahead.2.1 225 = .ok (.ifCond .eq 109, 3) := by decide +kernel
theorem dX10_ahead_228 : decode mX10_ahead.2.1 228 = .ok (.goto 15, 3) := by decide +kernel
theorem dX10_ahead_231 : decode mX10_ahead.2.1 231 = .ok (.aload_n 0, 1) := by decide +kernel
theorem dX10_ahead_232 : decode mX10_ahead.2.1 232 = .ok (.getfield 7, 3) := by decide +kernel
theorem dX10_ahead_235 : decode mX10_ahead.2.1 235 = .ok (.iload_n 1, 1) := by decide +kernel
theorem dX10_ahead_236 : decode mX10_ahead.2.1 236 = .ok (.iaload, 1) := by decide +kernel
theorem dX10_ahead_237 : decode mX10_ahead.2.1 237 = .ok (.invokestatic 238, 3) := by decide +kernel
theorem dX10_ahead_240 : decode mX10_ahead.2.1 240 = .ok (.ifCond .eq 94, 3) := by decide +kernel
theorem dX10_ahead_243 : decode mX10_ahead.2.1 243 = .ok (.iload 5, 2) := by decide +kernel
theorem dX10_ahead_245 : decode mX10_ahead.2.1 245 = .ok (.iload 4, 2) := by decide +kernel
theorem dX10_ahead_247 : decode mX10_ahead.2.1 247 = .ok (.if_icmp .ne 16, 3) := by decide +kernel
theorem dX10_ahead_250 : decode mX10_ahead.2.1 250 = .ok (.aload_n 0, 1) := by decide +kernel
theorem dX10_ahead_251 : decode mX10_ahead.2.1 251 = .ok (.getfield 48, 3) := by decide +kernel
theorem dX10_ahead_254 : decode mX10_ahead.2.1 254 = .ok (.iconst (-1), 1) := by decide +kernel
theorem dX10_ahead_255 : decode mX10_ahead.2.1 255 = .ok (.if_icmp .ne 8, 3) := by decide +kernel
theorem dX10_ahead_258 : decode mX10_ahead.2.1 258 = .ok (.aload_n 0, 1) := by decide +kernel
theorem dX10_ahead_259 : decode mX10_ahead.2.1 259 = .ok (.iload_n 1, 1) := by decide +kernel
theorem dX10_ahead_260 : decode mX10_ahead.2.1 260 = .ok (.putfield 48, 3) := by decide +kernel
theorem dX10_ahead_263 : decode mX10_ahead.2.1 263 = .ok (.iload 5, 2) := by decide +kernel
theorem dX10_ahead_265 : decode mX10_ahead.2.1 265 = .ok (.iload 4, 2) := by decide +kernel
theorem dX10_ahead_267 : decode mX10_ahead.2.1 267 = .ok (.if_icmp .ge 26, 3) := by decide +kernel
theorem dX10_ahead_270 : decode mX10_ahead.2.1 270 = .ok (.iload_n 2, 1) := by decide +kernel
theorem dX10_ahead_271 : decode mX10_ahead.2.1 271 = .ok (.ifCond .eq 22, 3) := by decide +kernel
theorem dX10_ahead_274 : decode mX10_ahead.2.1 274 = .ok (.aload_n 0, 1) := by decide +kernel
theorem dX10_ahead_275 : decode mX10_ahead.2.1 275 = .ok (.aload_n 0, 1) := by decide +kernel
theorem dX10_ahead_276 : decode mX10_ahead.2.1 276 = .ok (.getfield 32, 3) := by decide +kernel
theorem dX10_ahead_279 : decode mX10_ahead.2.1 279 = .ok (.bipush 8, 2) := by decide +kernel
theorem dX10_ahead_281 : decode mX10_ahead.2.1 281 = .ok (.lshl, 1) := by decide +kernel
theorem dX10_ahead_282 : decode mX10_ahead.2.1 282 = .ok (.aload_n 0, 1) := by decide +kernel
theorem dX10_ahead_283 : decode mX10_ahead.2.1 283 = .ok (.getfield 7, 3) := by decide +kernel
theorem dX10_ahead_286 : decode mX10_ahead.2.1 286 = .ok (.iload_n 1, 1) := by decide +kernel
theorem dX10_ahead_287 : decode mX10_ahead.2.1 287 = .ok (.iaload, 1) := by decide +kernel
theorem dX10_ahead_288 : decode mX10_ahead.2.1 288 = .ok (.i2l, 1) := by decide +kernel
theorem dX10_ahead_289 : decode mX10_ahead.2.1 289 = .ok (.lor, 1) := by decide +kernel
theorem dX10_ahead_290 : decode mX10_ahead.2.1 290 = .ok (.putfield 32, 3) := by decide +kernel
theorem dX10_ahead_293 : decode mX10_ahead.2.1 293 = .ok (.iload 5, 2) := by decide +kernel
theorem dX10_ahead_295 : decode mX10_ahead.2.1 295 = .ok (.iload 4, 2) := by decide +kernel
theorem dX10_ahead_297 : decode mX10_ahead.2.1 297 = .ok (.if_icmp .ge 28, 3) := by decide +kernel
theorem dX10_ahead_300 : decode mX10_ahead.2.1 300 = .ok (.iload_n 3, 1) := by decide +kernel
theorem dX10_ahead_301 : decode mX10_ahead.2.1 301 = .ok (.ifCond .eq 24, 3) := by decide +kernel
theorem dX10_ahead_304 : decode mX10_ahead.2.1 304 = .ok (.aload_n 0, 1) := by decide +kernel
theorem dX10_ahead_305 : decode mX10_ahead.2.1 305 = .ok (.bipush 10, 2) := by decide +kernel
theorem dX10_ahead_307 : decode mX10_ahead.2.1 307 = .ok (.aload_n 0, 1) := by decide +kernel
theorem dX10_ahead_308 : decode mX10_ahead.2.1 308 = .ok (.getfield 29, 3) := by decide +kernel
theorem dX10_ahead_311 : decode mX10_ahead.2.1 311 = .ok (.imul, 1) := by decide +kernel
theorem dX10_ahead_312 : decode mX10_ahead.2.1 312 = .ok (.aload_n 0, 1) := by decide +kernel
theorem dX10_ahead_313 : decode mX10_ahead.2.1 313 = .ok (.getfield 7, 3) := by decide +kernel
theorem dX10_ahead_316 : decode mX10_ahead.2.1 316 = .ok (.iload_n 1, 1) := by decide +kernel
theorem dX10_ahead_317 : decode mX10_ahead.2.1 317 = .ok (.iaload, 1) := by decide +kernel
theorem dX10_ahead_318 : decode mX10_ahead.2.1 318 = .ok (.iadd, 1) := by decide +kernel
theorem dX10_ahead_319 : decode mX10_ahead.2.1 319 = .ok (.bipush 48, 2) := by decide +kernel
theorem dX10_ahead_321 : decode mX10_ahead.2.1 321 = .ok (.isub, 1) := by decide +kernel
theorem dX10_ahead_322 : decode mX10_ahead.2.1 322 = .ok (.putfield 29, 3) := by decide +kernel
theorem dX10_ahead_325 : decode mX10_ahead.2.1 325 = .ok (.iinc 5 1, 3) := by decide +kernel
theorem dX10_ahead_328 : decode mX10_ahead.2.1 328 = .ok (.iinc 1 1, 3) := by decide +kernel
theorem dX10_ahead_331 : decode mX10_ahead.2.1 331 = .ok (.goto (-127), 3) := by decide +kernel
theorem dX10_ahead_334 : decode mX10_ahead.2.1 334 = .ok (.aload_n 0, 1) := by decide +kernel
theorem dX10_ahead_335 : decode mX10_ahead.2.1 335 = .ok (.iload_n 1, 1) := by decide +kernel
theorem dX10_ahead_336 : decode mX10_ahead.2.1 336 = .ok (.putfield 26, 3) := by decide +kernel
theorem dX10_ahead_339 : decode mX10_ahead.2.1 339 = .ok (.return_, 1) := by decide +kernel
abbrev mX10_isSign : aM := (yX10_isSign, cX10_isSign, 2, (some .boolean))
theorem dX10_isSign_0 : decode mX10_isSign.2.1 0 = .ok (.aload_n 0, 1) := by decide +kernel
theorem dX10_isSign_1 : decode mX10_isSign.2.1 1 = .ok (.getfield 20, 3) := by decide +kernel
theorem dX10_isSign_4 : decode mX10_isSign.2.1 4 = .ok (.iconst 3, 1) := by decide +kernel
theorem dX10_isSign_5 : decode mX10_isSign.2.1 5 = .ok (.if_icmp .ne 15, 3) := by decide +kernel
theorem dX10_isSign_8 : decode mX10_isSign.2.1 8 = .ok (.aload_n 0, 1) := by decide +kernel
theorem dX10_isSign_9 : decode mX10_isSign.2.1 9 = .ok (.getfield 29, 3) := by decide +kernel
theorem dX10_isSign_12 : decode mX10_isSign.2.1 12 = .ok (.iload_n 1, 1) := by decide +kernel
theorem dX10_isSign_13 : decode mX10_isSign.2.1 13 = .ok (.if_icmp .ne 7, 3) := by decide +kernel
theorem dX10_isSign_16 : decode mX10_isSign.2.1 16 = .ok (.iconst 1, 1) := by decide +kernel
theorem dX10_isSign_17 : decode mX10_isSign.2.1 17 = .ok (.goto 4, 3) := by decide +kernel
theorem dX10_isSign_20 : decode mX10_isSign.2.1 20 = .ok (.iconst 0, 1) := by decide +kernel
theorem dX10_isSign_21 : decode mX10_isSign.2.1 21 = .ok (.ireturn, 1) := by decide +kernel
abbrev mX10_isWord : aM := (yX10_isWord, cX10_isWord, 3, (some .boolean))
theorem dX10_isWord_0 : decode mX10_isWord.2.1 0 = .ok (.aload_n 0, 1) := by decide +kernel
theorem dX10_isWord_1 : decode mX10_isWord.2.1 1 = .ok (.getfield 20, 3) := by decide +kernel
theorem dX10_isWord_4 : decode mX10_isWord.2.1 4 = .ok (.iconst 1, 1) := by decide +kernel
theorem dX10_isWord_5 : decode mX10_isWord.2.1 5 = .ok (.if_icmp .ne 16, 3) := by decide +kernel
theorem dX10_isWord_8 : decode mX10_isWord.2.1 8 = .ok (.aload_n 0, 1) := by decide +kernel
theorem dX10_isWord_9 : decode mX10_isWord.2.1 9 = .ok (.getfield 32, 3) := by decide +kernel
theorem dX10_isWord_12 : decode mX10_isWord.2.1 12 = .ok (.lload_n 1, 1) := by decide +kernel
theorem dX10_isWord_13 : decode mX10_isWord.2.1 13 = .ok (.lcmp, 1) := by decide +kernel
theorem dX10_isWord_14 : decode mX10_isWord.2.1 14 = .ok (.ifCond .ne 7, 3) := by decide +kernel
theorem dX10_isWord_17 : decode mX10_isWord.2.1 17 = .ok (.iconst 1, 1) := by decide +kernel
theorem dX10_isWord_18 : decode mX10_isWord.2.1 18 = .ok (.goto 4, 3) := by decide +kernel
theorem dX10_isWord_21 : decode mX10_isWord.2.1 21 = .ok (.iconst 0, 1) := by decide +kernel
theorem dX10_isWord_22 : decode mX10_isWord.2.1 22 = .ok (.ireturn, 1) := by decide +kernel
abbrev mX10_must : aM := (yX10_must, cX10_must, 2, none)
theorem dX10_must_0 : decode mX10_must.2.1 0 = .ok (.aload_n 0, 1) := by decide +kernel
theorem dX10_must_1 : decode mX10_must.2.1 1 = .ok (.invokevirtual 241, 3) := by decide +kernel
theorem dX10_must_4 : decode mX10_must.2.1 4 = .ok (.aload_n 0, 1) := by decide +kernel
theorem dX10_must_5 : decode mX10_must.2.1 5 = .ok (.iload_n 1, 1) := by decide +kernel
theorem dX10_must_6 : decode mX10_must.2.1 6 = .ok (.invokevirtual 244, 3) := by decide +kernel
theorem dX10_must_9 : decode mX10_must.2.1 9 = .ok (.ifCond .ne 12, 3) := by decide +kernel
theorem dX10_must_12 : decode mX10_must.2.1 12 = .ok (.aload_n 0, 1) := by decide +kernel
theorem dX10_must_13 : decode mX10_must.2.1 13 = .ok (.iconst 1, 1) := by decide +kernel
theorem dX10_must_14 : decode mX10_must.2.1 14 = .ok (.aload_n 0, 1) := by decide +kernel
theorem dX10_must_15 : decode mX10_must.2.1 15 = .ok (.getfield 23, 3) := by decide +kernel
theorem dX10_must_18 : decode mX10_must.2.1 18 = .ok (.invokevirtual 230, 3) := by decide +kernel
theorem dX10_must_21 : decode mX10_must.2.1 21 = .ok (.aload_n 0, 1) := by decide +kernel
theorem dX10_must_22 : decode mX10_must.2.1 22 = .ok (.getfield 36, 3) := by decide +kernel
theorem dX10_must_25 : decode mX10_must.2.1 25 = .ok (.ifCond .ne 7, 3) := by decide +kernel
theorem dX10_must_28 : decode mX10_must.2.1 28 = .ok (.aload_n 0, 1) := by decide +kernel
theorem dX10_must_29 : decode mX10_must.2.1 29 = .ok (.invokevirtual 247, 3) := by decide +kernel
theorem dX10_must_32 : decode mX10_must.2.1 32 = .ok (.return_, 1) := by decide +kernel
abbrev mX10_isOwn : aM := (yX10_isOwn, cX10_isOwn, 3, (some .boolean))
theorem dX10_isOwn_0 : decode mX10_isOwn.2.1 0 = .ok (.lload_n 1, 1) := by decide +kernel
theorem dX10_isOwn_1 : decode mX10_isOwn.2.1 1 = .ok (.ldc2_w 250, 3) := by decide +kernel
theorem dX10_isOwn_4 : decode mX10_isOwn.2.1 4 = .ok (.lcmp, 1) := by decide +kernel
theorem dX10_isOwn_5 : decode mX10_isOwn.2.1 5 = .ok (.ifCond .eq 35, 3) := by decide +kernel
theorem dX10_isOwn_8 : decode mX10_isOwn.2.1 8 = .ok (.lload_n 1, 1) := by decide +kernel
theorem dX10_isOwn_9 : decode mX10_isOwn.2.1 9 = .ok (.ldc2_w 252, 3) := by decide +kernel
theorem dX10_isOwn_12 : decode mX10_isOwn.2.1 12 = .ok (.lcmp, 1) := by decide +kernel
theorem dX10_isOwn_13 : decode mX10_isOwn.2.1 13 = .ok (.ifCond .eq 27, 3) := by decide +kernel
theorem dX10_isOwn_16 : decode mX10_isOwn.2.1 16 = .ok (.lload_n 1, 1) := by decide +kernel
theorem dX10_isOwn_17 : decode mX10_isOwn.2.1 17 = .ok (.ldc2_w 254, 3) := by decide +kernel
theorem dX10_isOwn_20 : decode mX10_isOwn.2.1 20 = .ok (.lcmp, 1) := by decide +kernel
theorem dX10_isOwn_21 : decode mX10_isOwn.2.1 21 = .ok (.ifCond .eq 19, 3) := by decide +kernel
theorem dX10_isOwn_24 : decode mX10_isOwn.2.1 24 = .ok (.lload_n 1, 1) := by decide +kernel
theorem dX10_isOwn_25 : decode mX10_isOwn.2.1 25 = .ok (.ldc2_w 256, 3) := by decide +kernel
theorem dX10_isOwn_28 : decode mX10_isOwn.2.1 28 = .ok (.lcmp, 1) := by decide +kernel
theorem dX10_isOwn_29 : decode mX10_isOwn.2.1 29 = .ok (.ifCond .eq 11, 3) := by decide +kernel
theorem dX10_isOwn_32 : decode mX10_isOwn.2.1 32 = .ok (.lload_n 1, 1) := by decide +kernel
theorem dX10_isOwn_33 : decode mX10_isOwn.2.1 33 = .ok (.ldc2_w 258, 3) := by decide +kernel
theorem dX10_isOwn_36 : decode mX10_isOwn.2.1 36 = .ok (.lcmp, 1) := by decide +kernel
theorem dX10_isOwn_37 : decode mX10_isOwn.2.1 37 = .ok (.ifCond .ne 5, 3) := by decide +kernel
theorem dX10_isOwn_40 : decode mX10_isOwn.2.1 40 = .ok (.iconst 1, 1) := by decide +kernel
theorem dX10_isOwn_41 : decode mX10_isOwn.2.1 41 = .ok (.ireturn, 1) := by decide +kernel
theorem dX10_isOwn_42 : decode mX10_isOwn.2.1 42 = .ok (.lload_n 1, 1) := by decide +kernel
theorem dX10_isOwn_43 : decode mX10_isOwn.2.1 43 = .ok (.ldc2_w 260, 3) := by decide +kernel
theorem dX10_isOwn_46 : decode mX10_isOwn.2.1 46 = .ok (.lcmp, 1) := by decide +kernel
theorem dX10_isOwn_47 : decode mX10_isOwn.2.1 47 = .ok (.ifCond .eq 35, 3) := by decide +kernel
theorem dX10_isOwn_50 : decode mX10_isOwn.2.1 50 = .ok (.lload_n 1, 1) := by decide +kernel
theorem dX10_isOwn_51 : decode mX10_isOwn.2.1 51 = .ok (.ldc2_w 262, 3) := by decide +kernel
theorem dX10_isOwn_54 : decode mX10_isOwn.2.1 54 = .ok (.lcmp, 1) := by decide +kernel
theorem dX10_isOwn_55 : decode mX10_isOwn.2.1 55 = .ok (.ifCond .eq 27, 3) := by decide +kernel
theorem dX10_isOwn_58 : decode mX10_isOwn.2.1 58 = .ok (.lload_n 1, 1) := by decide +kernel
theorem dX10_isOwn_59 : decode mX10_isOwn.2.1 59 = .ok (.ldc2_w 264, 3) := by decide +kernel
theorem dX10_isOwn_62 : decode mX10_isOwn.2.1 62 = .ok (.lcmp, 1) := by decide +kernel
theorem dX10_isOwn_63 : decode mX10_isOwn.2.1 63 = .ok (.ifCond .eq 19, 3) := by decide +kernel
theorem dX10_isOwn_66 : decode mX10_isOwn.2.1 66 = .ok (.lload_n 1, 1) := by decide +kernel
theorem dX10_isOwn_67 : decode mX10_isOwn.2.1 67 = .ok (.ldc2_w 266, 3) := by decide +kernel
theorem dX10_isOwn_70 : decode mX10_isOwn.2.1 70 = .ok (.lcmp, 1) := by decide +kernel
theorem dX10_isOwn_71 : decode mX10_isOwn.2.1 71 = .ok (.ifCond .eq 11, 3) := by decide +kernel
theorem dX10_isOwn_74 : decode mX10_isOwn.2.1 74 = .ok (.lload_n 1, 1) := by decide +kernel
theorem dX10_isOwn_75 : decode mX10_isOwn.2.1 75 = .ok (.ldc2_w 268, 3) := by decide +kernel
theorem dX10_isOwn_78 : decode mX10_isOwn.2.1 78 = .ok (.lcmp, 1) := by decide +kernel
theorem dX10_isOwn_79 : decode mX10_isOwn.2.1 79 = .ok (.ifCond .ne 5, 3) := by decide +kernel
theorem dX10_isOwn_82 : decode mX10_isOwn.2.1 82 = .ok (.iconst 1, 1) := by decide +kernel
theorem dX10_isOwn_83 : decode mX10_isOwn.2.1 83 = .ok (.ireturn, 1) := by decide +kernel
theorem dX10_isOwn_84 : decode mX10_isOwn.2.1 84 = .ok (.lload_n 1, 1) := by decide +kernel
theorem dX10_isOwn_85 : decode mX10_isOwn.2.1 85 = .ok (.ldc2_w 270, 3) := by decide +kernel
theorem dX10_isOwn_88 : decode mX10_isOwn.2.1 88 = .ok (.lcmp, 1) := by decide +kernel
theorem dX10_isOwn_89 : decode mX10_isOwn.2.1 89 = .ok (.ifCond .eq 35, 3) := by decide +kernel
theorem dX10_isOwn_92 : decode mX10_isOwn.2.1 92 = .ok (.lload_n 1, 1) := by decide +kernel
theorem dX10_isOwn_93 : decode mX10_isOwn.2.1 93 = .ok (.ldc2_w 272, 3) := by decide +kernel
theorem dX10_isOwn_96 : decode mX10_isOwn.2.1 96 = .ok (.lcmp, 1) := by decide +kernel
theorem dX10_isOwn_97 : decode mX10_isOwn.2.1 97 = .ok (.ifCond .eq 27, 3) := by decide +kernel
theorem dX10_isOwn_100 : decode mX10_isOwn.2.1 100 = .ok (.lload_n 1, 1) := by decide +kernel
theorem dX10_isOwn_101 : decode mX10_isOwn.2.1 101 = .ok (.ldc2_w 274, 3) := by decide +kernel
theorem dX10_isOwn_104 : decode mX10_isOwn.2.1 104 = .ok (.lcmp, 1) := by decide +kernel
theorem dX10_isOwn_105 : decode mX10_isOwn.2.1 105 = .ok (.ifCond .eq 19, 3) := by decide +kernel
theorem dX10_isOwn_108 : decode mX10_isOwn.2.1 108 = .ok (.lload_n 1, 1) := by decide +kernel
theorem dX10_isOwn_109 : decode mX10_isOwn.2.1 109 = .ok (.ldc2_w 276, 3) := by decide +kernel
theorem dX10_isOwn_112 : decode mX10_isOwn.2.1 112 = .ok (.lcmp, 1) := by decide +kernel
theorem dX10_isOwn_113 : decode mX10_isOwn.2.1 113 = .ok (.ifCond .eq 11, 3) := by decide +kernel
theorem dX10_isOwn_116 : decode mX10_isOwn.2.1 116 = .ok (.lload_n 1, 1) := by decide +kernel
theorem dX10_isOwn_117 : decode mX10_isOwn.2.1 117 = .ok (.ldc2_w 278, 3) := by decide +kernel
theorem dX10_isOwn_120 : decode mX10_isOwn.2.1 120 = .ok (.lcmp, 1) := by decide +kernel
theorem dX10_isOwn_121 : decode mX10_isOwn.2.1 121 = .ok (.ifCond .ne 5, 3) := by decide +kernel
theorem dX10_isOwn_124 : decode mX10_isOwn.2.1 124 = .ok (.iconst 1, 1) := by decide +kernel
theorem dX10_isOwn_125 : decode mX10_isOwn.2.1 125 = .ok (.ireturn, 1) := by decide +kernel
theorem dX10_isOwn_126 : decode mX10_isOwn.2.1 126 = .ok (.lload_n 1, 1) := by decide +kernel
theorem dX10_isOwn_127 : decode mX10_isOwn.2.1 127 = .ok (.ldc2_w 280, 3) := by decide +kernel
theorem dX10_isOwn_130 : decode mX10_isOwn.2.1 130 = .ok (.lcmp, 1) := by decide +kernel
theorem dX10_isOwn_131 : decode mX10_isOwn.2.1 131 = .ok (.ifCond .eq 35, 3) := by decide +kernel
theorem dX10_isOwn_134 : decode mX10_isOwn.2.1 134 = .ok (.lload_n 1, 1) := by decide +kernel
theorem dX10_isOwn_135 : decode mX10_isOwn.2.1 135 = .ok (.ldc2_w 282, 3) := by decide +kernel
theorem dX10_isOwn_138 : decode mX10_isOwn.2.1 138 = .ok (.lcmp, 1) := by decide +kernel
theorem dX10_isOwn_139 : decode mX10_isOwn.2.1 139 = .ok (.ifCond .eq 27, 3) := by decide +kernel
theorem dX10_isOwn_142 : decode mX10_isOwn.2.1 142 = .ok (.lload_n 1, 1) := by decide +kernel
theorem dX10_isOwn_143 : decode mX10_isOwn.2.1 143 = .ok (.ldc2_w 284, 3) := by decide +kernel
theorem dX10_isOwn_146 : decode mX10_isOwn.2.1 146 = .ok (.lcmp, 1) := by decide +kernel
theorem dX10_isOwn_147 : decode mX10_isOwn.2.1 147 = .ok (.ifCond .eq 19, 3) := by decide +kernel
theorem dX10_isOwn_150 : decode mX10_isOwn.2.1 150 = .ok (.lload_n 1, 1) := by decide +kernel
theorem dX10_isOwn_151 : decode mX10_isOwn.2.1 151 = .ok (.ldc2_w 286, 3) := by decide +kernel
theorem dX10_isOwn_154 : decode mX10_isOwn.2.1 154 = .ok (.lcmp, 1) := by decide +kernel
theorem dX10_isOwn_155 : decode mX10_isOwn.2.1 155 = .ok (.ifCond .eq 11, 3) := by decide +kernel
theorem dX10_isOwn_158 : decode mX10_isOwn.2.1 158 = .ok (.lload_n 1, 1) := by decide +kernel
theorem dX10_isOwn_159 : decode mX10_isOwn.2.1 159 = .ok (.ldc2_w 288, 3) := by decide +kernel
theorem dX10_isOwn_162 : decode mX10_isOwn.2.1 162 = .ok (.lcmp, 1) := by decide +kernel
theorem dX10_isOwn_163 : decode mX10_isOwn.2.1 163 = .ok (.ifCond .ne 5, 3) := by decide +kernel
theorem dX10_isOwn_166 : decode mX10_isOwn.2.1 166 = .ok (.iconst 1, 1) := by decide +kernel
theorem dX10_isOwn_167 : decode mX10_isOwn.2.1 167 = .ok (.ireturn, 1) := by decide +kernel
theorem dX10_isOwn_168 : decode mX10_isOwn.2.1 168 = .ok (.lload_n 1, 1) := by decide +kernel
theorem dX10_isOwn_169 : decode mX10_isOwn.2.1 169 = .ok (.ldc2_w 290, 3) := by decide +kernel
theorem dX10_isOwn_172 : decode mX10_isOwn.2.1 172 = .ok (.lcmp, 1) := by decide +kernel
theorem dX10_isOwn_173 : decode mX10_isOwn.2.1 173 = .ok (.ifCond .eq 35, 3) := by decide +kernel
theorem dX10_isOwn_176 : decode mX10_isOwn.2.1 176 = .ok (.lload_n 1, 1) := by decide +kernel
theorem dX10_isOwn_177 : decode mX10_isOwn.2.1 177 = .ok (.ldc2_w 292, 3) := by decide +kernel
theorem dX10_isOwn_180 : decode mX10_isOwn.2.1 180 = .ok (.lcmp, 1) := by decide +kernel
theorem dX10_isOwn_181 : decode mX10_isOwn.2.1 181 = .ok (.ifCond .eq 27, 3) := by decide +kernel
theorem dX10_isOwn_184 : decode mX10_isOwn.2.1 184 = .ok (.lload_n 1, 1) := by decide +kernel
theorem dX10_isOwn_185 : decode mX10_isOwn.2.1 185 = .ok (.ldc2_w 294, 3) := by decide +kernel
theorem dX10_isOwn_188 : decode mX10_isOwn.2.1 188 = .ok (.lcmp, 1) := by decide +kernel
theorem dX10_isOwn_189 : decode mX10_isOwn.2.1 189 = .ok (.ifCond .eq 19, 3) := by decide +kernel
theorem dX10_isOwn_192 : decode mX10_isOwn.2.1 192 = .ok (.lload_n 1, 1) := by decide +kernel
theorem dX10_isOwn_193 : decode mX10_isOwn.2.1 193 = .ok (.ldc2_w 296, 3) := by decide +kernel
theorem dX10_isOwn_196 : decode mX10_isOwn.2.1 196 = .ok (.lcmp, 1) := by decide +kernel
theorem dX10_isOwn_197 : decode mX10_isOwn.2.1 197 = .ok (.ifCond .eq 11, 3) := by decide +kernel
theorem dX10_isOwn_200 : decode mX10_isOwn.2.1 200 = .ok (.lload_n 1, 1) := by decide +kernel
theorem dX10_isOwn_201 : decode mX10_isOwn.2.1 201 = .ok (.ldc2_w 298, 3) := by decide +kernel
theorem dX10_isOwn_204 : decode mX10_isOwn.2.1 204 = .ok (.lcmp, 1) := by decide +kernel
theorem dX10_isOwn_205 : decode mX10_isOwn.2.1 205 = .ok (.ifCond .ne 5, 3) := by decide +kernel
theorem dX10_isOwn_208 : decode mX10_isOwn.2.1 208 = .ok (.iconst 1, 1) := by decide +kernel
theorem dX10_isOwn_209 : decode mX10_isOwn.2.1 209 = .ok (.ireturn, 1) := by decide +kernel
theorem dX10_isOwn_210 : decode mX10_isOwn.2.1 210 = .ok (.lload_n 1, 1) := by decide +kernel
theorem dX10_isOwn_211 : decode mX10_isOwn.2.1 211 = .ok (.ldc2_w 300, 3) := by decide +kernel
theorem dX10_isOwn_214 : decode mX10_isOwn.2.1 214 = .ok (.lcmp, 1) := by decide +kernel
theorem dX10_isOwn_215 : decode mX10_isOwn.2.1 215 = .ok (.ifCond .eq 11, 3) := by decide +kernel
theorem dX10_isOwn_218 : decode mX10_isOwn.2.1 218 = .ok (.lload_n 1, 1) := by decide +kernel
theorem dX10_isOwn_219 : decode mX10_isOwn.2.1 219 = .ok (.ldc2_w 302, 3) := by decide +kernel
theorem dX10_isOwn_222 : decode mX10_isOwn.2.1 222 = .ok (.lcmp, 1) := by decide +kernel
theorem dX10_isOwn_223 : decode mX10_isOwn.2.1 223 = .ok (.ifCond .ne 5, 3) := by decide +kernel
theorem dX10_isOwn_226 : decode mX10_isOwn.2.1 226 = .ok (.iconst 1, 1) := by decide +kernel
theorem dX10_isOwn_227 : decode mX10_isOwn.2.1 227 = .ok (.ireturn, 1) := by decide +kernel
theorem dX10_isOwn_228 : decode mX10_isOwn.2.1 228 = .ok (.iconst 0, 1) := by decide +kernel
theorem dX10_isOwn_229 : decode mX10_isOwn.2.1 229 = .ok (.ireturn, 1) := by decide +kernel
abbrev mX10_manyOf : aM := (yX10_manyOf, cX10_manyOf, 3, (some .int))
theorem dX10_manyOf_0 : decode mX10_manyOf.2.1 0 = .ok (.iload_n 2, 1) := by decide +kernel
theorem dX10_manyOf_1 : decode mX10_manyOf.2.1 1 = .ok (.ifCond .ne 12, 3) := by decide +kernel
theorem dX10_manyOf_4 : decode mX10_manyOf.2.1 4 = .ok (.aload_n 0, 1) := by decide +kernel
theorem dX10_manyOf_5 : decode mX10_manyOf.2.1 5 = .ok (.getfield 54, 3) := by decide +kernel
theorem dX10_manyOf_8 : decode mX10_manyOf.2.1 8 = .ok (.iload_n 1, 1) := by decide +kernel
theorem dX10_manyOf_9 : decode mX10_manyOf.2.1 9 = .ok (.iaload, 1) := by decide +kernel
theorem dX10_manyOf_10 : decode mX10_manyOf.2.1 10 = .ok (.goto 23, 3) := by decide +kernel
theorem dX10_manyOf_13 : decode mX10_manyOf.2.1 13 = .ok (.iload_n 2, 1) := by decide +kernel
theorem dX10_manyOf_14 : decode mX10_manyOf.2.1 14 = .ok (.iconst 1, 1) := by decide +kernel
theorem dX10_manyOf_15 : decode mX10_manyOf.2.1 15 = .ok (.if_icmp .ne 12, 3) := by decide +kernel
theorem dX10_manyOf_18 : decode mX10_manyOf.2.1 18 = .ok (.aload_n 0, 1) := by decide +kernel
theorem dX10_manyOf_19 : decode mX10_manyOf.2.1 19 = .ok (.getfield 63, 3) := by decide +kernel
theorem dX10_manyOf_22 : decode mX10_manyOf.2.1 22 = .ok (.iload_n 1, 1) := by decide +kernel
theorem dX10_manyOf_23 : decode mX10_manyOf.2.1 23 = .ok (.iaload, 1) := by decide +kernel
theorem dX10_manyOf_24 : decode mX10_manyOf.2.1 24 = .ok (.goto 9, 3) := by decide +kernel
theorem dX10_manyOf_27 : decode mX10_manyOf.2.1 27 = .ok (.aload_n 0, 1) := by decide +kernel
theorem dX10_manyOf_28 : decode mX10_manyOf.2.1 28 = .ok (.getfield 72, 3) := by decide +kernel
theorem dX10_manyOf_31 : decode mX10_manyOf.2.1 31 = .ok (.iload_n 1, 1) := by decide +kernel
theorem dX10_manyOf_32 : decode mX10_manyOf.2.1 32 = .ok (.iaload, 1) := by decide +kernel
theorem dX10_manyOf_33 : decode mX10_manyOf.2.1 33 = .ok (.ireturn, 1) := by decide +kernel
abbrev mX10_nameOf : aM := (yX10_nameOf, cX10_nameOf, 4, (some .long))
theorem dX10_nameOf_0 : decode mX10_nameOf.2.1 0 = .ok (.iload_n 2, 1) := by decide +kernel
theorem dX10_nameOf_1 : decode mX10_nameOf.2.1 1 = .ok (.ifCond .ne 16, 3) := by decide +kernel
theorem dX10_nameOf_4 : decode mX10_nameOf.2.1 4 = .ok (.aload_n 0, 1) := by decide +kernel
theorem dX10_nameOf_5 : decode mX10_nameOf.2.1 5 = .ok (.getfield 99, 3) := by decide +kernel
theorem dX10_nameOf_8 : decode mX10_nameOf.2.1 8 = .ok (.iconst 5, 1) := by decide +kernel
theorem dX10_nameOf_9 : decode mX10_nameOf.2.1 9 = .ok (.iload_n 1, 1) := by decide +kernel
theorem dX10_nameOf_10 : decode mX10_nameOf.2.1 10 = .ok (.imul, 1) := by decide +kernel
theorem dX10_nameOf_11 : decode mX10_nameOf.2.1 11 = .ok (.iload_n 3, 1) := by decide +kernel
theorem dX10_nameOf_12 : decode mX10_nameOf.2.1 12 = .ok (.iadd, 1) := by decide +kernel
theorem dX10_nameOf_13 : decode mX10_nameOf.2.1 13 = .ok (.laload, 1) := by decide +kernel
theorem dX10_nameOf_14 : decode mX10_nameOf.2.1 14 = .ok (.goto 33, 3) := by decide +kernel
theorem dX10_nameOf_17 : decode mX10_nameOf.2.1 17 = .ok (.iload_n 2, 1) := by decide +kernel
theorem dX10_nameOf_18 : decode mX10_nameOf.2.1 18 = .ok (.iconst 1, 1) := by decide +kernel
theorem dX10_nameOf_19 : decode mX10_nameOf.2.1 19 = .ok (.if_icmp .ne 17, 3) := by decide +kernel
theorem dX10_nameOf_22 : decode mX10_nameOf.2.1 22 = .ok (.aload_n 0, 1) := by decide +kernel
theorem dX10_nameOf_23 : decode mX10_nameOf.2.1 23 = .ok (.getfield 103, 3) := by decide +kernel
theorem dX10_nameOf_26 : decode mX10_nameOf.2.1 26 = .ok (.bipush 6, 2) := by decide +kernel
theorem dX10_nameOf_28 : decode mX10_nameOf.2.1 28 = .ok (.iload_n 1, 1) := by decide +kernel
theorem dX10_nameOf_29 : decode mX10_nameOf.2.1 29 = .ok (.imul, 1) := by decide +kernel
theorem dX10_nameOf_30 : decode mX10_nameOf.2.1 30 = .ok (.iload_n 3, 1) := by decide +kernel
theorem dX10_nameOf_31 : decode mX10_nameOf.2.1 31 = .ok (.iadd, 1) := by decide +kernel
theorem dX10_nameOf_32 : decode mX10_nameOf.2.1 32 = .ok (.laload, 1) := by decide +kernel
theorem dX10_nameOf_33 : decode mX10_nameOf.2.1 33 = .ok (.goto 14, 3) := by decide +kernel
theorem dX10_nameOf_36 : decode mX10_nameOf.2.1 36 = .ok (.aload_n 0, 1) := by decide +kernel
theorem dX10_nameOf_37 : decode mX10_nameOf.2.1 37 = .ok (.getfield 106, 3) := by decide +kernel
theorem dX10_nameOf_40 : decode mX10_nameOf.2.1 40 = .ok (.bipush 6, 2) := by decide +kernel
theorem dX10_nameOf_42 : decode mX10_nameOf.2.1 42 = .ok (.iload_n 1, 1) := by decide +kernel
theorem dX10_nameOf_43 : decode mX10_nameOf.2.1 43 = .ok (.imul, 1) := by decide +kernel
theorem dX10_nameOf_44 : decode mX10_nameOf.2.1 44 = .ok (.iload_n 3, 1) := by decide +kernel
theorem dX10_nameOf_45 : decode mX10_nameOf.2.1 45 = .ok (.iadd, 1) := by decide +kernel
theorem dX10_nameOf_46 : decode mX10_nameOf.2.1 46 = .ok (.laload, 1) := by decide +kernel
theorem dX10_nameOf_47 : decode mX10_nameOf.2.1 47 = .ok (.lreturn, 1) := by decide +kernel
abbrev mX10_named : aM := (yX10_named, cX10_named, 5, (some .int))
theorem dX10_named_0 : decode mX10_named.2.1 0 = .ok (.iconst 0, 1) := by decide +kernel
theorem dX10_named_1 : decode mX10_named.2.1 1 = .ok (.istore 4, 2) := by decide +kernel
theorem dX10_named_3 : decode mX10_named.2.1 3 = .ok (.iload 4, 2) := by decide +kernel
theorem dX10_named_5 : decode mX10_named.2.1 5 = .ok (.aload_n 0, 1) := by decide +kernel
theorem dX10_named_6 : decode mX10_named.2.1 6 = .ok (.aload_n 0, 1) := by decide +kernel
theorem dX10_named_7 : decode mX10_named.2.1 7 = .ok (.getfield 112, 3) := by decide +kernel
theorem dX10_named_10 : decode mX10_named.2.1 10 = .ok (.iload_n 1, 1) := by decide +kernel
theorem dX10_named_11 : decode mX10_named.2.1 11 = .ok (.invokevirtual 304, 3) := by decide +kernel
theorem dX10_named_14 : decode mX10_named.2.1 14 = .ok (.if_icmp .ge 28, 3) := by decide +kernel
theorem dX10_named_17 : decode mX10_named.2.1 17 = .ok (.aload_n 0, 1) := by decide +kernel
theorem dX10_named_18 : decode mX10_named.2.1 18 = .ok (.aload_n 0, 1) := by decide +kernel
theorem dX10_named_19 : decode mX10_named.2.1 19 = .ok (.getfield 112, 3) := by decide +kernel
theorem dX10_named_22 : decode mX10_named.2.1 22 = .ok (.iload_n 1, 1) := by decide +kernel
theorem dX10_named_23 : decode mX10_named.2.1 23 = .ok (.iload 4, 2) := by decide +kernel
theorem dX10_named_25 : decode mX10_named.2.1 25 = .ok (.invokevirtual 308, 3) := by decide +kernel
theorem dX10_named_28 : decode mX10_named.2.1 28 = .ok (.lload_n 2, 1) := by decide +kernel
theorem dX10_named_29 : decode mX10_named.2.1 29 = .ok (.lcmp, 1) := by decide +kernel
theorem dX10_named_30 : decode mX10_named.2.1 30 = .ok (.ifCond .ne 6, 3) := by decide +kernel
theorem dX10_named_33 : decode mX10_named.2.1 33 = .ok (.iload 4, 2) := by decide +kernel
theorem dX10_named_35 : decode mX10_named.2.1 35 = .ok (.ireturn, 1) := by decide +kernel
theorem dX10_named_36 : decode mX10_named.2.1 36 = .ok (.iinc 4 1, 3) := by decide +kernel
theorem dX10_named_39 : decode mX10_named.2.1 39 = .ok (.goto (-36), 3) := by decide +kernel
theorem dX10_named_42 : decode mX10_named.2.1 42 = .ok (.iconst (-1), 1) := by decide +kernel
theorem dX10_named_43 : decode mX10_named.2.1 43 = .ok (.ireturn, 1) := by decide +kernel
abbrev mX10_number : aM := (yX10_number, cX10_number, 4, (some .int))
theorem dX10_number_0 : decode mX10_number.2.1 0 = .ok (.aload_n 0, 1) := by decide +kernel
theorem dX10_number_1 : decode mX10_number.2.1 1 = .ok (.invokevirtual 241, 3) := by decide +kernel
theorem dX10_number_4 : decode mX10_number.2.1 4 = .ok (.aload_n 0, 1) := by decide +kernel
theorem dX10_number_5 : decode mX10_number.2.1 5 = .ok (.getfield 36, 3) := by decide +kernel
theorem dX10_number_8 : decode mX10_number.2.1 8 = .ok (.ifCond .le 5, 3) := by decide +kernel
theorem dX10_number_11 : decode mX10_number.2.1 11 = .ok (.iconst 0, 1) := by decide +kernel
theorem dX10_number_12 : decode mX10_number.2.1 12 = .ok (.ireturn, 1) := by decide +kernel
theorem dX10_number_13 : decode mX10_number.2.1 13 = .ok (.aload_n 0, 1) := by decide +kernel
theorem dX10_number_14 : decode mX10_number.2.1 14 = .ok (.getfield 20, 3) := by decide +kernel
theorem dX10_number_17 : decode mX10_number.2.1 17 = .ok (.iconst 2, 1) := by decide +kernel
theorem dX10_number_18 : decode mX10_number.2.1 18 = .ok (.if_icmp .eq 12, 3) := by decide +kernel
theorem dX10_number_21 : decode mX10_number.2.1 21 = .ok (.aload_n 0, 1) := by decide +kernel
theorem dX10_number_22 : decode mX10_number.2.1 22 = .ok (.iconst 1, 1) := by decide +kernel
theorem dX10_number_23 : decode mX10_number.2.1 23 = .ok (.aload_n 0, 1) := by decide +kernel
theorem dX10_number_24 : decode mX10_number.2.1 24 = .ok (.getfield 23, 3) := by decide +kernel
theorem dX10_number_27 : decode mX10_number.2.1 27 = .ok (.invokevirtual 230, 3) := by decide +kernel
theorem dX10_number_30 : decode mX10_number.2.1 30 = .ok (.aload_n 0, 1) := by decide +kernel
theorem dX10_number_31 : decode mX10_number.2.1 31 = .ok (.getfield 36, 3) := by decide +kernel
theorem dX10_number_34 : decode mX10_number.2.1 34 = .ok (.ifCond .ne 24, 3) := by decide +kernel
theorem dX10_number_37 : decode mX10_number.2.1 37 = .ok (.aload_n 0, 1) := by decide +kernel
theorem dX10_number_38 : decode mX10_number.2.1 38 = .ok (.getfield 29, 3) := by decide +kernel
theorem dX10_number_41 : decode mX10_number.2.1 41 = .ok (.iload_n 1, 1) := by decide +kernel
theorem dX10_number_42 : decode mX10_number.2.1 42 = .ok (.iload_n 2, 1) := by decide +kernel
theorem dX10_number_43 : decode mX10_number.2.1 43 = .ok (.invokestatic 312, 3) := by decide +kernel
theorem dX10_number_46 : decode mX10_number.2.1 46 = .ok (.ifCond .ne 12, 3) := by decide +kernel
theorem dX10_number_49 : decode mX10_number.2.1 49 = .ok (.aload_n 0, 1) := by decide +kernel
theorem dX10_number_50 : decode mX10_number.2.1 50 = .ok (.iconst 4, 1) := by decide +kernel
theorem dX10_number_51 : decode mX10_number.2.1 51 = .ok (.aload_n 0, 1) := by decide +kernel
theorem dX10_number_52 : decode mX10_number.2.1 52 = .ok (.getfield 23, 3) := by decide +kernel
theorem dX10_number_55 : decode mX10_number.2.1 55 = .ok (.invokevirtual 230, 3) := by decide +kernel
theorem dX10_number_58 : decode mX10_number.2.1 58 = .ok (.aload_n 0, 1) := by decide +kernel
theorem dX10_number_59 : decode mX10_number.2.1 59 = .ok (.getfield 29, 3) := by decide +kernel
theorem dX10_number_62 : decode mX10_number.2.1 62 = .ok (.istore_n 3, 1) := by decide +kernel
theorem dX10_number_63 : decode mX10_number.2.1 63 = .ok (.aload_n 0, 1) := by decide +kernel
theorem dX10_number_64 : decode mX10_number.2.1 64 = .ok (.getfield 36, 3) := by decide +kernel
theorem dX10_number_67 : decode mX10_number.2.1 67 = .ok (.ifCond .ne 7, 3) := by decide +kernel
theorem dX10_number_70 : decode mX10_number.2.1 70 = .ok (.aload_n 0, 1) := by decide +kernel
theorem dX10_number_71 : decode mX10_number.2.1 71 = .ok (.invokevirtual 247, 3) := by decide +kernel
theorem dX10_number_74 : decode mX10_number.2.1 74 = .ok (.iload_n 3, 1) := by decide +kernel
theorem dX10_number_75 : decode mX10_number.2.1 75 = .ok (.ireturn, 1) := by decide +kernel
abbrev mX10_add : aM := (yX10_add, cX10_add, 3, none)
theorem dX10_add_0 : decode mX10_add.2.1 0 = .ok (.aload_n 0, 1) := by decide +kernel
theorem dX10_add_1 : decode mX10_add.2.1 1 = .ok (.getfield 93, 3) := by decide +kernel
theorem dX10_add_4 : decode mX10_add.2.1 4 = .ok (.sipush 1600, 3) := by decide +kernel
theorem dX10_add_7 : decode mX10_add.2.1 7 = .ok (.aload_n 0, 1) := by decide +kernel
theorem dX10_add_8 : decode mX10_add.2.1 8 = .ok (.getfield 112, 3) := by decide +kernel
theorem dX10_add_11 : decode mX10_add.2.1 11 = .ok (.imul, 1) := by decide +kernel
theorem dX10_add_12 : decode mX10_add.2.1 12 = .ok (.aload_n 0, 1) := by decide +kernel
theorem dX10_add_13 : decode mX10_add.2.1 13 = .ok (.getfield 109, 3) := by decide +kernel
theorem dX10_add_16 : decode mX10_add.2.1 16 = .ok (.iadd, 1) := by decide +kernel
theorem dX10_add_17 : decode mX10_add.2.1 17 = .ok (.iload_n 1, 1) := by decide +kernel
theorem dX10_add_18 : decode mX10_add.2.1 18 = .ok (.iastore, 1) := by decide +kernel
theorem dX10_add_19 : decode mX10_add.2.1 19 = .ok (.aload_n 0, 1) := by decide +kernel
theorem dX10_add_20 : decode mX10_add.2.1 20 = .ok (.getfield 96, 3) := by decide +kernel
theorem dX10_add_23 : decode mX10_add.2.1 23 = .ok (.sipush 1600, 3) := by decide +kernel
theorem dX10_add_26 : decode mX10_add.2.1 26 = .ok (.aload_n 0, 1) := by decide +kernel
theorem dX10_add_27 : decode mX10_add.2.1 27 = .ok (.getfield 112, 3) := by decide +kernel
theorem dX10_add_30 : decode mX10_add.2.1 30 = .ok (.imul, 1) := by decide +kernel
theorem dX10_add_31 : decode mX10_add.2.1 31 = .ok (.aload_n 0, 1) := by decide +kernel
theorem dX10_add_32 : decode mX10_add.2.1 32 = .ok (.getfield 109, 3) := by decide +kernel
theorem dX10_add_35 : decode mX10_add.2.1 35 = .ok (.iadd, 1) := by decide +kernel
theorem dX10_add_36 : decode mX10_add.2.1 36 = .ok (.iload_n 2, 1) := by decide +kernel
theorem dX10_add_37 : decode mX10_add.2.1 37 = .ok (.iastore, 1) := by decide +kernel
theorem dX10_add_38 : decode mX10_add.2.1 38 = .ok (.aload_n 0, 1) := by decide +kernel
theorem dX10_add_39 : decode mX10_add.2.1 39 = .ok (.dup, 1) := by decide +kernel
theorem dX10_add_40 : decode mX10_add.2.1 40 = .ok (.getfield 109, 3) := by decide +kernel
theorem dX10_add_43 : decode mX10_add.2.1 43 = .ok (.iconst 1, 1) := by decide +kernel
theorem dX10_add_44 : decode mX10_add.2.1 44 = .ok (.iadd, 1) := by decide +kernel
theorem dX10_add_45 : decode mX10_add.2.1 45 = .ok (.putfield 109, 3) := by decide +kernel
theorem dX10_add_48 : decode mX10_add.2.1 48 = .ok (.return_, 1) := by decide +kernel
abbrev mX10_rank : aM := (yX10_rank, cX10_rank, 1, (some .int))
theorem dX10_rank_0 : decode mX10_rank.2.1 0 = .ok (.iload_n 0, 1) := by decide +kernel
theorem dX10_rank_1 : decode mX10_rank.2.1 1 = .ok (.bipush 42, 2) := by decide +kernel
theorem dX10_rank_3 : decode mX10_rank.2.1 3 = .ok (.if_icmp .ne 7, 3) := by decide +kernel
theorem dX10_rank_6 : decode mX10_rank.2.1 6 = .ok (.iconst 1, 1) := by decide +kernel
theorem dX10_rank_7 : decode mX10_rank.2.1 7 = .ok (.goto 63, 3) := by decide +kernel
theorem dX10_rank_10 : decode mX10_rank.2.1 10 = .ok (.iload_n 0, 1) := by decide +kernel
theorem dX10_rank_11 : decode mX10_rank.2.1 11 = .ok (.bipush 41, 2) := by decide +kernel
theorem dX10_rank_13 : decode mX10_rank.2.1 13 = .ok (.if_icmp .ne 7, 3) := by decide +kernel
theorem dX10_rank_16 : decode mX10_rank.2.1 16 = .ok (.iconst 2, 1) := by decide +kernel
theorem dX10_rank_17 : decode mX10_rank.2.1 17 = .ok (.goto 53, 3) := by decide +kernel
theorem dX10_rank_20 : decode mX10_rank.2.1 20 = .ok (.iload_n 0, 1) := by decide +kernel
theorem dX10_rank_21 : decode mX10_rank.2.1 21 = .ok (.bipush 43, 2) := by decide +kernel
theorem dX10_rank_23 : decode mX10_rank.2.1 23 = .ok (.if_icmp .ne 7, 3) := by decide +kernel
theorem dX10_rank_26 : decode mX10_rank.2.1 26 = .ok (.iconst 3, 1) := by decide +kernel
theorem dX10_rank_27 : decode mX10_rank.2.1 27 = .ok (.goto 43, 3) := by decide +kernel
theorem dX10_rank_30 : decode mX10_rank.2.1 30 = .ok (.iload_n 0, 1) := by decide +kernel
theorem dX10_rank_31 : decode mX10_rank.2.1 31 = .ok (.bipush 38, 2) := by decide +kernel
theorem dX10_rank_33 : decode mX10_rank.2.1 33 = .ok (.if_icmp .eq 15, 3) := by decide +kernel
theorem dX10_rank_36 : decode mX10_rank.2.1 36 = .ok (.iload_n 0, 1) := by decide +kernel
theorem dX10_rank_37 : decode mX10_rank.2.1 37 = .ok (.bipush 39, 2) := by decide +kernel
theorem dX10_rank_39 : decode mX10_rank.2.1 39 = .ok (.if_icmp .eq 9, 3) := by decide +kernel
theorem dX10_rank_42 : decode mX10_rank.2.1 42 = .ok (.iload_n 0, 1) := by decide +kernel
theorem dX10_rank_43 : decode mX10_rank.2.1 43 = .ok (.bipush 40, 2) := by decide +kernel
theorem dX10_rank_45 : decode mX10_rank.2.1 45 = .ok (.if_icmp .ne 7, 3) := by decide +kernel
theorem dX10_rank_48 : decode mX10_rank.2.1 48 = .ok (.iconst 4, 1) := by decide +kernel
theorem dX10_rank_49 : decode mX10_rank.2.1 49 = .ok (.goto 21, 3) := by decide +kernel
theorem dX10_rank_52 : decode mX10_rank.2.1 52 = .ok (.iload_n 0, 1) := by decide +kernel
theorem dX10_rank_53 : decode mX10_rank.2.1 53 = .ok (.bipush 31, 2) := by decide +kernel
theorem dX10_rank_55 : decode mX10_rank.2.1 55 = .ok (.if_icmp .eq 9, 3) := by decide +kernel
theorem dX10_rank_58 : decode mX10_rank.2.1 58 = .ok (.iload_n 0, 1) := by decide +kernel
theorem dX10_rank_59 : decode mX10_rank.2.1 59 = .ok (.bipush 32, 2) := by decide +kernel
theorem dX10_rank_61 : decode mX10_rank.2.1 61 = .ok (.if_icmp .ne 7, 3) := by decide +kernel
theorem dX10_rank_64 : decode mX10_rank.2.1 64 = .ok (.iconst 5, 1) := by decide +kernel
theorem dX10_rank_65 : decode mX10_rank.2.1 65 = .ok (.goto 5, 3) := by decide +kernel
theorem dX10_rank_68 : decode mX10_rank.2.1 68 = .ok (.bipush 6, 2) := by decide +kernel
theorem dX10_rank_70 : decode mX10_rank.2.1 70 = .ok (.ireturn, 1) := by decide +kernel
abbrev mX10_joins : aM := (yX10_joins, cX10_joins, 2, none)
theorem dX10_joins_0 : decode mX10_joins.2.1 0 = .ok (.aload_n 0, 1) := by decide +kernel
theorem dX10_joins_1 : decode mX10_joins.2.1 1 = .ok (.getfield 143, 3) := by decide +kernel
theorem dX10_joins_4 : decode mX10_joins.2.1 4 = .ok (.aload_n 0, 1) := by decide +kernel
theorem dX10_joins_5 : decode mX10_joins.2.1 5 = .ok (.getfield 131, 3) := by decide +kernel
theorem dX10_joins_8 : decode mX10_joins.2.1 8 = .ok (.aload_n 0, 1) := by decide +kernel
theorem dX10_joins_9 : decode mX10_joins.2.1 9 = .ok (.getfield 134, 3) := by decide +kernel
theorem dX10_joins_12 : decode mX10_joins.2.1 12 = .ok (.iconst 1, 1) := by decide +kernel
theorem dX10_joins_13 : decode mX10_joins.2.1 13 = .ok (.isub, 1) := by decide +kernel
theorem dX10_joins_14 : decode mX10_joins.2.1 14 = .ok (.iaload, 1) := by decide +kernel
theorem dX10_joins_15 : decode mX10_joins.2.1 15 = .ok (.if_icmp .le 72, 3) := by decide +kernel
theorem dX10_joins_18 : decode mX10_joins.2.1 18 = .ok (.aload_n 0, 1) := by decide +kernel
theorem dX10_joins_19 : decode mX10_joins.2.1 19 = .ok (.getfield 140, 3) := by decide +kernel
theorem dX10_joins_22 : decode mX10_joins.2.1 22 = .ok (.aload_n 0, 1) := by decide +kernel
theorem dX10_joins_23 : decode mX10_joins.2.1 23 = .ok (.getfield 143, 3) := by decide +kernel
theorem dX10_joins_26 : decode mX10_joins.2.1 26 = .ok (.iconst 1, 1) := by decide +kernel
theorem dX10_joins_27 : decode mX10_joins.2.1 27 = .ok (.isub, 1) := by decide +kernel
theorem dX10_joins_28 : decode mX10_joins.2.1 28 = .ok (.iaload, 1) := by decide +kernel
theorem dX10_joins_29 : decode mX10_joins.2.1 29 = .ok (.invokestatic 316, 3) := by decide +kernel
theorem dX10_joins_32 : decode mX10_joins.2.1 32 = .ok (.iload_n 1, 1) := by decide +kernel
theorem dX10_joins_33 : decode mX10_joins.2.1 33 = .ok (.if_icmp .lt 54, 3) := by decide +kernel
theorem dX10_joins_36 : decode mX10_joins.2.1 36 = .ok (.aload_n 0, 1) := by decide +kernel
theorem dX10_joins_37 : decode mX10_joins.2.1 37 = .ok (.dup, 1) := by decide +kernel
theorem dX10_joins_38 : decode mX10_joins.2.1 38 = .ok (.getfield 143, 3) := by decide +kernel
theorem dX10_joins_41 : decode mX10_joins.2.1 41 = .ok (.iconst 1, 1) := by decide +kernel
theorem dX10_joins_42 : decode mX10_joins.2.1 42 = .ok (.isub, 1) := by decide +kernel
theorem dX10_joins_43 : decode mX10_joins.2.1 43 = .ok (.putfield 143, 3) := by decide +kernel
theorem dX10_joins_46 : decode mX10_joins.2.1 46 = .ok (.aload_n 0, 1) := by decide +kernel
theorem dX10_joins_47 : decode mX10_joins.2.1 47 = .ok (.aload_n 0, 1) := by decide +kernel
theorem dX10_joins_48 : decode mX10_joins.2.1 48 = .ok (.getfield 140, 3) := by decide +kernel
theorem dX10_joins_51 : decode mX10_joins.2.1 51 = .ok (.aload_n 0, 1) := by decide +kernel
theorem dX10_joins_52 : decode mX10_joins.2.1 52 = .ok (.getfield 143, 3) := by decide +kernel
theorem dX10_joins_55 : decode mX10_joins.2.1 55 = .ok (.iaload, 1) := by decide +kernel
theorem dX10_joins_56 : decode mX10_joins.2.1 56 = .ok (.iconst 0, 1) := by decide +kernel
theorem dX10_joins_57 : decode mX10_joins.2.1 57 = .ok (.invokevirtual 319, 3) := by decide +kernel
theorem dX10_joins_60 : decode mX10_joins.2.1 60 = .ok (.aload_n 0, 1) := by decide +kernel
theorem dX10_joins_61 : decode mX10_joins.2.1 61 = .ok (.getfield 140, 3) := by decide +kernel
theorem dX10_joins_64 : decode mX10_joins.2.1 64 = .ok (.aload_n 0, 1) := by decide +kernel
theorem dX10_joins_65 : decode mX10_joins.2.1 65 = .ok (.getfield 143, 3) := by decide +kernel
theorem dX10_joins_68 : decode mX10_joins.2.1 68 = .ok (.iaload, 1) := by decide +kernel
theorem dX10_joins_69 : decode mX10_joins.2.1 69 = .ok (.bipush 43, 2) := by decide +kernel
theorem dX10_joins_71 : decode mX10_joins.2.1 71 = .ok (.if_icmp .ne (-71), 3) := by decide +kernel
theorem dX10_joins_74 : decode mX10_joins.2.1 74 = .ok (.aload_n 0, 1) := by decide +kernel
theorem dX10_joins_75 : decode mX10_joins.2.1 75 = .ok (.dup, 1) := by decide +kernel
theorem dX10_joins_76 : decode mX10_joins.2.1 76 = .ok (.getfield 137, 3) := by decide +kernel
theorem dX10_joins_79 : decode mX10_joins.2.1 79 = .ok (.iconst 1, 1) := by decide +kernel
theorem dX10_joins_80 : decode mX10_joins.2.1 80 = .ok (.isub, 1) := by decide +kernel
theorem dX10_joins_81 : decode mX10_joins.2.1 81 = .ok (.putfield 137, 3) := by decide +kernel
theorem dX10_joins_84 : decode mX10_joins.2.1 84 = .ok (.goto (-84), 3) := by decide +kernel
theorem dX10_joins_87 : decode mX10_joins.2.1 87 = .ok (.return_, 1) := by decide +kernel
abbrev mX10_holdsBack : aM := (yX10_holdsBack, cX10_holdsBack, 2, none)
theorem dX10_holdsBack_0 : decode mX10_holdsBack.2.1 0 = .ok (.aload_n 0, 1) := by decide +kernel
theorem dX10_holdsBack_1 : decode mX10_holdsBack.2.1 1 = .ok (.getfield 140, 3) := by decide +kernel
theorem dX10_holdsBack_4 : decode mX10_holdsBack.2.1 4 = .ok (.aload_n 0, 1) := by decide +kernel
theorem dX10_holdsBack_5 : decode mX10_holdsBack.2.1 5 = .ok (.getfield 143, 3) := by decide +kernel
theorem dX10_holdsBack_8 : decode mX10_holdsBack.2.1 8 = .ok (.iload_n 1, 1) := by decide +kernel
theorem dX10_holdsBack_9 : decode mX10_holdsBack.2.1 9 = .ok (.iastore, 1) := by decide +kernel
theorem dX10_holdsBack_10 : decode mX10_holdsBack.2.1 10 = .ok (.aload_n 0, 1) := by decide +kernel
theorem dX10_holdsBack_11 : decode mX10_holdsBack.2.1 11 = .ok (.dup, 1) := by decide +kernel
theorem dX10_holdsBack_12 : decode mX10_holdsBack.2.1 12 = .ok (.getfield 143, 3) := by decide +kernel
theorem dX10_holdsBack_15 : decode mX10_holdsBack.2.1 15 = .ok (.iconst 1, 1) := by decide +kernel
theorem dX10_holdsBack_16 : decode mX10_holdsBack.2.1 16 = .ok (.iadd, 1) := by decide +kernel
theorem dX10_holdsBack_17 : decode mX10_holdsBack.2.1 17 = .ok (.putfield 143, 3) := by decide +kernel
theorem dX10_holdsBack_20 : decode mX10_holdsBack.2.1 20 = .ok (.return_, 1) := by decide +kernel
abbrev mX10_pushes : aM := (yX10_pushes, cX10_pushes, 2, none)
theorem dX10_pushes_0 : decode mX10_pushes.2.1 0 = .ok (.aload_n 0, 1) := by decide +kernel
theorem dX10_pushes_1 : decode mX10_pushes.2.1 1 = .ok (.getfield 118, 3) := by decide +kernel
theorem dX10_pushes_4 : decode mX10_pushes.2.1 4 = .ok (.aload_n 0, 1) := by decide +kernel
theorem dX10_pushes_5 : decode mX10_pushes.2.1 5 = .ok (.getfield 134, 3) := by decide +kernel
theorem dX10_pushes_8 : decode mX10_pushes.2.1 8 = .ok (.iload_n 1, 1) := by decide +kernel
theorem dX10_pushes_9 : decode mX10_pushes.2.1 9 = .ok (.iastore, 1) := by decide +kernel
theorem dX10_pushes_10 : decode mX10_pushes.2.1 10 = .ok (.aload_n 0, 1) := by decide +kernel
theorem dX10_pushes_11 : decode mX10_pushes.2.1 11 = .ok (.getfield 121, 3) := by decide +kernel
theorem dX10_pushes_14 : decode mX10_pushes.2.1 14 = .ok (.aload_n 0, 1) := by decide +kernel
theorem dX10_pushes_15 : decode mX10_pushes.2.1 15 = .ok (.getfield 134, 3) := by decide +kernel
theorem dX10_pushes_18 : decode mX10_pushes.2.1 18 = .ok (.iconst 0, 1) := by decide +kernel
theorem dX10_pushes_19 : decode mX10_pushes.2.1 19 = .ok (.iastore, 1) := by decide +kernel
theorem dX10_pushes_20 : decode mX10_pushes.2.1 20 = .ok (.aload_n 0, 1) := by decide +kernel
theorem dX10_pushes_21 : decode mX10_pushes.2.1 21 = .ok (.getfield 124, 3) := by decide +kernel
theorem dX10_pushes_24 : decode mX10_pushes.2.1 24 = .ok (.aload_n 0, 1) := by decide +kernel
theorem dX10_pushes_25 : decode mX10_pushes.2.1 25 = .ok (.getfield 134, 3) := by decide +kernel
theorem dX10_pushes_28 : decode mX10_pushes.2.1 28 = .ok (.iconst 1, 1) := by decide +kernel
theorem dX10_pushes_29 : decode mX10_pushes.2.1 29 = .ok (.bastore, 1) := by decide +kernel
theorem dX10_pushes_30 : decode mX10_pushes.2.1 30 = .ok (.aload_n 0, 1) := by decide +kernel
theorem dX10_pushes_31 : decode mX10_pushes.2.1 31 = .ok (.getfield 131, 3) := by decide +kernel
theorem dX10_pushes_34 : decode mX10_pushes.2.1 34 = .ok (.aload_n 0, 1) := by decide +kernel
theorem dX10_pushes_35 : decode mX10_pushes.2.1 35 = .ok (.getfield 134, 3) := by decide +kernel
theorem dX10_pushes_38 : decode mX10_pushes.2.1 38 = .ok (.aload_n 0, 1) := by decide +kernel
theorem dX10_pushes_39 : decode mX10_pushes.2.1 39 = .ok (.getfield 143, 3) := by decide +kernel
theorem dX10_pushes_42 : decode mX10_pushes.2.1 42 = .ok (.iastore, 1) := by decide +kernel
theorem dX10_pushes_43 : decode mX10_pushes.2.1 43 = .ok (.aload_n 0, 1) := by decide +kernel
theorem dX10_pushes_44 : decode mX10_pushes.2.1 44 = .ok (.dup, 1) := by decide +kernel
theorem dX10_pushes_45 : decode mX10_pushes.2.1 45 = .ok (.getfield 134, 3) := by decide +kernel
theorem dX10_pushes_48 : decode mX10_pushes.2.1 48 = .ok (.iconst 1, 1) := by decide +kernel
theorem dX10_pushes_49 : decode mX10_pushes.2.1 49 = .ok (.iadd, 1) := by decide +kernel
theorem dX10_pushes_50 : decode mX10_pushes.2.1 50 = .ok (.putfield 134, 3) := by decide +kernel
theorem dX10_pushes_53 : decode mX10_pushes.2.1 53 = .ok (.return_, 1) := by decide +kernel
abbrev mX10_opens : aM := (yX10_opens, cX10_opens, 2, none)
theorem dX10_opens_0 : decode mX10_opens.2.1 0 = .ok (.aload_n 0, 1) := by decide +kernel
theorem dX10_opens_1 : decode mX10_opens.2.1 1 = .ok (.getfield 137, 3) := by decide +kernel
theorem dX10_opens_4 : decode mX10_opens.2.1 4 = .ok (.bipush 7, 2) := by decide +kernel
theorem dX10_opens_6 : decode mX10_opens.2.1 6 = .ok (.if_icmp .ne 12, 3) := by decide +kernel
theorem dX10_opens_9 : decode mX10_opens.2.1 9 = .ok (.aload_n 0, 1) := by decide +kernel
theorem dX10_opens_10 : decode mX10_opens.2.1 10 = .ok (.iconst 5, 1) := by decide +kernel
theorem dX10_opens_11 : decode mX10_opens.2.1 11 = .ok (.aload_n 0, 1) := by decide +kernel
theorem dX10_opens_12 : decode mX10_opens.2.1 12 = .ok (.getfield 23, 3) := by decide +kernel
theorem dX10_opens_15 : decode mX10_opens.2.1 15 = .ok (.invokevirtual 230, 3) := by decide +kernel
theorem dX10_opens_18 : decode mX10_opens.2.1 18 = .ok (.aload_n 0, 1) := by decide +kernel
theorem dX10_opens_19 : decode mX10_opens.2.1 19 = .ok (.getfield 36, 3) := by decide +kernel
theorem dX10_opens_22 : decode mX10_opens.2.1 22 = .ok (.ifCond .le 4, 3) := by decide +kernel
theorem dX10_opens_25 : decode mX10_opens.2.1 25 = .ok (.return_, 1) := by decide +kernel
theorem dX10_opens_26 : decode mX10_opens.2.1 26 = .ok (.aload_n 0, 1) := by decide +kernel
theorem dX10_opens_27 : decode mX10_opens.2.1 27 = .ok (.dup, 1) := by decide +kernel
theorem dX10_opens_28 : decode mX10_opens.2.1 28 = .ok (.getfield 137, 3) := by decide +kernel
theorem dX10_opens_31 : decode mX10_opens.2.1 31 = .ok (.iconst 1, 1) := by decide +kernel
theorem dX10_opens_32 : decode mX10_opens.2.1 32 = .ok (.iadd, 1) := by decide +kernel
theorem dX10_opens_33 : decode mX10_opens.2.1 33 = .ok (.putfield 137, 3) := by decide +kernel
theorem dX10_opens_36 : decode mX10_opens.2.1 36 = .ok (.aload_n 0, 1) := by decide +kernel
theorem dX10_opens_37 : decode mX10_opens.2.1 37 = .ok (.invokevirtual 247, 3) := by decide +kernel
theorem dX10_opens_40 : decode mX10_opens.2.1 40 = .ok (.aload_n 0, 1) := by decide +kernel
theorem dX10_opens_41 : decode mX10_opens.2.1 41 = .ok (.iload_n 1, 1) := by decide +kernel
theorem dX10_opens_42 : decode mX10_opens.2.1 42 = .ok (.invokevirtual 322, 3) := by decide +kernel
theorem dX10_opens_45 : decode mX10_opens.2.1 45 = .ok (.return_, 1) := by decide +kernel
abbrev mX10_isTest : aM := (yX10_isTest, cX10_isTest, 1, (some .boolean))
theorem dX10_isTest_0 : decode mX10_isTest.2.1 0 = .ok (.iload_n 0, 1) := by decide +kernel
theorem dX10_isTest_1 : decode mX10_isTest.2.1 1 = .ok (.iconst 1, 1) := by decide +kernel
theorem dX10_isTest_2 : decode mX10_isTest.2.1 2 = .ok (.if_icmp .eq 14, 3) := by decide +kernel
theorem dX10_isTest_5 : decode mX10_isTest.2.1 5 = .ok (.iload_n 0, 1) := by decide +kernel
theorem dX10_isTest_6 : decode mX10_isTest.2.1 6 = .ok (.iconst 5, 1) := by decide +kernel
theorem dX10_isTest_7 : decode mX10_isTest.2.1 7 = .ok (.if_icmp .eq 9, 3) := by decide +kernel
theorem dX10_isTest_10 : decode mX10_isTest.2.1 10 = .ok (.iload_n 0, 1) := by decide +kernel
theorem dX10_isTest_11 : decode mX10_isTest.2.1 11 = .ok (.bipush 6, 2) := by decide +kernel
theorem dX10_isTest_13 : decode mX10_isTest.2.1 13 = .ok (.if_icmp .ne 7, 3) := by decide +kernel
theorem dX10_isTest_16 : decode mX10_isTest.2.1 16 = .ok (.iconst 1, 1) := by decide +kernel
theorem dX10_isTest_17 : decode mX10_isTest.2.1 17 = .ok (.goto 4, 3) := by decide +kernel
theorem dX10_isTest_20 : decode mX10_isTest.2.1 20 = .ok (.iconst 0, 1) := by decide +kernel
theorem dX10_isTest_21 : decode mX10_isTest.2.1 21 = .ok (.ireturn, 1) := by decide +kernel
abbrev mX10_operand : aM := (yX10_operand, cX10_operand, 4, (some .boolean))
theorem dX10_operand_0 : decode mX10_operand.2.1 0 = .ok (.aload_n 0, 1) := by decide +kernel
theorem dX10_operand_1 : decode mX10_operand.2.1 1 = .ok (.invokevirtual 241, 3) := by decide +kernel
theorem dX10_operand_4 : decode mX10_operand.2.1 4 = .ok (.aload_n 0, 1) := by decide +kernel
theorem dX10_operand_5 : decode mX10_operand.2.1 5 = .ok (.getfield 36, 3) := by decide +kernel
theorem dX10_operand_8 : decode mX10_operand.2.1 8 = .ok (.ifCond .le 5, 3) := by decide +kernel
theorem dX10_operand_11 : decode mX10_operand.2.1 11 = .ok (.iconst 1, 1) := by decide +kernel
theorem dX10_operand_12 : decode mX10_operand.2.1 12 = .ok (.ireturn, 1) := by decide +kernel
theorem dX10_operand_13 : decode mX10_operand.2.1 13 = .ok (.aload_n 0, 1) := by decide +kernel
theorem dX10_operand_14 : decode mX10_operand.2.1 14 = .ok (.getfield 134, 3) := by decide +kernel
theorem dX10_operand_17 : decode mX10_operand.2.1 17 = .ok (.iconst 1, 1) := by decide +kernel
theorem dX10_operand_18 : decode mX10_operand.2.1 18 = .ok (.isub, 1) := by decide +kernel
theorem dX10_operand_19 : decode mX10_operand.2.1 19 = .ok (.istore_n 1, 1) := by decide +kernel
theorem dX10_operand_20 : decode mX10_operand.2.1 20 = .ok (.aload_n 0, 1) := by decide +kernel
theorem dX10_operand_21 : decode mX10_operand.2.1 21 = .ok (.getfield 118, 3) := by decide +kernel
theorem dX10_operand_24 : decode mX10_operand.2.1 24 = .ok (.iload_n 1, 1) := by decide +kernel
theorem dX10_operand_25 : decode mX10_operand.2.1 25 = .ok (.iaload, 1) := by decide +kernel
theorem dX10_operand_26 : decode mX10_operand.2.1 26 = .ok (.invokestatic 325, 3) := by decide +kernel
theorem dX10_operand_29 : decode mX10_operand.2.1 29 = .ok (.ifCond .eq 16, 3) := by decide +kernel
theorem dX10_operand_32 : decode mX10_operand.2.1 32 = .ok (.aload_n 0, 1) := by decide +kernel
theorem dX10_operand_33 : decode mX10_operand.2.1 33 = .ok (.getfield 124, 3) := by decide +kernel
theorem dX10_operand_36 : decode mX10_operand.2.1 36 = .ok (.iload_n 1, 1) := by decide +kernel
theorem dX10_operand_37 : decode mX10_operand.2.1 37 = .ok (.baload, 1) := by decide +kernel
theorem dX10_operand_38 : decode mX10_operand.2.1 38 = .ok (.ifCond .eq 7, 3) := by decide +kernel
theorem dX10_operand_41 : decode mX10_operand.2.1 41 = .ok (.iconst 1, 1) := by decide +kernel
theorem dX10_operand_42 : decode mX10_operand.2.1 42 = .ok (.goto 4, 3) := by decide +kernel
theorem dX10_operand_45 : decode mX10_operand.2.1 45 = .ok (.iconst 0, 1) := by decide +kernel
theorem dX10_operand_46 : decode mX10_operand.2.1 46 = .ok (.istore_n 2, 1) := by decide +kernel
theorem dX10_operand_47 : decode mX10_operand.2.1 47 = .ok (.iload_n 2, 1) := by decide +kernel
theorem dX10_operand_48 : decode mX10_operand.2.1 48 = .ok (.ifCond .eq 62, 3) := by decide +kernel
theorem dX10_operand_51 : decode mX10_operand.2.1 51 = .ok (.aload_n 0, 1) := by decide +kernel
theorem dX10_operand_52 : decode mX10_operand.2.1 52 = .ok (.ldc2_w 296, 3) := by decide +kernel
theorem dX10_operand_55 : decode mX10_operand.2.1 55 = .ok (.invokevirtual 328, 3) := by decide +kernel
theorem dX10_operand_58 : decode mX10_operand.2.1 58 = .ok (.ifCond .eq 52, 3) := by decide +kernel
theorem dX10_operand_61 : decode mX10_operand.2.1 61 = .ok (.aload_n 0, 1) := by decide +kernel
theorem dX10_operand_62 : decode mX10_operand.2.1 62 = .ok (.getfield 137, 3) := by decide +kernel
theorem dX10_operand_65 : decode mX10_operand.2.1 65 = .ok (.bipush 7, 2) := by decide +kernel
theorem dX10_operand_67 : decode mX10_operand.2.1 67 = .ok (.if_icmp .ne 12, 3) := by decide +kernel
theorem dX10_operand_70 : decode mX10_operand.2.1 70 = .ok (.aload_n 0, 1) := by decide +kernel
theorem dX10_operand_71 : decode mX10_operand.2.1 71 = .ok (.iconst 5, 1) := by decide +kernel
theorem dX10_operand_72 : decode mX10_operand.2.1 72 = .ok (.aload_n 0, 1) := by decide +kernel
theorem dX10_operand_73 : decode mX10_operand.2.1 73 = .ok (.getfield 23, 3) := by decide +kernel
theorem dX10_operand_76 : decode mX10_operand.2.1 76 = .ok (.invokevirtual 230, 3) := by decide +kernel
theorem dX10_operand_79 : decode mX10_operand.2.1 79 = .ok (.aload_n 0, 1) := by decide +kernel
theorem dX10_operand_80 : decode mX10_operand.2.1 80 = .ok (.getfield 36, 3) := by decide +kernel
theorem dX10_operand_83 : decode mX10_operand.2.1 83 = .ok (.ifCond .le 5, 3) := by decide +kernel
theorem dX10_operand_86 : decode mX10_operand.2.1 86 = .ok (.iconst 1, 1) := by decide +kernel
theorem dX10_operand_87 : decode mX10_operand.2.1 87 = .ok (.ireturn, 1) := by decide +kernel
theorem dX10_operand_88 : decode mX10_operand.2.1 88 = .ok (.aload_n 0, 1) := by decide +kernel
theorem dX10_operand_89 : decode mX10_operand.2.1 89 = .ok (.dup, 1) := by decide +kernel
theorem dX10_operand_90 : decode mX10_operand.2.1 90 = .ok (.getfield 137, 3) := by decide +kernel
theorem dX10_operand_93 : decode mX10_operand.2.1 93 = .ok (.iconst 1, 1) := by decide +kernel
theorem dX10_operand_94 : decode mX10_operand.2.1 94 = .ok (.iadd, 1) := by decide +kernel
theorem dX10_operand_95 : decode mX10_operand.2.1 95 = .ok (.putfield 137, 3) := by decide +kernel
theorem dX10_operand_98 : decode mX10_operand.2.1 98 = .ok (.aload_n 0, 1) := by decide +kernel
theorem dX10_operand_99 : decode mX10_operand.2.1 99 = .ok (.bipush 43, 2) := by decide +kernel
theorem dX10_operand_101 : decode mX10_operand.2.1 101 = .ok (.invokevirtual 332, 3) := by decide +kernel
theorem dX10_operand_104 : decode mX10_operand.2.1 104 = .ok (.aload_n 0, 1) := by decide +kernel
theorem dX10_operand_105 : decode mX10_operand.2.1 105 = .ok (.invokevirtual 247, 3) := by decide +kernel
theorem dX10_operand_108 : decode mX10_operand.2.1 108 = .ok (.iconst 0, 1) := by decide +kernel
theorem dX10_operand_109 : decode mX10_operand.2.1 109 = .ok (.ireturn, 1) := by decide +kernel
theorem dX10_operand_110 : decode mX10_operand.2.1 110 = .ok (.aload_n 0, 1) := by decide +kernel
theorem dX10_operand_111 : decode mX10_operand.2.1 111 = .ok (.getfield 124, 3) := by decide +kernel
theorem dX10_operand_114 : decode mX10_operand.2.1 114 = .ok (.iload_n 1, 1) := by decide +kernel
theorem dX10_operand_115 : decode mX10_operand.2.1 115 = .ok (.iconst 0, 1) := by decide +kernel
theorem dX10_operand_116 : decode mX10_operand.2.1 116 = .ok (.bastore, 1) := by decide +kernel
theorem dX10_operand_117 : decode mX10_operand.2.1 117 = .ok (.iload_n 2, 1) := by decide +kernel
theorem dX10_operand_118 : decode mX10_operand.2.1 118 = .ok (.ifCond .eq 19, 3) := by decide +kernel
theorem dX10_operand_121 : decode mX10_operand.2.1 121 = .ok (.aload_n 0, 1) := by decide +kernel
theorem dX10_operand_122 : decode mX10_operand.2.1 122 = .ok (.bipush 91, 2) := by decide +kernel
theorem dX10_operand_124 : decode mX10_operand.2.1 124 = .ok (.invokevirtual 244, 3) := by decide +kernel
theorem dX10_operand_127 : decode mX10_operand.2.1 127 = .ok (.ifCond .eq 10, 3) := by decide +kernel
theorem dX10_operand_130 : decode mX10_operand.2.1 130 = .ok (.aload_n 0, 1) := by decide +kernel
theorem dX10_operand_131 : decode mX10_operand.2.1 131 = .ok (.iconst 5, 1) := by decide +kernel
theorem dX10_operand_132 : decode mX10_operand.2.1 132 = .ok (.invokevirtual 335, 3) := by decide +kernel
theorem dX10_operand_135 : decode mX10_operand.2.1 135 = .ok (.iconst 0, 1) := by decide +kernel
theorem dX10_operand_136 : decode mX10_operand.2.1 136 = .ok (.ireturn, 1) := by decide +kernel
theorem dX10_operand_137 : decode mX10_operand.2.1 137 = .ok (.iload_n 2, 1) := by decide +kernel
theorem dX10_operand_138 : decode mX10_operand.2.1 138 = .ok (.ifCond .eq 33, 3) := by decide +kernel
theorem dX10_operand_141 : decode mX10_operand.2.1 141 = .ok (.aload_n 0, 1) := by decide +kernel
theorem dX10_operand_142 : decode mX10_operand.2.1 142 = .ok (.ldc2_w 298, 3) := by decide +kernel
theorem dX10_operand_145 : decode mX10_operand.2.1 145 = .ok (.invokevirtual 328, 3) := by decide +kernel
theorem dX10_operand_148 : decode mX10_operand.2.1 148 = .ok (.ifCond .eq 23, 3) := by decide +kernel
theorem dX10_operand_151 : decode mX10_operand.2.1 151 = .ok (.aload_n 0, 1) := by decide +kernel
theorem dX10_operand_152 : decode mX10_operand.2.1 152 = .ok (.bipush 30, 2) := by decide +kernel
theorem dX10_operand_154 : decode mX10_operand.2.1 154 = .ok (.iconst 0, 1) := by decide +kernel
theorem dX10_operand_155 : decode mX10_operand.2.1 155 = .ok (.invokevirtual 319, 3) := by decide +kernel
theorem dX10_operand_158 : decode mX10_operand.2.1 158 = .ok (.aload_n 0, 1) := by decide +kernel
theorem dX10_operand_159 : decode mX10_operand.2.1 159 = .ok (.getfield 121, 3) := by decide +kernel
theorem dX10_operand_162 : decode mX10_operand.2.1 162 = .ok (.iload_n 1, 1) := by decide +kernel
theorem dX10_operand_163 : decode mX10_operand.2.1 163 = .ok (.iconst 2, 1) := by decide +kernel
theorem dX10_operand_164 : decode mX10_operand.2.1 164 = .ok (.iastore, 1) := by decide +kernel
theorem dX10_operand_165 : decode mX10_operand.2.1 165 = .ok (.aload_n 0, 1) := by decide +kernel
theorem dX10_operand_166 : decode mX10_operand.2.1 166 = .ok (.invokevirtual 247, 3) := by decide +kernel
theorem dX10_operand_169 : decode mX10_operand.2.1 169 = .ok (.iconst 1, 1) := by decide +kernel
theorem dX10_operand_170 : decode mX10_operand.2.1 170 = .ok (.ireturn, 1) := by decide +kernel
theorem dX10_operand_171 : decode mX10_operand.2.1 171 = .ok (.aload_n 0, 1) := by decide +kernel
theorem dX10_operand_172 : decode mX10_operand.2.1 172 = .ok (.bipush 40, 2) := by decide +kernel
theorem dX10_operand_174 : decode mX10_operand.2.1 174 = .ok (.invokevirtual 244, 3) := by decide +kernel
theorem dX10_operand_177 : decode mX10_operand.2.1 177 = .ok (.ifCond .eq 10, 3) := by decide +kernel
theorem dX10_operand_180 : decode mX10_operand.2.1 180 = .ok (.aload_n 0, 1) := by decide +kernel
theorem dX10_operand_181 : decode mX10_operand.2.1 181 = .ok (.iconst 2, 1) := by decide +kernel
theorem dX10_operand_182 : decode mX10_operand.2.1 182 = .ok (.invokevirtual 335, 3) := by decide +kernel
theorem dX10_operand_185 : decode mX10_operand.2.1 185 = .ok (.iconst 0, 1) := by decide +kernel
theorem dX10_operand_186 : decode mX10_operand.2.1 186 = .ok (.ireturn, 1) := by decide +kernel
theorem dX10_operand_187 : decode mX10_operand.2.1 187 = .ok (.aload_n 0, 1) := by decide +kernel
theorem dX10_operand_188 : decode mX10_operand.2.1 188 = .ok (.ldc2_w 300, 3) := by decide +kernel
theorem dX10_operand_191 : decode mX10_operand.2.1 191 = .ok (.invokevirtual 328, 3) := by decide +kernel
theorem dX10_operand_194 : decode mX10_operand.2.1 194 = .ok (.ifCond .ne 23, 3) := by decide +kernel
theorem dX10_operand_197 : decode mX10_operand.2.1 197 = .ok (.aload_n 0, 1) := by decide +kernel
theorem dX10_operand_198 : decode mX10_operand.2.1 198 = .ok (.ldc2_w 302, 3) := by decide +kernel
theorem dX10_operand_201 : decode mX10_operand.2.1 201 = .ok (.invokevirtual 328, 3) := by decide +kernel
theorem dX10_operand_204 : decode mX10_operand.2.1 204 = .ok (.ifCond .ne 13, 3) := by decide +kernel
theorem dX10_operand_207 : decode mX10_operand.2.1 207 = .ok (.aload_n 0, 1) := by decide +kernel
theorem dX10_operand_208 : decode mX10_operand.2.1 208 = .ok (.ldc2_w 290, 3) := by decide +kernel
theorem dX10_operand_211 : decode mX10_operand.2.1 211 = .ok (.invokevirtual 328, 3) := by decide +kernel
theorem dX10_operand_214 : decode mX10_operand.2.1 214 = .ok (.ifCond .eq 99, 3) := by decide +kernel
theorem dX10_operand_217 : decode mX10_operand.2.1 217 = .ok (.aload_n 0, 1) := by decide +kernel
theorem dX10_operand_218 : decode mX10_operand.2.1 218 = .ok (.ldc2_w 300, 3) := by decide +kernel
theorem dX10_operand_221 : decode mX10_operand.2.1 221 = .ok (.invokevirtual 328, 3) := by decide +kernel
theorem dX10_operand_224 : decode mX10_operand.2.1 224 = .ok (.ifCond .eq 8, 3) := by decide +kernel
theorem dX10_operand_227 : decode mX10_operand.2.1 227 = .ok (.bipush 36, 2) := by decide +kernel
theorem dX10_operand_229 : decode mX10_operand.2.1 229 = .ok (.goto 20, 3) := by decide +kernel
theorem dX10_operand_232 : decode mX10_operand.2.1 232 = .ok (.aload_n 0, 1) := by decide +kernel
theorem dX10_operand_233 : decode mX10_operand.2.1 233 = .ok (.ldc2_w 302, 3) := by decide +kernel
theorem dX10_operand_236 : decode mX10_operand.2.1 236 = .ok (.invokevirtual 328, 3) := by decide +kernel
theorem dX10_operand_239 : decode mX10_operand.2.1 239 = .ok (.ifCond .eq 8, 3) := by decide +kernel
theorem dX10_operand_242 : decode mX10_operand.2.1 242 = .ok (.bipush 37, 2) := by decide +kernel
theorem dX10_operand_244 : decode mX10_operand.2.1 244 = .ok (.goto 5, 3) := by decide +kernel
theorem dX10_operand_247 : decode mX10_operand.2.1 247 = .ok (.bipush 44, 2) := by decide +kernel
theorem dX10_operand_249 : decode mX10_operand.2.1 249 = .ok (.istore_n 3, 1) := by decide +kernel
theorem dX10_operand_250 : decode mX10_operand.2.1 250 = .ok (.aload_n 0, 1) := by decide +kernel
theorem dX10_operand_251 : decode mX10_operand.2.1 251 = .ok (.invokevirtual 247, 3) := by decide +kernel
theorem dX10_operand_254 : decode mX10_operand.2.1 254 = .ok (.aload_n 0, 1) := by decide +kernel
theorem dX10_operand_255 : decode mX10_operand.2.1 255 = .ok (.invokevirtual 241, 3) := by decide +kernel
theorem dX10_operand_258 : decode mX10_operand.2.1 258 = .ok (.aload_n 0, 1) := by decide +kernel
theorem dX10_operand_259 : decode mX10_operand.2.1 259 = .ok (.bipush 40, 2) := by decide +kernel
theorem dX10_operand_261 : decode mX10_operand.2.1 261 = .ok (.invokevirtual 244, 3) := by decide +kernel
theorem dX10_operand_264 : decode mX10_operand.2.1 264 = .ok (.ifCond .ne 12, 3) := by decide +kernel
theorem dX10_operand_267 : decode mX10_operand.2.1 267 = .ok (.aload_n 0, 1) := by decide +kernel
theorem dX10_operand_268 : decode mX10_operand.2.1 268 = .ok (.iconst 1, 1) := by decide +kernel
theorem dX10_operand_269 : decode mX10_operand.2.1 269 = .ok (.aload_n 0, 1) := by decide +kernel
theorem dX10_operand_270 : decode mX10_operand.2.1 270 = .ok (.getfield 23, 3) := by decide +kernel
theorem dX10_operand_273 : decode mX10_operand.2.1 273 = .ok (.invokevirtual 230, 3) := by decide +kernel
theorem dX10_operand_276 : decode mX10_operand.2.1 276 = .ok (.aload_n 0, 1) := by decide +kernel
theorem dX10_operand_277 : decode mX10_operand.2.1 277 = .ok (.iload_n 3, 1) := by decide +kernel
theorem dX10_operand_278 : decode mX10_operand.2.1 278 = .ok (.bipush 44, 2) := by decide +kernel
theorem dX10_operand_280 : decode mX10_operand.2.1 280 = .ok (.if_icmp .ne 8, 3) := by decide +kernel
theorem dX10_operand_283 : decode mX10_operand.2.1 283 = .ok (.bipush 6, 2) := by decide +kernel
theorem dX10_operand_285 : decode mX10_operand.2.1 285 = .ok (.goto 4, 3) := by decide +kernel
theorem dX10_operand_288 : decode mX10_operand.2.1 288 = .ok (.iconst 3, 1) := by decide +kernel
theorem dX10_operand_289 : decode mX10_operand.2.1 289 = .ok (.invokevirtual 335, 3) := by decide +kernel
theorem dX10_operand_292 : decode mX10_operand.2.1 292 = .ok (.aload_n 0, 1) := by decide +kernel
theorem dX10_operand_293 : decode mX10_operand.2.1 293 = .ok (.getfield 36, 3) := by decide +kernel
theorem dX10_operand_296 : decode mX10_operand.2.1 296 = .ok (.ifCond .ne 15, 3) := by decide +kernel
theorem dX10_operand_299 : decode mX10_operand.2.1 299 = .ok (.aload_n 0, 1) := by decide +kernel
theorem dX10_operand_300 : decode mX10_operand.2.1 300 = .ok (.getfield 128, 3) := by decide +kernel
theorem dX10_operand_303 : decode mX10_operand.2.1 303 = .ok (.aload_n 0, 1) := by decide +kernel
theorem dX10_operand_304 : decode mX10_operand.2.1 304 = .ok (.getfield 134, 3) := by decide +kernel
theorem dX10_operand_307 : decode mX10_operand.2.1 307 = .ok (.iconst 1, 1) := by decide +kernel
theorem dX10_operand_308 : decode mX10_operand.2.1 308 = .ok (.isub, 1) := by decide +kernel
theorem dX10_operand_309 : decode mX10_operand.2.1 309 = .ok (.iload_n 3, 1) := by decide +kernel
theorem dX10_operand_310 : decode mX10_operand.2.1 310 = .ok (.iastore, 1) := by decide +kernel
theorem dX10_operand_311 : decode mX10_operand.2.1 311 = .ok (.iconst 0, 1) := by decide +kernel
theorem dX10_operand_312 : decode mX10_operand.2.1 312 = .ok (.ireturn, 1) := by decide +kernel
theorem dX10_operand_313 : decode mX10_operand.2.1 313 = .ok (.aload_n 0, 1) := by decide +kernel
theorem dX10_operand_314 : decode mX10_operand.2.1 314 = .ok (.getfield 20, 3) := by decide +kernel
theorem dX10_operand_317 : decode mX10_operand.2.1 317 = .ok (.iconst 2, 1) := by decide +kernel
theorem dX10_operand_318 : decode mX10_operand.2.1 318 = .ok (.if_icmp .ne 7, 3) := by decide +kernel
theorem dX10_operand_321 : decode mX10_operand.2.1 321 = .ok (.iconst 0, 1) := by decide +kernel
theorem dX10_operand_322 : decode mX10_operand.2.1 322 = .ok (.goto 164, 3) := by decide +kernel
theorem dX10_operand_325 : decode mX10_operand.2.1 325 = .ok (.aload_n 0, 1) := by decide +kernel
theorem dX10_operand_326 : decode mX10_operand.2.1 326 = .ok (.ldc2_w 252, 3) := by decide +kernel
theorem dX10_operand_329 : decode mX10_operand.2.1 329 = .ok (.invokevirtual 328, 3) := by decide +kernel
theorem dX10_operand_332 : decode mX10_operand.2.1 332 = .ok (.ifCond .eq 7, 3) := by decide +kernel
theorem dX10_operand_335 : decode mX10_operand.2.1 335 = .ok (.iconst 1, 1) := by decide +kernel
theorem dX10_operand_336 : decode mX10_operand.2.1 336 = .ok (.goto 150, 3) := by decide +kernel
theorem dX10_operand_339 : decode mX10_operand.2.1 339 = .ok (.aload_n 0, 1) := by decide +kernel
theorem dX10_operand_340 : decode mX10_operand.2.1 340 = .ok (.ldc2_w 254, 3) := by decide +kernel
theorem dX10_operand_343 : decode mX10_operand.2.1 343 = .ok (.invokevirtual 328, 3) := by decide +kernel
theorem dX10_operand_346 : decode mX10_operand.2.1 346 = .ok (.ifCond .eq 7, 3) := by decide +kernel
theorem dX10_operand_349 : decode mX10_operand.2.1 349 = .ok (.iconst 2, 1) := by decide +kernel
theorem dX10_operand_350 : decode mX10_operand.2.1 350 = .ok (.goto 136, 3) := by decide +kernel
theorem dX10_operand_353 : decode mX10_operand.2.1 353 = .ok (.aload_n 0, 1) := by decide +kernel
theorem dX10_operand_354 : decode mX10_operand.2.1 354 = .ok (.ldc2_w 258, 3) := by decide +kernel
theorem dX10_operand_357 : decode mX10_operand.2.1 357 = .ok (.invokevirtual 328, 3) := by decide +kernel
theorem dX10_operand_360 : decode mX10_operand.2.1 360 = .ok (.ifCond .eq 7, 3) := by decide +kernel
theorem dX10_operand_363 : decode mX10_operand.2.1 363 = .ok (.iconst 3, 1) := by decide +kernel
theorem dX10_operand_364 : decode mX10_operand.2.1 364 = .ok (.goto 122, 3) := by decide +kernel
theorem dX10_operand_367 : decode mX10_operand.2.1 367 = .ok (.aload_n 0, 1) := by decide +kernel
theorem dX10_operand_368 : decode mX10_operand.2.1 368 = .ok (.ldc2_w 260, 3) := by decide +kernel
theorem dX10_operand_371 : decode mX10_operand.2.1 371 = .ok (.invokevirtual 328, 3) := by decide +kernel
theorem dX10_operand_374 : decode mX10_operand.2.1 374 = .ok (.ifCond .eq 7, 3) := by decide +kernel
theorem dX10_operand_377 : decode mX10_operand.2.1 377 = .ok (.iconst 4, 1) := by decide +kernel
theorem dX10_operand_378 : decode mX10_operand.2.1 378 = .ok (.goto 108, 3) := by decide +kernel
theorem dX10_operand_381 : decode mX10_operand.2.1 381 = .ok (.aload_n 0, 1) := by decide +kernel
theorem dX10_operand_382 : decode mX10_operand.2.1 382 = .ok (.ldc2_w 278, 3) := by decide +kernel
theorem dX10_operand_385 : decode mX10_operand.2.1 385 = .ok (.invokevirtual 328, 3) := by decide +kernel
theorem dX10_operand_388 : decode mX10_operand.2.1 388 = .ok (.ifCond .eq 7, 3) := by decide +kernel
theorem dX10_operand_391 : decode mX10_operand.2.1 391 = .ok (.iconst 5, 1) := by decide +kernel
theorem dX10_operand_392 : decode mX10_operand.2.1 392 = .ok (.goto 94, 3) := by decide +kernel
theorem dX10_operand_395 : decode mX10_operand.2.1 395 = .ok (.aload_n 0, 1) := by decide +kernel
theorem dX10_operand_396 : decode mX10_operand.2.1 396 = .ok (.ldc2_w 282, 3) := by decide +kernel
theorem dX10_operand_399 : decode mX10_operand.2.1 399 = .ok (.invokevirtual 328, 3) := by decide +kernel
theorem dX10_operand_402 : decode mX10_operand.2.1 402 = .ok (.ifCond .eq 8, 3) := by decide +kernel
theorem dX10_operand_405 : decode mX10_operand.2.1 405 = .ok (.bipush 6, 2) := by decide +kernel
theorem dX10_operand_407 : decode mX10_operand.2.1 407 = .ok (.goto 79, 3) := by decide +kernel
theorem dX10_operand_410 : decode mX10_operand.2.1 410 = .ok (.aload_n 0, 1) := by decide +kernel
theorem dX10_operand_411 : decode mX10_operand.2.1 411 = .ok (.ldc2_w 284, 3) := by decide +kernel
theorem dX10_operand_414 : decode mX10_operand.2.1 414 = .ok (.invokevirtual 328, 3) := by decide +kernel
theorem dX10_operand_417 : decode mX10_operand.2.1 417 = .ok (.ifCond .eq 8, 3) := by decide +kernel
theorem dX10_operand_420 : decode mX10_operand.2.1 420 = .ok (.bipush 7, 2) := by decide +kernel
theorem dX10_operand_422 : decode mX10_operand.2.1 422 = .ok (.goto 64, 3) := by decide +kernel
theorem dX10_operand_425 : decode mX10_operand.2.1 425 = .ok (.aload_n 0, 1) := by decide +kernel
theorem dX10_operand_426 : decode mX10_operand.2.1 426 = .ok (.ldc2_w 286, 3) := by decide +kernel
theorem dX10_operand_429 : decode mX10_operand.2.1 429 = .ok (.invokevirtual 328, 3) := by decide +kernel
theorem dX10_operand_432 : decode mX10_operand.2.1 432 = .ok (.ifCond .eq 8, 3) := by decide +kernel
theorem dX10_operand_435 : decode mX10_operand.2.1 435 = .ok (.bipush 8, 2) := by decide +kernel
theorem dX10_operand_437 : decode mX10_operand.2.1 437 = .ok (.goto 49, 3) := by decide +kernel
theorem dX10_operand_440 : decode mX10_operand.2.1 440 = .ok (.aload_n 0, 1) := by decide +kernel
theorem dX10_operand_441 : decode mX10_operand.2.1 441 = .ok (.ldc2_w 264, 3) := by decide +kernel
theorem dX10_operand_444 : decode mX10_operand.2.1 444 = .ok (.invokevirtual 328, 3) := by decide +kernel
theorem dX10_operand_447 : decode mX10_operand.2.1 447 = .ok (.ifCond .eq 8, 3) := by decide +kernel
theorem dX10_operand_450 : decode mX10_operand.2.1 450 = .ok (.bipush 9, 2) := by decide +kernel
theorem dX10_operand_452 : decode mX10_operand.2.1 452 = .ok (.goto 34, 3) := by decide +kernel
theorem dX10_operand_455 : decode mX10_operand.2.1 455 = .ok (.aload_n 0, 1) := by decide +kernel
theorem dX10_operand_456 : decode mX10_operand.2.1 456 = .ok (.ldc2_w 266, 3) := by decide +kernel
theorem dX10_operand_459 : decode mX10_operand.2.1 459 = .ok (.invokevirtual 328, 3) := by decide +kernel
theorem dX10_operand_462 : decode mX10_operand.2.1 462 = .ok (.ifCond .eq 8, 3) := by decide +kernel
theorem dX10_operand_465 : decode mX10_operand.2.1 465 = .ok (.bipush 10, 2) := by decide +kernel
theorem dX10_operand_467 : decode mX10_operand.2.1 467 = .ok (.goto 19, 3) := by decide +kernel
theorem dX10_operand_470 : decode mX10_operand.2.1 470 = .ok (.aload_n 0, 1) := by decide +kernel
theorem dX10_operand_471 : decode mX10_operand.2.1 471 = .ok (.ldc2_w 288, 3) := by decide +kernel
theorem dX10_operand_474 : decode mX10_operand.2.1 474 = .ok (.invokevirtual 328, 3) := by decide +kernel
theorem dX10_operand_477 : decode mX10_operand.2.1 477 = .ok (.ifCond .eq 8, 3) := by decide +kernel
theorem dX10_operand_480 : decode mX10_operand.2.1 480 = .ok (.bipush 11, 2) := by decide +kernel
theorem dX10_operand_482 : decode mX10_operand.2.1 482 = .ok (.goto 4, 3) := by decide +kernel
theorem dX10_operand_485 : decode mX10_operand.2.1 485 = .ok (.iconst (-1), 1) := by decide +kernel
theorem dX10_operand_486 : decode mX10_operand.2.1 486 = .ok (.istore_n 3, 1) := by decide +kernel
theorem dX10_operand_487 : decode mX10_operand.2.1 487 = .ok (.iload_n 3, 1) := by decide +kernel
theorem dX10_operand_488 : decode mX10_operand.2.1 488 = .ok (.bipush 7, 2) := by decide +kernel
theorem dX10_operand_490 : decode mX10_operand.2.1 490 = .ok (.if_icmp .lt 45, 3) := by decide +kernel
theorem dX10_operand_493 : decode mX10_operand.2.1 493 = .ok (.iload_n 3, 1) := by decide +kernel
theorem dX10_operand_494 : decode mX10_operand.2.1 494 = .ok (.bipush 8, 2) := by decide +kernel
theorem dX10_operand_496 : decode mX10_operand.2.1 496 = .ok (.if_icmp .gt 21, 3) := by decide +kernel
theorem dX10_operand_499 : decode mX10_operand.2.1 499 = .ok (.aload_n 0, 1) := by decide +kernel
theorem dX10_operand_500 : decode mX10_operand.2.1 500 = .ok (.getfield 115, 3) := by decide +kernel
theorem dX10_operand_503 : decode mX10_operand.2.1 503 = .ok (.ifCond .eq 32, 3) := by decide +kernel
theorem dX10_operand_506 : decode mX10_operand.2.1 506 = .ok (.aload_n 0, 1) := by decide +kernel
theorem dX10_operand_507 : decode mX10_operand.2.1 507 = .ok (.getfield 115, 3) := by decide +kernel
theorem dX10_operand_510 : decode mX10_operand.2.1 510 = .ok (.iconst 1, 1) := by decide +kernel
theorem dX10_operand_511 : decode mX10_operand.2.1 511 = .ok (.if_icmp .eq 24, 3) := by decide +kernel
theorem dX10_operand_514 : decode mX10_operand.2.1 514 = .ok (.goto 19, 3) := by decide +kernel
theorem dX10_operand_517 : decode mX10_operand.2.1 517 = .ok (.aload_n 0, 1) := by decide +kernel
theorem dX10_operand_518 : decode mX10_operand.2.1 518 = .ok (.getfield 115, 3) := by decide +kernel
theorem dX10_operand_521 : decode mX10_operand.2.1 521 = .ok (.iconst 2, 1) := by decide +kernel
theorem dX10_operand_522 : decode mX10_operand.2.1 522 = .ok (.if_icmp .eq 13, 3) := by decide +kernel
theorem dX10_operand_525 : decode mX10_operand.2.1 525 = .ok (.aload_n 0, 1) := by decide +kernel
theorem dX10_operand_526 : decode mX10_operand.2.1 526 = .ok (.getfield 115, 3) := by decide +kernel
theorem dX10_operand_529 : decode mX10_operand.2.1 529 = .ok (.iconst 3, 1) := by decide +kernel
theorem dX10_operand_530 : decode mX10_operand.2.1 530 = .ok (.if_icmp .eq 5, 3) := by decide +kernel
theorem dX10_operand_533 : decode mX10_operand.2.1 533 = .ok (.iconst (-1), 1) := by decide +kernel
theorem dX10_operand_534 : decode mX10_operand.2.1 534 = .ok (.istore_n 3, 1) := by decide +kernel
theorem dX10_operand_535 : decode mX10_operand.2.1 535 = .ok (.iload_n 3, 1) := by decide +kernel
theorem dX10_operand_536 : decode mX10_operand.2.1 536 = .ok (.iconst (-1), 1) := by decide +kernel
theorem dX10_operand_537 : decode mX10_operand.2.1 537 = .ok (.if_icmp .ne 12, 3) := by decide +kernel
theorem dX10_operand_540 : decode mX10_operand.2.1 540 = .ok (.aload_n 0, 1) := by decide +kernel
theorem dX10_operand_541 : decode mX10_operand.2.1 541 = .ok (.iconst 1, 1) := by decide +kernel
theorem dX10_operand_542 : decode mX10_operand.2.1 542 = .ok (.aload_n 0, 1) := by decide +kernel
theorem dX10_operand_543 : decode mX10_operand.2.1 543 = .ok (.getfield 23, 3) := by decide +kernel
theorem dX10_operand_546 : decode mX10_operand.2.1 546 = .ok (.invokevirtual 230, 3) := by decide +kernel
theorem dX10_operand_549 : decode mX10_operand.2.1 549 = .ok (.aload_n 0, 1) := by decide +kernel
theorem dX10_operand_550 : decode mX10_operand.2.1 550 = .ok (.getfield 36, 3) := by decide +kernel
theorem dX10_operand_553 : decode mX10_operand.2.1 553 = .ok (.ifCond .le 5, 3) := by decide +kernel
theorem dX10_operand_556 : decode mX10_operand.2.1 556 = .ok (.iconst 1, 1) := by decide +kernel
theorem dX10_operand_557 : decode mX10_operand.2.1 557 = .ok (.ireturn, 1) := by decide +kernel
theorem dX10_operand_558 : decode mX10_operand.2.1 558 = .ok (.aload_n 0, 1) := by decide +kernel
theorem dX10_operand_559 : decode mX10_operand.2.1 559 = .ok (.iload_n 3, 1) := by decide +kernel
theorem dX10_operand_560 : decode mX10_operand.2.1 560 = .ok (.aload_n 0, 1) := by decide +kernel
theorem dX10_operand_561 : decode mX10_operand.2.1 561 = .ok (.getfield 29, 3) := by decide +kernel
theorem dX10_operand_564 : decode mX10_operand.2.1 564 = .ok (.invokevirtual 319, 3) := by decide +kernel
theorem dX10_operand_567 : decode mX10_operand.2.1 567 = .ok (.aload_n 0, 1) := by decide +kernel
theorem dX10_operand_568 : decode mX10_operand.2.1 568 = .ok (.invokevirtual 247, 3) := by decide +kernel
theorem dX10_operand_571 : decode mX10_operand.2.1 571 = .ok (.iconst 1, 1) := by decide +kernel
theorem dX10_operand_572 : decode mX10_operand.2.1 572 = .ok (.ireturn, 1) := by decide +kernel
abbrev mX10_goesOn : aM := (yX10_goesOn, cX10_goesOn, 5, (some .boolean))
theorem dX10_goesOn_0 : decode mX10_goesOn.2.1 0 = .ok (.aload_n 0, 1) := by decide +kernel
theorem dX10_goesOn_1 : decode mX10_goesOn.2.1 1 = .ok (.invokevirtual 241, 3) := by decide +kernel
theorem dX10_goesOn_4 : decode mX10_goesOn.2.1 4 = .ok (.aload_n 0, 1) := by decide +kernel
theorem dX10_goesOn_5 : decode mX10_goesOn.2.1 5 = .ok (.getfield 36, 3) := by decide +kernel
theorem dX10_goesOn_8 : decode mX10_goesOn.2.1 8 = .ok (.ifCond .le 5, 3) := by decide +kernel
theorem dX10_goesOn_11 : decode mX10_goesOn.2.1 11 = .ok (.iconst 0, 1) := by decide +kernel
theorem dX10_goesOn_12 : decode mX10_goesOn.2.1 12 = .ok (.ireturn, 1) := by decide +kernel
theorem dX10_goesOn_13 : decode mX10_goesOn.2.1 13 = .ok (.aload_n 0, 1) := by decide +kernel
theorem dX10_goesOn_14 : decode mX10_goesOn.2.1 14 = .ok (.getfield 134, 3) := by decide +kernel
theorem dX10_goesOn_17 : decode mX10_goesOn.2.1 17 = .ok (.iconst 1, 1) := by decide +kernel
theorem dX10_goesOn_18 : decode mX10_goesOn.2.1 18 = .ok (.isub, 1) := by decide +kernel
theorem dX10_goesOn_19 : decode mX10_goesOn.2.1 19 = .ok (.istore_n 1, 1) := by decide +kernel
theorem dX10_goesOn_20 : decode mX10_goesOn.2.1 20 = .ok (.aload_n 0, 1) := by decide +kernel
theorem dX10_goesOn_21 : decode mX10_goesOn.2.1 21 = .ok (.getfield 118, 3) := by decide +kernel
theorem dX10_goesOn_24 : decode mX10_goesOn.2.1 24 = .ok (.iload_n 1, 1) := by decide +kernel
theorem dX10_goesOn_25 : decode mX10_goesOn.2.1 25 = .ok (.iaload, 1) := by decide +kernel
theorem dX10_goesOn_26 : decode mX10_goesOn.2.1 26 = .ok (.istore_n 2, 1) := by decide +kernel
theorem dX10_goesOn_27 : decode mX10_goesOn.2.1 27 = .ok (.iload_n 2, 1) := by decide +kernel
theorem dX10_goesOn_28 : decode mX10_goesOn.2.1 28 = .ok (.invokestatic 325, 3) := by decide +kernel
theorem dX10_goesOn_31 : decode mX10_goesOn.2.1 31 = .ok (.istore_n 3, 1) := by decide +kernel
theorem dX10_goesOn_32 : decode mX10_goesOn.2.1 32 = .ok (.aload_n 0, 1) := by decide +kernel
theorem dX10_goesOn_33 : decode mX10_goesOn.2.1 33 = .ok (.getfield 121, 3) := by decide +kernel
theorem dX10_goesOn_36 : decode mX10_goesOn.2.1 36 = .ok (.iload_n 1, 1) := by decide +kernel
theorem dX10_goesOn_37 : decode mX10_goesOn.2.1 37 = .ok (.iaload, 1) := by decide +kernel
theorem dX10_goesOn_38 : decode mX10_goesOn.2.1 38 = .ok (.iconst 2, 1) := by decide +kernel
theorem dX10_goesOn_39 : decode mX10_goesOn.2.1 39 = .ok (.if_icmp .ge 149, 3) := by decide +kernel
theorem dX10_goesOn_42 : decode mX10_goesOn.2.1 42 = .ok (.aload_n 0, 1) := by decide +kernel
theorem dX10_goesOn_43 : decode mX10_goesOn.2.1 43 = .ok (.bipush 43, 2) := by decide +kernel
theorem dX10_goesOn_45 : decode mX10_goesOn.2.1 45 = .ok (.invokevirtual 244, 3) := by decide +kernel
theorem dX10_goesOn_48 : decode mX10_goesOn.2.1 48 = .ok (.ifCond .ne 39, 3) := by decide +kernel
theorem dX10_goesOn_51 : decode mX10_goesOn.2.1 51 = .ok (.aload_n 0, 1) := by decide +kernel
theorem dX10_goesOn_52 : decode mX10_goesOn.2.1 52 = .ok (.bipush 45, 2) := by decide +kernel
theorem dX10_goesOn_54 : decode mX10_goesOn.2.1 54 = .ok (.invokevirtual 244, 3) := by decide +kernel
theorem dX10_goesOn_57 : decode mX10_goesOn.2.1 57 = .ok (.ifCond .ne 30, 3) := by decide +kernel
theorem dX10_goesOn_60 : decode mX10_goesOn.2.1 60 = .ok (.aload_n 0, 1) := by decide +kernel
theorem dX10_goesOn_61 : decode mX10_goesOn.2.1 61 = .ok (.bipush 42, 2) := by decide +kernel
theorem dX10_goesOn_63 : decode mX10_goesOn.2.1 63 = .ok (.invokevirtual 244, 3) := by decide +kernel
theorem dX10_goesOn_66 : decode mX10_goesOn.2.1 66 = .ok (.ifCond .ne 21, 3) := by decide +kernel
theorem dX10_goesOn_69 : decode mX10_goesOn.2.1 69 = .ok (.aload_n 0, 1) := by decide +kernel
theorem dX10_goesOn_70 : decode mX10_goesOn.2.1 70 = .ok (.bipush 47, 2) := by decide +kernel
theorem dX10_goesOn_72 : decode mX10_goesOn.2.1 72 = .ok (.invokevirtual 244, 3) := by decide +kernel
theorem dX10_goesOn_75 : decode mX10_goesOn.2.1 75 = .ok (.ifCond .ne 12, 3) := by decide +kernel
theorem dX10_goesOn_78 : decode mX10_goesOn.2.1 78 = .ok (.aload_n 0, 1) := by decide +kernel
theorem dX10_goesOn_79 : decode mX10_goesOn.2.1 79 = .ok (.bipush 37, 2) := by decide +kernel
theorem dX10_goesOn_81 : decode mX10_goesOn.2.1 81 = .ok (.invokevirtual 244, 3) := by decide +kernel
theorem dX10_goesOn_84 : decode mX10_goesOn.2.1 84 = .ok (.ifCond .eq 104, 3) := by decide +kernel
theorem dX10_goesOn_87 : decode mX10_goesOn.2.1 87 = .ok (.aload_n 0, 1) := by decide +kernel
theorem dX10_goesOn_88 : decode mX10_goesOn.2.1 88 = .ok (.aload_n 0, 1) := by decide +kernel
theorem dX10_goesOn_89 : decode mX10_goesOn.2.1 89 = .ok (.bipush 43, 2) := by decide +kernel
theorem dX10_goesOn_91 : decode mX10_goesOn.2.1 91 = .ok (.invokevirtual 244, 3) := by decide +kernel
theorem dX10_goesOn_94 : decode mX10_goesOn.2.1 94 = .ok (.ifCond .ne 12, 3) := by decide +kernel
theorem dX10_goesOn_97 : decode mX10_goesOn.2.1 97 = .ok (.aload_n 0, 1) := by decide +kernel
theorem dX10_goesOn_98 : decode mX10_goesOn.2.1 98 = .ok (.bipush 45, 2) := by decide +kernel
theorem dX10_goesOn_100 : decode mX10_goesOn.2.1 100 = .ok (.invokevirtual 244, 3) := by decide +kernel
theorem dX10_goesOn_103 : decode mX10_goesOn.2.1 103 = .ok (.ifCond .eq 7, 3) := by decide +kernel
theorem dX10_goesOn_106 : decode mX10_goesOn.2.1 106 = .ok (.iconst 5, 1) := by decide +kernel
theorem dX10_goesOn_107 : decode mX10_goesOn.2.1 107 = .ok (.goto 5, 3) := by decide +kernel
theorem dX10_goesOn_110 : decode mX10_goesOn.2.1 110 = .ok (.bipush 6, 2) := by decide +kernel
theorem dX10_goesOn_112 : decode mX10_goesOn.2.1 112 = .ok (.invokevirtual 338, 3) := by decide +kernel
theorem dX10_goesOn_115 : decode mX10_goesOn.2.1 115 = .ok (.aload_n 0, 1) := by decide +kernel
theorem dX10_goesOn_116 : decode mX10_goesOn.2.1 116 = .ok (.aload_n 0, 1) := by decide +kernel
theorem dX10_goesOn_117 : decode mX10_goesOn.2.1 117 = .ok (.bipush 43, 2) := by decide +kernel
theorem dX10_goesOn_119 : decode mX10_goesOn.2.1 119 = .ok (.invokevirtual 244, 3) := by decide +kernel
theorem dX10_goesOn_122 : decode mX10_goesOn.2.1 122 = .ok (.ifCond .eq 8, 3) := by decide +kernel
theorem dX10_goesOn_125 : decode mX10_goesOn.2.1 125 = .ok (.bipush 31, 2) := by decide +kernel
theorem dX10_goesOn_127 : decode mX10_goesOn.2.1 127 = .ok (.goto 47, 3) := by decide +kernel
theorem dX10_goesOn_130 : decode mX10_goesOn.2.1 130 = .ok (.aload_n 0, 1) := by decide +kernel
theorem dX10_goesOn_131 : decode mX10_goesOn.2.1 131 = .ok (.bipush 45, 2) := by decide +kernel
theorem dX10_goesOn_133 : decode mX10_goesOn.2.1 133 = .ok (.invokevirtual 244, 3) := by decide +kernel
theorem dX10_goesOn_136 : decode mX10_goesOn.2.1 136 = .ok (.ifCond .eq 8, 3) := by decide +kernel
theorem dX10_goesOn_139 : decode mX10_goesOn.2.1 139 = .ok (.bipush 32, 2) := by decide +kernel
theorem dX10_goesOn_141 : decode mX10_goesOn.2.1 141 = .ok (.goto 33, 3) := by decide +kernel
theorem dX10_goesOn_144 : decode mX10_goesOn.2.1 144 = .ok (.aload_n 0, 1) := by decide +kernel
theorem dX10_goesOn_145 : decode mX10_goesOn.2.1 145 = .ok (.bipush 42, 2) := by decide +kernel
theorem dX10_goesOn_147 : decode mX10_goesOn.2.1 147 = .ok (.invokevirtual 244, 3) := by decide +kernel
theorem dX10_goesOn_150 : decode mX10_goesOn.2.1 150 = .ok (.ifCond .eq 8, 3) := by decide +kernel
theorem dX10_goesOn_153 : decode mX10_goesOn.2.1 153 = .ok (.bipush 33, 2) := by decide +kernel
theorem dX10_goesOn_155 : decode mX10_goesOn.2.1 155 = .ok (.goto 19, 3) := by decide +kernel
theorem dX10_goesOn_158 : decode mX10_goesOn.2.1 158 = .ok (.aload_n 0, 1) := by decide +kernel
theorem dX10_goesOn_159 : decode mX10_goesOn.2.1 159 = .ok (.bipush 47, 2) := by decide +kernel
theorem dX10_goesOn_161 : decode mX10_goesOn.2.1 161 = .ok (.invokevirtual 244, 3) := by decide +kernel
theorem dX10_goesOn_164 : decode mX10_goesOn.2.1 164 = .ok (.ifCond .eq 8, 3) := by decide +kernel
theorem dX10_goesOn_167 : decode mX10_goesOn.2.1 167 = .ok (.bipush 34, 2) := by decide +kernel
theorem dX10_goesOn_169 : decode mX10_goesOn.2.1 169 = .ok (.goto 5, 3) := by decide +kernel
theorem dX10_goesOn_172 : decode mX10_goesOn.2.1 172 = .ok (.bipush 35, 2) := by decide +kernel
theorem dX10_goesOn_174 : decode mX10_goesOn.2.1 174 = .ok (.invokevirtual 332, 3) := by decide +kernel
theorem dX10_goesOn_177 : decode mX10_goesOn.2.1 177 = .ok (.aload_n 0, 1) := by decide +kernel
theorem dX10_goesOn_178 : decode mX10_goesOn.2.1 178 = .ok (.invokevirtual 247, 3) := by decide +kernel
theorem dX10_goesOn_181 : decode mX10_goesOn.2.1 181 = .ok (.aload_n 0, 1) := by decide +kernel
theorem dX10_goesOn_182 : decode mX10_goesOn.2.1 182 = .ok (.iconst 0, 1) := by decide +kernel
theorem dX10_goesOn_183 : decode mX10_goesOn.2.1 183 = .ok (.putfield 146, 3) := by decide +kernel
theorem dX10_goesOn_186 : decode mX10_goesOn.2.1 186 = .ok (.iconst 1, 1) := by decide +kernel
theorem dX10_goesOn_187 : decode mX10_goesOn.2.1 187 = .ok (.ireturn, 1) := by decide +kernel
theorem dX10_goesOn_188 : decode mX10_goesOn.2.1 188 = .ok (.iload_n 3, 1) := by decide +kernel
theorem dX10_goesOn_189 : decode mX10_goesOn.2.1 189 = .ok (.ifCond .eq 96, 3) := by decide +kernel
theorem dX10_goesOn_192 : decode mX10_goesOn.2.1 192 = .ok (.aload_n 0, 1) := by decide +kernel
theorem dX10_goesOn_193 : decode mX10_goesOn.2.1 193 = .ok (.getfield 121, 3) := by decide +kernel
theorem dX10_goesOn_196 : decode mX10_goesOn.2.1 196 = .ok (.iload_n 1, 1) := by decide +kernel
theorem dX10_goesOn_197 : decode mX10_goesOn.2.1 197 = .ok (.iaload, 1) := by decide +kernel
theorem dX10_goesOn_198 : decode mX10_goesOn.2.1 198 = .ok (.ifCond .ne 87, 3) := by decide +kernel
theorem dX10_goesOn_201 : decode mX10_goesOn.2.1 201 = .ok (.aload_n 0, 1) := by decide +kernel
theorem dX10_goesOn_202 : decode mX10_goesOn.2.1 202 = .ok (.bipush 60, 2) := by decide +kernel
theorem dX10_goesOn_204 : decode mX10_goesOn.2.1 204 = .ok (.invokevirtual 244, 3) := by decide +kernel
theorem dX10_goesOn_207 : decode mX10_goesOn.2.1 207 = .ok (.ifCond .ne 21, 3) := by decide +kernel
theorem dX10_goesOn_210 : decode mX10_goesOn.2.1 210 = .ok (.aload_n 0, 1) := by decide +kernel
theorem dX10_goesOn_211 : decode mX10_goesOn.2.1 211 = .ok (.bipush 62, 2) := by decide +kernel
theorem dX10_goesOn_213 : decode mX10_goesOn.2.1 213 = .ok (.invokevirtual 244, 3) := by decide +kernel
theorem dX10_goesOn_216 : decode mX10_goesOn.2.1 216 = .ok (.ifCond .ne 12, 3) := by decide +kernel
theorem dX10_goesOn_219 : decode mX10_goesOn.2.1 219 = .ok (.aload_n 0, 1) := by decide +kernel
theorem dX10_goesOn_220 : decode mX10_goesOn.2.1 220 = .ok (.bipush 61, 2) := by decide +kernel
theorem dX10_goesOn_222 : decode mX10_goesOn.2.1 222 = .ok (.invokevirtual 244, 3) := by decide +kernel
theorem dX10_goesOn_225 : decode mX10_goesOn.2.1 225 = .ok (.ifCond .eq 60, 3) := by decide +kernel
theorem dX10_goesOn_228 : decode mX10_goesOn.2.1 228 = .ok (.aload_n 0, 1) := by decide +kernel
theorem dX10_goesOn_229 : decode mX10_goesOn.2.1 229 = .ok (.iconst 5, 1) := by decide +kernel
theorem dX10_goesOn_230 : decode mX10_goesOn.2.1 230 = .ok (.invokevirtual 338, 3) := by decide +kernel
theorem dX10_goesOn_233 : decode mX10_goesOn.2.1 233 = .ok (.aload_n 0, 1) := by decide +kernel
theorem dX10_goesOn_234 : decode mX10_goesOn.2.1 234 = .ok (.aload_n 0, 1) := by decide +kernel
theorem dX10_goesOn_235 : decode mX10_goesOn.2.1 235 = .ok (.bipush 60, 2) := by decide +kernel
theorem dX10_goesOn_237 : decode mX10_goesOn.2.1 237 = .ok (.invokevirtual 244, 3) := by decide +kernel
theorem dX10_goesOn_240 : decode mX10_goesOn.2.1 240 = .ok (.ifCond .eq 8, 3) := by decide +kernel
theorem dX10_goesOn_243 : decode mX10_goesOn.2.1 243 = .ok (.bipush 38, 2) := by decide +kernel
theorem dX10_goesOn_245 : decode mX10_goesOn.2.1 245 = .ok (.goto 19, 3) := by decide +kernel
theorem dX10_goesOn_248 : decode mX10_goesOn.2.1 248 = .ok (.aload_n 0, 1) := by decide +kernel
theorem dX10_goesOn_249 : decode mX10_goesOn.2.1 249 = .ok (.bipush 62, 2) := by decide +kernel
theorem dX10_goesOn_251 : decode mX10_goesOn.2.1 251 = .ok (.invokevirtual 244, 3) := by decide +kernel
theorem dX10_goesOn_254 : decode mX10_goesOn.2.1 254 = .ok (.ifCond .eq 8, 3) := by decide +kernel
theorem dX10_goesOn_257 : decode mX10_goesOn.2.1 257 = .ok (.bipush 39, 2) := by decide +kernel
theorem dX10_goesOn_259 : decode mX10_goesOn.2.1 259 = .ok (.goto 5, 3) := by decide +kernel
theorem dX10_goesOn_262 : decode mX10_goesOn.2.1 262 = .ok (.bipush 40, 2) := by decide +kernel
theorem dX10_goesOn_264 : decode mX10_goesOn.2.1 264 = .ok (.invokevirtual 332, 3) := by decide +kernel
theorem dX10_goesOn_267 : decode mX10_goesOn.2.1 267 = .ok (.aload_n 0, 1) := by decide +kernel
theorem dX10_goesOn_268 : decode mX10_goesOn.2.1 268 = .ok (.getfield 121, 3) := by decide +kernel
theorem dX10_goesOn_271 : decode mX10_goesOn.2.1 271 = .ok (.iload_n 1, 1) := by decide +kernel
theorem dX10_goesOn_272 : decode mX10_goesOn.2.1 272 = .ok (.iconst 1, 1) := by decide +kernel
theorem dX10_goesOn_273 : decode mX10_goesOn.2.1 273 = .ok (.iastore, 1) := by decide +kernel
theorem dX10_goesOn_274 : decode mX10_goesOn.2.1 274 = .ok (.aload_n 0, 1) := by decide +kernel
theorem dX10_goesOn_275 : decode mX10_goesOn.2.1 275 = .ok (.invokevirtual 247, 3) := by decide +kernel
theorem dX10_goesOn_278 : decode mX10_goesOn.2.1 278 = .ok (.aload_n 0, 1) := by decide +kernel
theorem dX10_goesOn_279 : decode mX10_goesOn.2.1 279 = .ok (.iconst 0, 1) := by decide +kernel
theorem dX10_goesOn_280 : decode mX10_goesOn.2.1 280 = .ok (.putfield 146, 3) := by decide +kernel
theorem dX10_goesOn_283 : decode mX10_goesOn.2.1 283 = .ok (.iconst 1, 1) := by decide +kernel
theorem dX10_goesOn_284 : decode mX10_goesOn.2.1 284 = .ok (.ireturn, 1) := by decide +kernel
theorem dX10_goesOn_285 : decode mX10_goesOn.2.1 285 = .ok (.iload_n 3, 1) := by decide +kernel
theorem dX10_goesOn_286 : decode mX10_goesOn.2.1 286 = .ok (.ifCond .eq 114, 3) := by decide +kernel
theorem dX10_goesOn_289 : decode mX10_goesOn.2.1 289 = .ok (.aload_n 0, 1) := by decide +kernel
theorem dX10_goesOn_290 : decode mX10_goesOn.2.1 290 = .ok (.ldc2_w 294, 3) := by decide +kernel
theorem dX10_goesOn_293 : decode mX10_goesOn.2.1 293 = .ok (.invokevirtual 328, 3) := by decide +kernel
theorem dX10_goesOn_296 : decode mX10_goesOn.2.1 296 = .ok (.ifCond .ne 13, 3) := by decide +kernel
theorem dX10_goesOn_299 : decode mX10_goesOn.2.1 299 = .ok (.aload_n 0, 1) := by decide +kernel
theorem dX10_goesOn_300 : decode mX10_goesOn.2.1 300 = .ok (.ldc2_w 292, 3) := by decide +kernel
theorem dX10_goesOn_303 : decode mX10_goesOn.2.1 303 = .ok (.invokevirtual 328, 3) := by decide +kernel
theorem dX10_goesOn_306 : decode mX10_goesOn.2.1 306 = .ok (.ifCond .eq 94, 3) := by decide +kernel
theorem dX10_goesOn_309 : decode mX10_goesOn.2.1 309 = .ok (.aload_n 0, 1) := by decide +kernel
theorem dX10_goesOn_310 : decode mX10_goesOn.2.1 310 = .ok (.getfield 121, 3) := by decide +kernel
theorem dX10_goesOn_313 : decode mX10_goesOn.2.1 313 = .ok (.iload_n 1, 1) := by decide +kernel
theorem dX10_goesOn_314 : decode mX10_goesOn.2.1 314 = .ok (.iaload, 1) := by decide +kernel
theorem dX10_goesOn_315 : decode mX10_goesOn.2.1 315 = .ok (.ifCond .ne 12, 3) := by decide +kernel
theorem dX10_goesOn_318 : decode mX10_goesOn.2.1 318 = .ok (.aload_n 0, 1) := by decide +kernel
theorem dX10_goesOn_319 : decode mX10_goesOn.2.1 319 = .ok (.iconst 1, 1) := by decide +kernel
theorem dX10_goesOn_320 : decode mX10_goesOn.2.1 320 = .ok (.aload_n 0, 1) := by decide +kernel
theorem dX10_goesOn_321 : decode mX10_goesOn.2.1 321 = .ok (.getfield 23, 3) := by decide +kernel
theorem dX10_goesOn_324 : decode mX10_goesOn.2.1 324 = .ok (.invokevirtual 230, 3) := by decide +kernel
theorem dX10_goesOn_327 : decode mX10_goesOn.2.1 327 = .ok (.aload_n 0, 1) := by decide +kernel
theorem dX10_goesOn_328 : decode mX10_goesOn.2.1 328 = .ok (.getfield 36, 3) := by decide +kernel
theorem dX10_goesOn_331 : decode mX10_goesOn.2.1 331 = .ok (.ifCond .le 5, 3) := by decide +kernel
theorem dX10_goesOn_334 : decode mX10_goesOn.2.1 334 = .ok (.iconst 0, 1) := by decide +kernel
theorem dX10_goesOn_335 : decode mX10_goesOn.2.1 335 = .ok (.ireturn, 1) := by decide +kernel
theorem dX10_goesOn_336 : decode mX10_goesOn.2.1 336 = .ok (.aload_n 0, 1) := by decide +kernel
theorem dX10_goesOn_337 : decode mX10_goesOn.2.1 337 = .ok (.ldc2_w 294, 3) := by decide +kernel
theorem dX10_goesOn_340 : decode mX10_goesOn.2.1 340 = .ok (.invokevirtual 328, 3) := by decide +kernel
theorem dX10_goesOn_343 : decode mX10_goesOn.2.1 343 = .ok (.istore 4, 2) := by decide +kernel
theorem dX10_goesOn_345 : decode mX10_goesOn.2.1 345 = .ok (.aload_n 0, 1) := by decide +kernel
theorem dX10_goesOn_346 : decode mX10_goesOn.2.1 346 = .ok (.iload 4, 2) := by decide +kernel
theorem dX10_goesOn_348 : decode mX10_goesOn.2.1 348 = .ok (.ifCond .eq 7, 3) := by decide +kernel
theorem dX10_goesOn_351 : decode mX10_goesOn.2.1 351 = .ok (.iconst 2, 1) := by decide +kernel
theorem dX10_goesOn_352 : decode mX10_goesOn.2.1 352 = .ok (.goto 4, 3) := by decide +kernel
theorem dX10_goesOn_355 : decode mX10_goesOn.2.1 355 = .ok (.iconst 1, 1) := by decide +kernel
theorem dX10_goesOn_356 : decode mX10_goesOn.2.1 356 = .ok (.invokevirtual 338, 3) := by decide +kernel
theorem dX10_goesOn_359 : decode mX10_goesOn.2.1 359 = .ok (.aload_n 0, 1) := by decide +kernel
theorem dX10_goesOn_360 : decode mX10_goesOn.2.1 360 = .ok (.iload 4, 2) := by decide +kernel
theorem dX10_goesOn_362 : decode mX10_goesOn.2.1 362 = .ok (.ifCond .eq 8, 3) := by decide +kernel
theorem dX10_goesOn_365 : decode mX10_goesOn.2.1 365 = .ok (.bipush 41, 2) := by decide +kernel
theorem dX10_goesOn_367 : decode mX10_goesOn.2.1 367 = .ok (.goto 5, 3) := by decide +kernel
theorem dX10_goesOn_370 : decode mX10_goesOn.2.1 370 = .ok (.bipush 42, 2) := by decide +kernel
theorem dX10_goesOn_372 : decode mX10_goesOn.2.1 372 = .ok (.invokevirtual 332, 3) := by decide +kernel
theorem dX10_goesOn_375 : decode mX10_goesOn.2.1 375 = .ok (.aload_n 0, 1) := by decide +kernel
theorem dX10_goesOn_376 : decode mX10_goesOn.2.1 376 = .ok (.getfield 121, 3) := by decide +kernel
theorem dX10_goesOn_379 : decode mX10_goesOn.2.1 379 = .ok (.iload_n 1, 1) := by decide +kernel
theorem dX10_goesOn_380 : decode mX10_goesOn.2.1 380 = .ok (.iconst 0, 1) := by decide +kernel
theorem dX10_goesOn_381 : decode mX10_goesOn.2.1 381 = .ok (.iastore, 1) := by decide +kernel
theorem dX10_goesOn_382 : decode mX10_goesOn.2.1 382 = .ok (.aload_n 0, 1) := by decide +kernel
theorem dX10_goesOn_383 : decode mX10_goesOn.2.1 383 = .ok (.getfield 124, 3) := by decide +kernel
theorem dX10_goesOn_386 : decode mX10_goesOn.2.1 386 = .ok (.iload_n 1, 1) := by decide +kernel
theorem dX10_goesOn_387 : decode mX10_goesOn.2.1 387 = .ok (.iconst 1, 1) := by decide +kernel
theorem dX10_goesOn_388 : decode mX10_goesOn.2.1 388 = .ok (.bastore, 1) := by decide +kernel
theorem dX10_goesOn_389 : decode mX10_goesOn.2.1 389 = .ok (.aload_n 0, 1) := by decide +kernel
theorem dX10_goesOn_390 : decode mX10_goesOn.2.1 390 = .ok (.invokevirtual 247, 3) := by decide +kernel
theorem dX10_goesOn_393 : decode mX10_goesOn.2.1 393 = .ok (.aload_n 0, 1) := by decide +kernel
theorem dX10_goesOn_394 : decode mX10_goesOn.2.1 394 = .ok (.iconst 0, 1) := by decide +kernel
theorem dX10_goesOn_395 : decode mX10_goesOn.2.1 395 = .ok (.putfield 146, 3) := by decide +kernel
theorem dX10_goesOn_398 : decode mX10_goesOn.2.1 398 = .ok (.iconst 1, 1) := by decide +kernel
theorem dX10_goesOn_399 : decode mX10_goesOn.2.1 399 = .ok (.ireturn, 1) := by decide +kernel
theorem dX10_goesOn_400 : decode mX10_goesOn.2.1 400 = .ok (.iload_n 3, 1) := by decide +kernel
theorem dX10_goesOn_401 : decode mX10_goesOn.2.1 401 = .ok (.ifCond .eq 21, 3) := by decide +kernel
theorem dX10_goesOn_404 : decode mX10_goesOn.2.1 404 = .ok (.aload_n 0, 1) := by decide +kernel
theorem dX10_goesOn_405 : decode mX10_goesOn.2.1 405 = .ok (.getfield 121, 3) := by decide +kernel
theorem dX10_goesOn_408 : decode mX10_goesOn.2.1 408 = .ok (.iload_n 1, 1) := by decide +kernel
theorem dX10_goesOn_409 : decode mX10_goesOn.2.1 409 = .ok (.iaload, 1) := by decide +kernel
theorem dX10_goesOn_410 : decode mX10_goesOn.2.1 410 = .ok (.ifCond .ne 12, 3) := by decide +kernel
theorem dX10_goesOn_413 : decode mX10_goesOn.2.1 413 = .ok (.aload_n 0, 1) := by decide +kernel
theorem dX10_goesOn_414 : decode mX10_goesOn.2.1 414 = .ok (.iconst 1, 1) := by decide +kernel
theorem dX10_goesOn_415 : decode mX10_goesOn.2.1 415 = .ok (.aload_n 0, 1) := by decide +kernel
theorem dX10_goesOn_416 : decode mX10_goesOn.2.1 416 = .ok (.getfield 23, 3) := by decide +kernel
theorem dX10_goesOn_419 : decode mX10_goesOn.2.1 419 = .ok (.invokevirtual 230, 3) := by decide +kernel
theorem dX10_goesOn_422 : decode mX10_goesOn.2.1 422 = .ok (.iload_n 2, 1) := by decide +kernel
theorem dX10_goesOn_423 : decode mX10_goesOn.2.1 423 = .ok (.iconst 2, 1) := by decide +kernel
theorem dX10_goesOn_424 : decode mX10_goesOn.2.1 424 = .ok (.if_icmp .ge 17, 3) := by decide +kernel
theorem dX10_goesOn_427 : decode mX10_goesOn.2.1 427 = .ok (.aload_n 0, 1) := by decide +kernel
theorem dX10_goesOn_428 : decode mX10_goesOn.2.1 428 = .ok (.getfield 36, 3) := by decide +kernel
theorem dX10_goesOn_431 : decode mX10_goesOn.2.1 431 = .ok (.ifCond .ne 8, 3) := by decide +kernel
theorem dX10_goesOn_434 : decode mX10_goesOn.2.1 434 = .ok (.aload_n 0, 1) := by decide +kernel
theorem dX10_goesOn_435 : decode mX10_goesOn.2.1 435 = .ok (.iconst 1, 1) := by decide +kernel
theorem dX10_goesOn_436 : decode mX10_goesOn.2.1 436 = .ok (.invokevirtual 338, 3) := by decide +kernel
theorem dX10_goesOn_439 : decode mX10_goesOn.2.1 439 = .ok (.iconst 0, 1) := by decide +kernel
theorem dX10_goesOn_440 : decode mX10_goesOn.2.1 440 = .ok (.ireturn, 1) := by decide +kernel
theorem dX10_goesOn_441 : decode mX10_goesOn.2.1 441 = .ok (.iload_n 2, 1) := by decide +kernel
theorem dX10_goesOn_442 : decode mX10_goesOn.2.1 442 = .ok (.iconst 3, 1) := by decide +kernel
theorem dX10_goesOn_443 : decode mX10_goesOn.2.1 443 = .ok (.if_icmp .eq 9, 3) := by decide +kernel
theorem dX10_goesOn_446 : decode mX10_goesOn.2.1 446 = .ok (.iload_n 2, 1) := by decide +kernel
theorem dX10_goesOn_447 : decode mX10_goesOn.2.1 447 = .ok (.bipush 6, 2) := by decide +kernel
theorem dX10_goesOn_449 : decode mX10_goesOn.2.1 449 = .ok (.if_icmp .ne 69, 3) := by decide +kernel
theorem dX10_goesOn_452 : decode mX10_goesOn.2.1 452 = .ok (.aload_n 0, 1) := by decide +kernel
theorem dX10_goesOn_453 : decode mX10_goesOn.2.1 453 = .ok (.bipush 44, 2) := by decide +kernel
theorem dX10_goesOn_455 : decode mX10_goesOn.2.1 455 = .ok (.invokevirtual 244, 3) := by decide +kernel
theorem dX10_goesOn_458 : decode mX10_goesOn.2.1 458 = .ok (.ifCond .ne 12, 3) := by decide +kernel
theorem dX10_goesOn_461 : decode mX10_goesOn.2.1 461 = .ok (.aload_n 0, 1) := by decide +kernel
theorem dX10_goesOn_462 : decode mX10_goesOn.2.1 462 = .ok (.iconst 1, 1) := by decide +kernel
theorem dX10_goesOn_463 : decode mX10_goesOn.2.1 463 = .ok (.aload_n 0, 1) := by decide +kernel
theorem dX10_goesOn_464 : decode mX10_goesOn.2.1 464 = .ok (.getfield 23, 3) := by decide +kernel
theorem dX10_goesOn_467 : decode mX10_goesOn.2.1 467 = .ok (.invokevirtual 230, 3) := by decide +kernel
theorem dX10_goesOn_470 : decode mX10_goesOn.2.1 470 = .ok (.aload_n 0, 1) := by decide +kernel
theorem dX10_goesOn_471 : decode mX10_goesOn.2.1 471 = .ok (.getfield 36, 3) := by decide +kernel
theorem dX10_goesOn_474 : decode mX10_goesOn.2.1 474 = .ok (.ifCond .le 5, 3) := by decide +kernel
theorem dX10_goesOn_477 : decode mX10_goesOn.2.1 477 = .ok (.iconst 0, 1) := by decide +kernel
theorem dX10_goesOn_478 : decode mX10_goesOn.2.1 478 = .ok (.ireturn, 1) := by decide +kernel
theorem dX10_goesOn_479 : decode mX10_goesOn.2.1 479 = .ok (.aload_n 0, 1) := by decide +kernel
theorem dX10_goesOn_480 : decode mX10_goesOn.2.1 480 = .ok (.iconst 1, 1) := by decide +kernel
theorem dX10_goesOn_481 : decode mX10_goesOn.2.1 481 = .ok (.invokevirtual 338, 3) := by decide +kernel
theorem dX10_goesOn_484 : decode mX10_goesOn.2.1 484 = .ok (.aload_n 0, 1) := by decide +kernel
theorem dX10_goesOn_485 : decode mX10_goesOn.2.1 485 = .ok (.getfield 118, 3) := by decide +kernel
theorem dX10_goesOn_488 : decode mX10_goesOn.2.1 488 = .ok (.iload_n 1, 1) := by decide +kernel
theorem dX10_goesOn_489 : decode mX10_goesOn.2.1 489 = .ok (.iload_n 2, 1) := by decide +kernel
theorem dX10_goesOn_490 : decode mX10_goesOn.2.1 490 = .ok (.iconst 3, 1) := by decide +kernel
theorem dX10_goesOn_491 : decode mX10_goesOn.2.1 491 = .ok (.if_icmp .ne 7, 3) := by decide +kernel
theorem dX10_goesOn_494 : decode mX10_goesOn.2.1 494 = .ok (.iconst 4, 1) := by decide +kernel
theorem dX10_goesOn_495 : decode mX10_goesOn.2.1 495 = .ok (.goto 4, 3) := by decide +kernel
theorem dX10_goesOn_498 : decode mX10_goesOn.2.1 498 = .ok (.iconst 3, 1) := by decide +kernel
theorem dX10_goesOn_499 : decode mX10_goesOn.2.1 499 = .ok (.iastore, 1) := by decide +kernel
theorem dX10_goesOn_500 : decode mX10_goesOn.2.1 500 = .ok (.aload_n 0, 1) := by decide +kernel
theorem dX10_goesOn_501 : decode mX10_goesOn.2.1 501 = .ok (.getfield 121, 3) := by decide +kernel
theorem dX10_goesOn_504 : decode mX10_goesOn.2.1 504 = .ok (.iload_n 1, 1) := by decide +kernel
theorem dX10_goesOn_505 : decode mX10_goesOn.2.1 505 = .ok (.iconst 0, 1) := by decide +kernel
theorem dX10_goesOn_506 : decode mX10_goesOn.2.1 506 = .ok (.iastore, 1) := by decide +kernel
theorem dX10_goesOn_507 : decode mX10_goesOn.2.1 507 = .ok (.aload_n 0, 1) := by decide +kernel
theorem dX10_goesOn_508 : decode mX10_goesOn.2.1 508 = .ok (.invokevirtual 247, 3) := by decide +kernel
theorem dX10_goesOn_511 : decode mX10_goesOn.2.1 511 = .ok (.aload_n 0, 1) := by decide +kernel
theorem dX10_goesOn_512 : decode mX10_goesOn.2.1 512 = .ok (.iconst 0, 1) := by decide +kernel
theorem dX10_goesOn_513 : decode mX10_goesOn.2.1 513 = .ok (.putfield 146, 3) := by decide +kernel
theorem dX10_goesOn_516 : decode mX10_goesOn.2.1 516 = .ok (.iconst 1, 1) := by decide +kernel
theorem dX10_goesOn_517 : decode mX10_goesOn.2.1 517 = .ok (.ireturn, 1) := by decide +kernel
theorem dX10_goesOn_518 : decode mX10_goesOn.2.1 518 = .ok (.aload_n 0, 1) := by decide +kernel
theorem dX10_goesOn_519 : decode mX10_goesOn.2.1 519 = .ok (.iload_n 2, 1) := by decide +kernel
theorem dX10_goesOn_520 : decode mX10_goesOn.2.1 520 = .ok (.iconst 5, 1) := by decide +kernel
theorem dX10_goesOn_521 : decode mX10_goesOn.2.1 521 = .ok (.if_icmp .ne 8, 3) := by decide +kernel
theorem dX10_goesOn_524 : decode mX10_goesOn.2.1 524 = .ok (.bipush 93, 2) := by decide +kernel
theorem dX10_goesOn_526 : decode mX10_goesOn.2.1 526 = .ok (.goto 5, 3) := by decide +kernel
theorem dX10_goesOn_529 : decode mX10_goesOn.2.1 529 = .ok (.bipush 41, 2) := by decide +kernel
theorem dX10_goesOn_531 : decode mX10_goesOn.2.1 531 = .ok (.invokevirtual 244, 3) := by decide +kernel
theorem dX10_goesOn_534 : decode mX10_goesOn.2.1 534 = .ok (.ifCond .ne 12, 3) := by decide +kernel
theorem dX10_goesOn_537 : decode mX10_goesOn.2.1 537 = .ok (.aload_n 0, 1) := by decide +kernel
theorem dX10_goesOn_538 : decode mX10_goesOn.2.1 538 = .ok (.iconst 1, 1) := by decide +kernel
theorem dX10_goesOn_539 : decode mX10_goesOn.2.1 539 = .ok (.aload_n 0, 1) := by decide +kernel
theorem dX10_goesOn_540 : decode mX10_goesOn.2.1 540 = .ok (.getfield 23, 3) := by decide +kernel
theorem dX10_goesOn_543 : decode mX10_goesOn.2.1 543 = .ok (.invokevirtual 230, 3) := by decide +kernel
theorem dX10_goesOn_546 : decode mX10_goesOn.2.1 546 = .ok (.aload_n 0, 1) := by decide +kernel
theorem dX10_goesOn_547 : decode mX10_goesOn.2.1 547 = .ok (.getfield 36, 3) := by decide +kernel
theorem dX10_goesOn_550 : decode mX10_goesOn.2.1 550 = .ok (.ifCond .le 5, 3) := by decide +kernel
theorem dX10_goesOn_553 : decode mX10_goesOn.2.1 553 = .ok (.iconst 0, 1) := by decide +kernel
theorem dX10_goesOn_554 : decode mX10_goesOn.2.1 554 = .ok (.ireturn, 1) := by decide +kernel
theorem dX10_goesOn_555 : decode mX10_goesOn.2.1 555 = .ok (.aload_n 0, 1) := by decide +kernel
theorem dX10_goesOn_556 : decode mX10_goesOn.2.1 556 = .ok (.iconst 1, 1) := by decide +kernel
theorem dX10_goesOn_557 : decode mX10_goesOn.2.1 557 = .ok (.invokevirtual 338, 3) := by decide +kernel
theorem dX10_goesOn_560 : decode mX10_goesOn.2.1 560 = .ok (.aload_n 0, 1) := by decide +kernel
theorem dX10_goesOn_561 : decode mX10_goesOn.2.1 561 = .ok (.dup, 1) := by decide +kernel
theorem dX10_goesOn_562 : decode mX10_goesOn.2.1 562 = .ok (.getfield 134, 3) := by decide +kernel
theorem dX10_goesOn_565 : decode mX10_goesOn.2.1 565 = .ok (.iconst 1, 1) := by decide +kernel
theorem dX10_goesOn_566 : decode mX10_goesOn.2.1 566 = .ok (.isub, 1) := by decide +kernel
theorem dX10_goesOn_567 : decode mX10_goesOn.2.1 567 = .ok (.putfield 134, 3) := by decide +kernel
theorem dX10_goesOn_570 : decode mX10_goesOn.2.1 570 = .ok (.aload_n 0, 1) := by decide +kernel
theorem dX10_goesOn_571 : decode mX10_goesOn.2.1 571 = .ok (.dup, 1) := by decide +kernel
theorem dX10_goesOn_572 : decode mX10_goesOn.2.1 572 = .ok (.getfield 137, 3) := by decide +kernel
theorem dX10_goesOn_575 : decode mX10_goesOn.2.1 575 = .ok (.iconst 1, 1) := by decide +kernel
theorem dX10_goesOn_576 : decode mX10_goesOn.2.1 576 = .ok (.isub, 1) := by decide +kernel
theorem dX10_goesOn_577 : decode mX10_goesOn.2.1 577 = .ok (.putfield 137, 3) := by decide +kernel
theorem dX10_goesOn_580 : decode mX10_goesOn.2.1 580 = .ok (.iload_n 2, 1) := by decide +kernel
theorem dX10_goesOn_581 : decode mX10_goesOn.2.1 581 = .ok (.iconst 4, 1) := by decide +kernel
theorem dX10_goesOn_582 : decode mX10_goesOn.2.1 582 = .ok (.if_icmp .ne 14, 3) := by decide +kernel
theorem dX10_goesOn_585 : decode mX10_goesOn.2.1 585 = .ok (.aload_n 0, 1) := by decide +kernel
theorem dX10_goesOn_586 : decode mX10_goesOn.2.1 586 = .ok (.aload_n 0, 1) := by decide +kernel
theorem dX10_goesOn_587 : decode mX10_goesOn.2.1 587 = .ok (.getfield 128, 3) := by decide +kernel
theorem dX10_goesOn_590 : decode mX10_goesOn.2.1 590 = .ok (.iload_n 1, 1) := by decide +kernel
theorem dX10_goesOn_591 : decode mX10_goesOn.2.1 591 = .ok (.iaload, 1) := by decide +kernel
theorem dX10_goesOn_592 : decode mX10_goesOn.2.1 592 = .ok (.iconst 0, 1) := by decide +kernel
theorem dX10_goesOn_593 : decode mX10_goesOn.2.1 593 = .ok (.invokevirtual 319, 3) := by decide +kernel
theorem dX10_goesOn_596 : decode mX10_goesOn.2.1 596 = .ok (.iload_n 2, 1) := by decide +kernel
theorem dX10_goesOn_597 : decode mX10_goesOn.2.1 597 = .ok (.iconst 5, 1) := by decide +kernel
theorem dX10_goesOn_598 : decode mX10_goesOn.2.1 598 = .ok (.if_icmp .ne 15, 3) := by decide +kernel
theorem dX10_goesOn_601 : decode mX10_goesOn.2.1 601 = .ok (.aload_n 0, 1) := by decide +kernel
theorem dX10_goesOn_602 : decode mX10_goesOn.2.1 602 = .ok (.getfield 121, 3) := by decide +kernel
theorem dX10_goesOn_605 : decode mX10_goesOn.2.1 605 = .ok (.aload_n 0, 1) := by decide +kernel
theorem dX10_goesOn_606 : decode mX10_goesOn.2.1 606 = .ok (.getfield 134, 3) := by decide +kernel
theorem dX10_goesOn_609 : decode mX10_goesOn.2.1 609 = .ok (.iconst 1, 1) := by decide +kernel
theorem dX10_goesOn_610 : decode mX10_goesOn.2.1 610 = .ok (.isub, 1) := by decide +kernel
theorem dX10_goesOn_611 : decode mX10_goesOn.2.1 611 = .ok (.iconst 2, 1) := by decide +kernel
theorem dX10_goesOn_612 : decode mX10_goesOn.2.1 612 = .ok (.iastore, 1) := by decide +kernel
theorem dX10_goesOn_613 : decode mX10_goesOn.2.1 613 = .ok (.aload_n 0, 1) := by decide +kernel
theorem dX10_goesOn_614 : decode mX10_goesOn.2.1 614 = .ok (.invokevirtual 247, 3) := by decide +kernel
theorem dX10_goesOn_617 : decode mX10_goesOn.2.1 617 = .ok (.iconst 1, 1) := by decide +kernel
theorem dX10_goesOn_618 : decode mX10_goesOn.2.1 618 = .ok (.ireturn, 1) := by decide +kernel
abbrev mX10_reads : aM := (yX10_reads, cX10_reads, 3, none)
theorem dX10_reads_0 : decode mX10_reads.2.1 0 = .ok (.aload_n 0, 1) := by decide +kernel
theorem dX10_reads_1 : decode mX10_reads.2.1 1 = .ok (.getfield 36, 3) := by decide +kernel
theorem dX10_reads_4 : decode mX10_reads.2.1 4 = .ok (.ifCond .le 4, 3) := by decide +kernel
theorem dX10_reads_7 : decode mX10_reads.2.1 7 = .ok (.return_, 1) := by decide +kernel
theorem dX10_reads_8 : decode mX10_reads.2.1 8 = .ok (.aload_n 0, 1) := by decide +kernel
theorem dX10_reads_9 : decode mX10_reads.2.1 9 = .ok (.iconst 0, 1) := by decide +kernel
theorem dX10_reads_10 : decode mX10_reads.2.1 10 = .ok (.putfield 134, 3) := by decide +kernel
theorem dX10_reads_13 : decode mX10_reads.2.1 13 = .ok (.aload_n 0, 1) := by decide +kernel
theorem dX10_reads_14 : decode mX10_reads.2.1 14 = .ok (.iconst 0, 1) := by decide +kernel
theorem dX10_reads_15 : decode mX10_reads.2.1 15 = .ok (.putfield 137, 3) := by decide +kernel
theorem dX10_reads_18 : decode mX10_reads.2.1 18 = .ok (.aload_n 0, 1) := by decide +kernel
theorem dX10_reads_19 : decode mX10_reads.2.1 19 = .ok (.iconst 0, 1) := by decide +kernel
theorem dX10_reads_20 : decode mX10_reads.2.1 20 = .ok (.putfield 143, 3) := by decide +kernel
theorem dX10_reads_23 : decode mX10_reads.2.1 23 = .ok (.aload_n 0, 1) := by decide +kernel
theorem dX10_reads_24 : decode mX10_reads.2.1 24 = .ok (.iconst 0, 1) := by decide +kernel
theorem dX10_reads_25 : decode mX10_reads.2.1 25 = .ok (.putfield 146, 3) := by decide +kernel
theorem dX10_reads_28 : decode mX10_reads.2.1 28 = .ok (.aload_n 0, 1) := by decide +kernel
theorem dX10_reads_29 : decode mX10_reads.2.1 29 = .ok (.iload_n 1, 1) := by decide +kernel
theorem dX10_reads_30 : decode mX10_reads.2.1 30 = .ok (.ifCond .eq 7, 3) := by decide +kernel
theorem dX10_reads_33 : decode mX10_reads.2.1 33 = .ok (.iconst 1, 1) := by decide +kernel
theorem dX10_reads_34 : decode mX10_reads.2.1 34 = .ok (.goto 4, 3) := by decide +kernel
theorem dX10_reads_37 : decode mX10_reads.2.1 37 = .ok (.iconst 0, 1) := by decide +kernel
theorem dX10_reads_38 : decode mX10_reads.2.1 38 = .ok (.invokevirtual 322, 3) := by decide +kernel
theorem dX10_reads_41 : decode mX10_reads.2.1 41 = .ok (.iconst 1, 1) := by decide +kernel
theorem dX10_reads_42 : decode mX10_reads.2.1 42 = .ok (.istore_n 2, 1) := by decide +kernel
theorem dX10_reads_43 : decode mX10_reads.2.1 43 = .ok (.iload_n 2, 1) := by decide +kernel
theorem dX10_reads_44 : decode mX10_reads.2.1 44 = .ok (.ifCond .eq 46, 3) := by decide +kernel
theorem dX10_reads_47 : decode mX10_reads.2.1 47 = .ok (.aload_n 0, 1) := by decide +kernel
theorem dX10_reads_48 : decode mX10_reads.2.1 48 = .ok (.getfield 146, 3) := by decide +kernel
theorem dX10_reads_51 : decode mX10_reads.2.1 51 = .ok (.ifCond .ne 14, 3) := by decide +kernel
theorem dX10_reads_54 : decode mX10_reads.2.1 54 = .ok (.aload_n 0, 1) := by decide +kernel
theorem dX10_reads_55 : decode mX10_reads.2.1 55 = .ok (.aload_n 0, 1) := by decide +kernel
theorem dX10_reads_56 : decode mX10_reads.2.1 56 = .ok (.invokevirtual 341, 3) := by decide +kernel
theorem dX10_reads_59 : decode mX10_reads.2.1 59 = .ok (.putfield 146, 3) := by decide +kernel
theorem dX10_reads_62 : decode mX10_reads.2.1 62 = .ok (.goto 8, 3) := by decide +kernel
theorem dX10_reads_65 : decode mX10_reads.2.1 65 = .ok (.aload_n 0, 1) := by decide +kernel
theorem dX10_reads_66 : decode mX10_reads.2.1 66 = .ok (.invokevirtual 344, 3) := by decide +kernel
theorem dX10_reads_69 : decode mX10_reads.2.1 69 = .ok (.istore_n 2, 1) := by decide +kernel
theorem dX10_reads_70 : decode mX10_reads.2.1 70 = .ok (.iload_n 2, 1) := by decide +kernel
theorem dX10_reads_71 : decode mX10_reads.2.1 71 = .ok (.ifCond .eq 14, 3) := by decide +kernel
theorem dX10_reads_74 : decode mX10_reads.2.1 74 = .ok (.aload_n 0, 1) := by decide +kernel
theorem dX10_reads_75 : decode mX10_reads.2.1 75 = .ok (.getfield 36, 3) := by decide +kernel
theorem dX10_reads_78 : decode mX10_reads.2.1 78 = .ok (.ifCond .ne 7, 3) := by decide +kernel
theorem dX10_reads_81 : decode mX10_reads.2.1 81 = .ok (.iconst 1, 1) := by decide +kernel
theorem dX10_reads_82 : decode mX10_reads.2.1 82 = .ok (.goto 4, 3) := by decide +kernel
theorem dX10_reads_85 : decode mX10_reads.2.1 85 = .ok (.iconst 0, 1) := by decide +kernel
theorem dX10_reads_86 : decode mX10_reads.2.1 86 = .ok (.istore_n 2, 1) := by decide +kernel
theorem dX10_reads_87 : decode mX10_reads.2.1 87 = .ok (.goto (-44), 3) := by decide +kernel
theorem dX10_reads_90 : decode mX10_reads.2.1 90 = .ok (.return_, 1) := by decide +kernel
abbrev mX10_counts : aM := (yX10_counts, cX10_counts, 2, (some .boolean))
theorem dX10_counts_0 : decode mX10_counts.2.1 0 = .ok (.aload_n 0, 1) := by decide +kernel
theorem dX10_counts_1 : decode mX10_counts.2.1 1 = .ok (.getfield 36, 3) := by decide +kernel
theorem dX10_counts_4 : decode mX10_counts.2.1 4 = .ok (.ifCond .ne 17, 3) := by decide +kernel
theorem dX10_counts_7 : decode mX10_counts.2.1 7 = .ok (.iload_n 1, 1) := by decide +kernel
theorem dX10_counts_8 : decode mX10_counts.2.1 8 = .ok (.ifCond .eq 13, 3) := by decide +kernel
theorem dX10_counts_11 : decode mX10_counts.2.1 11 = .ok (.aload_n 0, 1) := by decide +kernel
theorem dX10_counts_12 : decode mX10_counts.2.1 12 = .ok (.bipush 6, 2) := by decide +kernel
theorem dX10_counts_14 : decode mX10_counts.2.1 14 = .ok (.aload_n 0, 1) := by decide +kernel
theorem dX10_counts_15 : decode mX10_counts.2.1 15 = .ok (.getfield 23, 3) := by decide +kernel
theorem dX10_counts_18 : decode mX10_counts.2.1 18 = .ok (.invokevirtual 230, 3) := by decide +kernel
theorem dX10_counts_21 : decode mX10_counts.2.1 21 = .ok (.aload_n 0, 1) := by decide +kernel
theorem dX10_counts_22 : decode mX10_counts.2.1 22 = .ok (.getfield 36, 3) := by decide +kernel
theorem dX10_counts_25 : decode mX10_counts.2.1 25 = .ok (.ifCond .ne 7, 3) := by decide +kernel
theorem dX10_counts_28 : decode mX10_counts.2.1 28 = .ok (.aload_n 0, 1) := by decide +kernel
theorem dX10_counts_29 : decode mX10_counts.2.1 29 = .ok (.invokevirtual 247, 3) := by decide +kernel
theorem dX10_counts_32 : decode mX10_counts.2.1 32 = .ok (.aload_n 0, 1) := by decide +kernel
theorem dX10_counts_33 : decode mX10_counts.2.1 33 = .ok (.getfield 36, 3) := by decide +kernel
theorem dX10_counts_36 : decode mX10_counts.2.1 36 = .ok (.ifCond .ne 7, 3) := by decide +kernel
theorem dX10_counts_39 : decode mX10_counts.2.1 39 = .ok (.iconst 1, 1) := by decide +kernel
theorem dX10_counts_40 : decode mX10_counts.2.1 40 = .ok (.goto 4, 3) := by decide +kernel
theorem dX10_counts_43 : decode mX10_counts.2.1 43 = .ok (.iconst 0, 1) := by decide +kernel
theorem dX10_counts_44 : decode mX10_counts.2.1 44 = .ok (.ireturn, 1) := by decide +kernel
abbrev mX10_must_ : aM := (yX10_must_, cX10_must_, 3, none)
theorem dX10_must__0 : decode mX10_must_.2.1 0 = .ok (.aload_n 0, 1) := by decide +kernel
theorem dX10_must__1 : decode mX10_must_.2.1 1 = .ok (.invokevirtual 241, 3) := by decide +kernel
theorem dX10_must__4 : decode mX10_must_.2.1 4 = .ok (.aload_n 0, 1) := by decide +kernel
theorem dX10_must__5 : decode mX10_must_.2.1 5 = .ok (.getfield 36, 3) := by decide +kernel
theorem dX10_must__8 : decode mX10_must_.2.1 8 = .ok (.ifCond .le 4, 3) := by decide +kernel
theorem dX10_must__11 : decode mX10_must_.2.1 11 = .ok (.return_, 1) := by decide +kernel
theorem dX10_must__12 : decode mX10_must_.2.1 12 = .ok (.aload_n 0, 1) := by decide +kernel
theorem dX10_must__13 : decode mX10_must_.2.1 13 = .ok (.lload_n 1, 1) := by decide +kernel
theorem dX10_must__14 : decode mX10_must_.2.1 14 = .ok (.invokevirtual 328, 3) := by decide +kernel
theorem dX10_must__17 : decode mX10_must_.2.1 17 = .ok (.ifCond .ne 12, 3) := by decide +kernel
theorem dX10_must__20 : decode mX10_must_.2.1 20 = .ok (.aload_n 0, 1) := by decide +kernel
theorem dX10_must__21 : decode mX10_must_.2.1 21 = .ok (.iconst 1, 1) := by decide +kernel
theorem dX10_must__22 : decode mX10_must_.2.1 22 = .ok (.aload_n 0, 1) := by decide +kernel
theorem dX10_must__23 : decode mX10_must_.2.1 23 = .ok (.getfield 23, 3) := by decide +kernel
theorem dX10_must__26 : decode mX10_must_.2.1 26 = .ok (.invokevirtual 230, 3) := by decide +kernel
theorem dX10_must__29 : decode mX10_must_.2.1 29 = .ok (.aload_n 0, 1) := by decide +kernel
theorem dX10_must__30 : decode mX10_must_.2.1 30 = .ok (.getfield 36, 3) := by decide +kernel
theorem dX10_must__33 : decode mX10_must_.2.1 33 = .ok (.ifCond .ne 7, 3) := by decide +kernel
theorem dX10_must__36 : decode mX10_must_.2.1 36 = .ok (.aload_n 0, 1) := by decide +kernel
theorem dX10_must__37 : decode mX10_must_.2.1 37 = .ok (.invokevirtual 247, 3) := by decide +kernel
theorem dX10_must__40 : decode mX10_must_.2.1 40 = .ok (.return_, 1) := by decide +kernel
abbrev mX10_has2 : aM := (yX10_has2, cX10_has2, 2, (some .boolean))
theorem dX10_has2_0 : decode mX10_has2.2.1 0 = .ok (.iload_n 0, 1) := by decide +kernel
theorem dX10_has2_1 : decode mX10_has2.2.1 1 = .ok (.iload_n 1, 1) := by decide +kernel
theorem dX10_has2_2 : decode mX10_has2.2.1 2 = .ok (.ishr, 1) := by decide +kernel
theorem dX10_has2_3 : decode mX10_has2.2.1 3 = .ok (.iconst 1, 1) := by decide +kernel
theorem dX10_has2_4 : decode mX10_has2.2.1 4 = .ok (.iand, 1) := by decide +kernel
theorem dX10_has2_5 : decode mX10_has2.2.1 5 = .ok (.iconst 1, 1) := by decide +kernel
theorem dX10_has2_6 : decode mX10_has2.2.1 6 = .ok (.if_icmp .ne 7, 3) := by decide +kernel
theorem dX10_has2_9 : decode mX10_has2.2.1 9 = .ok (.iconst 1, 1) := by decide +kernel
theorem dX10_has2_10 : decode mX10_has2.2.1 10 = .ok (.goto 4, 3) := by decide +kernel
theorem dX10_has2_13 : decode mX10_has2.2.1 13 = .ok (.iconst 0, 1) := by decide +kernel
theorem dX10_has2_14 : decode mX10_has2.2.1 14 = .ok (.ireturn, 1) := by decide +kernel
abbrev mX10_fresh : aM := (yX10_fresh, cX10_fresh, 3, (some .long))
theorem dX10_fresh_0 : decode mX10_fresh.2.1 0 = .ok (.aload_n 0, 1) := by decide +kernel
theorem dX10_fresh_1 : decode mX10_fresh.2.1 1 = .ok (.invokevirtual 241, 3) := by decide +kernel
theorem dX10_fresh_4 : decode mX10_fresh.2.1 4 = .ok (.aload_n 0, 1) := by decide +kernel
theorem dX10_fresh_5 : decode mX10_fresh.2.1 5 = .ok (.getfield 36, 3) := by decide +kernel
theorem dX10_fresh_8 : decode mX10_fresh.2.1 8 = .ok (.ifCond .le 5, 3) := by decide +kernel
theorem dX10_fresh_11 : decode mX10_fresh.2.1 11 = .ok (.lconst 0, 1) := by decide +kernel
theorem dX10_fresh_12 : decode mX10_fresh.2.1 12 = .ok (.lreturn, 1) := by decide +kernel
theorem dX10_fresh_13 : decode mX10_fresh.2.1 13 = .ok (.aload_n 0, 1) := by decide +kernel
theorem dX10_fresh_14 : decode mX10_fresh.2.1 14 = .ok (.getfield 20, 3) := by decide +kernel
theorem dX10_fresh_17 : decode mX10_fresh.2.1 17 = .ok (.iconst 1, 1) := by decide +kernel
theorem dX10_fresh_18 : decode mX10_fresh.2.1 18 = .ok (.if_icmp .ne 14, 3) := by decide +kernel
theorem dX10_fresh_21 : decode mX10_fresh.2.1 21 = .ok (.aload_n 0, 1) := by decide +kernel
theorem dX10_fresh_22 : decode mX10_fresh.2.1 22 = .ok (.aload_n 0, 1) := by decide +kernel
theorem dX10_fresh_23 : decode mX10_fresh.2.1 23 = .ok (.getfield 32, 3) := by decide +kernel
theorem dX10_fresh_26 : decode mX10_fresh.2.1 26 = .ok (.invokevirtual 347, 3) := by decide +kernel
theorem dX10_fresh_29 : decode mX10_fresh.2.1 29 = .ok (.ifCond .eq 12, 3) := by decide +kernel
theorem dX10_fresh_32 : decode mX10_fresh.2.1 32 = .ok (.aload_n 0, 1) := by decide +kernel
theorem dX10_fresh_33 : decode mX10_fresh.2.1 33 = .ok (.iconst 1, 1) := by decide +kernel
theorem dX10_fresh_34 : decode mX10_fresh.2.1 34 = .ok (.aload_n 0, 1) := by decide +kernel
theorem dX10_fresh_35 : decode mX10_fresh.2.1 35 = .ok (.getfield 23, 3) := by decide +kernel
theorem dX10_fresh_38 : decode mX10_fresh.2.1 38 = .ok (.invokevirtual 230, 3) := by decide +kernel
theorem dX10_fresh_41 : decode mX10_fresh.2.1 41 = .ok (.iconst 0, 1) := by decide +kernel
theorem dX10_fresh_42 : decode mX10_fresh.2.1 42 = .ok (.istore_n 1, 1) := by decide +kernel
theorem dX10_fresh_43 : decode mX10_fresh.2.1 43 = .ok (.iload_n 1, 1) := by decide +kernel
theorem dX10_fresh_44 : decode mX10_fresh.2.1 44 = .ok (.iconst 2, 1) := by decide +kernel
theorem dX10_fresh_45 : decode mX10_fresh.2.1 45 = .ok (.if_icmp .gt 38, 3) := by decide +kernel
theorem dX10_fresh_48 : decode mX10_fresh.2.1 48 = .ok (.aload_n 0, 1) := by decide +kernel
theorem dX10_fresh_49 : decode mX10_fresh.2.1 49 = .ok (.getfield 36, 3) := by decide +kernel
theorem dX10_fresh_52 : decode mX10_fresh.2.1 52 = .ok (.ifCond .ne 31, 3) := by decide +kernel
theorem dX10_fresh_55 : decode mX10_fresh.2.1 55 = .ok (.aload_n 0, 1) := by decide +kernel
theorem dX10_fresh_56 : decode mX10_fresh.2.1 56 = .ok (.iload_n 1, 1) := by decide +kernel
theorem dX10_fresh_57 : decode mX10_fresh.2.1 57 = .ok (.aload_n 0, 1) := by decide +kernel
theorem dX10_fresh_58 : decode mX10_fresh.2.1 58 = .ok (.getfield 32, 3) := by decide +kernel
theorem dX10_fresh_61 : decode mX10_fresh.2.1 61 = .ok (.invokevirtual 350, 3) := by decide +kernel
theorem dX10_fresh_64 : decode mX10_fresh.2.1 64 = .ok (.iconst (-1), 1) := by decide +kernel
theorem dX10_fresh_65 : decode mX10_fresh.2.1 65 = .ok (.if_icmp .eq 12, 3) := by decide +kernel
theorem dX10_fresh_68 : decode mX10_fresh.2.1 68 = .ok (.aload_n 0, 1) := by decide +kernel
theorem dX10_fresh_69 : decode mX10_fresh.2.1 69 = .ok (.iconst 2, 1) := by decide +kernel
theorem dX10_fresh_70 : decode mX10_fresh.2.1 70 = .ok (.aload_n 0, 1) := by decide +kernel
theorem dX10_fresh_71 : decode mX10_fresh.2.1 71 = .ok (.getfield 23, 3) := by decide +kernel
theorem dX10_fresh_74 : decode mX10_fresh.2.1 74 = .ok (.invokevirtual 230, 3) := by decide +kernel
theorem dX10_fresh_77 : decode mX10_fresh.2.1 77 = .ok (.iinc 1 1, 3) := by decide +kernel
theorem dX10_fresh_80 : decode mX10_fresh.2.1 80 = .ok (.goto (-37), 3) := by decide +kernel
theorem dX10_fresh_83 : decode mX10_fresh.2.1 83 = .ok (.aload_n 0, 1) := by decide +kernel
theorem dX10_fresh_84 : decode mX10_fresh.2.1 84 = .ok (.getfield 32, 3) := by decide +kernel
theorem dX10_fresh_87 : decode mX10_fresh.2.1 87 = .ok (.lstore_n 1, 1) := by decide +kernel
theorem dX10_fresh_88 : decode mX10_fresh.2.1 88 = .ok (.aload_n 0, 1) := by decide +kernel
theorem dX10_fresh_89 : decode mX10_fresh.2.1 89 = .ok (.getfield 36, 3) := by decide +kernel
theorem dX10_fresh_92 : decode mX10_fresh.2.1 92 = .ok (.ifCond .ne 7, 3) := by decide +kernel
theorem dX10_fresh_95 : decode mX10_fresh.2.1 95 = .ok (.aload_n 0, 1) := by decide +kernel
theorem dX10_fresh_96 : decode mX10_fresh.2.1 96 = .ok (.invokevirtual 247, 3) := by decide +kernel
theorem dX10_fresh_99 : decode mX10_fresh.2.1 99 = .ok (.lload_n 1, 1) := by decide +kernel
theorem dX10_fresh_100 : decode mX10_fresh.2.1 100 = .ok (.lreturn, 1) := by decide +kernel
abbrev mX10_boarding : aM := (yX10_boarding, cX10_boarding, 2, none)
theorem dX10_boarding_0 : decode mX10_boarding.2.1 0 = .ok (.aload_n 0, 1) := by decide +kernel
theorem dX10_boarding_1 : decode mX10_boarding.2.1 1 = .ok (.aload_n 0, 1) := by decide +kernel
theorem dX10_boarding_2 : decode mX10_boarding.2.1 2 = .ok (.getfield 54, 3) := by decide +kernel
theorem dX10_boarding_5 : decode mX10_boarding.2.1 5 = .ok (.aload_n 0, 1) := by decide +kernel
theorem dX10_boarding_6 : decode mX10_boarding.2.1 6 = .ok (.getfield 112, 3) := by decide +kernel
theorem dX10_boarding_9 : decode mX10_boarding.2.1 9 = .ok (.iaload, 1) := by decide +kernel
theorem dX10_boarding_10 : decode mX10_boarding.2.1 10 = .ok (.iconst 5, 1) := by decide +kernel
theorem dX10_boarding_11 : decode mX10_boarding.2.1 11 = .ok (.if_icmp .ne 7, 3) := by decide +kernel
theorem dX10_boarding_14 : decode mX10_boarding.2.1 14 = .ok (.iconst 1, 1) := by decide +kernel
theorem dX10_boarding_15 : decode mX10_boarding.2.1 15 = .ok (.goto 4, 3) := by decide +kernel
theorem dX10_boarding_18 : decode mX10_boarding.2.1 18 = .ok (.iconst 0, 1) := by decide +kernel
theorem dX10_boarding_19 : decode mX10_boarding.2.1 19 = .ok (.invokevirtual 354, 3) := by decide +kernel
theorem dX10_boarding_22 : decode mX10_boarding.2.1 22 = .ok (.ifCond .ne 4, 3) := by decide +kernel
theorem dX10_boarding_25 : decode mX10_boarding.2.1 25 = .ok (.return_, 1) := by decide +kernel
theorem dX10_boarding_26 : decode mX10_boarding.2.1 26 = .ok (.iconst 5, 1) := by decide +kernel
theorem dX10_boarding_27 : decode mX10_boarding.2.1 27 = .ok (.aload_n 0, 1) := by decide +kernel
theorem dX10_boarding_28 : decode mX10_boarding.2.1 28 = .ok (.getfield 112, 3) := by decide +kernel
theorem dX10_boarding_31 : decode mX10_boarding.2.1 31 = .ok (.imul, 1) := by decide +kernel
theorem dX10_boarding_32 : decode mX10_boarding.2.1 32 = .ok (.aload_n 0, 1) := by decide +kernel
theorem dX10_boarding_33 : decode mX10_boarding.2.1 33 = .ok (.getfield 54, 3) := by decide +kernel
theorem dX10_boarding_36 : decode mX10_boarding.2.1 36 = .ok (.aload_n 0, 1) := by decide +kernel
theorem dX10_boarding_37 : decode mX10_boarding.2.1 37 = .ok (.getfield 112, 3) := by decide +kernel
theorem dX10_boarding_40 : decode mX10_boarding.2.1 40 = .ok (.iaload, 1) := by decide +kernel
theorem dX10_boarding_41 : decode mX10_boarding.2.1 41 = .ok (.iadd, 1) := by decide +kernel
theorem dX10_boarding_42 : decode mX10_boarding.2.1 42 = .ok (.istore_n 1, 1) := by decide +kernel
theorem dX10_boarding_43 : decode mX10_boarding.2.1 43 = .ok (.aload_n 0, 1) := by decide +kernel
theorem dX10_boarding_44 : decode mX10_boarding.2.1 44 = .ok (.getfield 99, 3) := by decide +kernel
theorem dX10_boarding_47 : decode mX10_boarding.2.1 47 = .ok (.iload_n 1, 1) := by decide +kernel
theorem dX10_boarding_48 : decode mX10_boarding.2.1 48 = .ok (.aload_n 0, 1) := by decide +kernel
theorem dX10_boarding_49 : decode mX10_boarding.2.1 49 = .ok (.invokevirtual 358, 3) := by decide +kernel
theorem dX10_boarding_52 : decode mX10_boarding.2.1 52 = .ok (.lastore, 1) := by decide +kernel
theorem dX10_boarding_53 : decode mX10_boarding.2.1 53 = .ok (.aload_n 0, 1) := by decide +kernel
theorem dX10_boarding_54 : decode mX10_boarding.2.1 54 = .ok (.ldc2_w 252, 3) := by decide +kernel
theorem dX10_boarding_57 : decode mX10_boarding.2.1 57 = .ok (.invokevirtual 362, 3) := by decide +kernel
theorem dX10_boarding_60 : decode mX10_boarding.2.1 60 = .ok (.aload_n 0, 1) := by decide +kernel
theorem dX10_boarding_61 : decode mX10_boarding.2.1 61 = .ok (.getfield 57, 3) := by decide +kernel
theorem dX10_boarding_64 : decode mX10_boarding.2.1 64 = .ok (.iload_n 1, 1) := by decide +kernel
theorem dX10_boarding_65 : decode mX10_boarding.2.1 65 = .ok (.aload_n 0, 1) := by decide +kernel
theorem dX10_boarding_66 : decode mX10_boarding.2.1 66 = .ok (.iconst 1, 1) := by decide +kernel
theorem dX10_boarding_67 : decode mX10_boarding.2.1 67 = .ok (.bipush 9, 2) := by decide +kernel
theorem dX10_boarding_69 : decode mX10_boarding.2.1 69 = .ok (.invokevirtual 366, 3) := by decide +kernel
theorem dX10_boarding_72 : decode mX10_boarding.2.1 72 = .ok (.iastore, 1) := by decide +kernel
theorem dX10_boarding_73 : decode mX10_boarding.2.1 73 = .ok (.aload_n 0, 1) := by decide +kernel
theorem dX10_boarding_74 : decode mX10_boarding.2.1 74 = .ok (.ldc2_w 254, 3) := by decide +kernel
theorem dX10_boarding_77 : decode mX10_boarding.2.1 77 = .ok (.invokevirtual 362, 3) := by decide +kernel
theorem dX10_boarding_80 : decode mX10_boarding.2.1 80 = .ok (.aload_n 0, 1) := by decide +kernel
theorem dX10_boarding_81 : decode mX10_boarding.2.1 81 = .ok (.getfield 60, 3) := by decide +kernel
theorem dX10_boarding_84 : decode mX10_boarding.2.1 84 = .ok (.iload_n 1, 1) := by decide +kernel
theorem dX10_boarding_85 : decode mX10_boarding.2.1 85 = .ok (.aload_n 0, 1) := by decide +kernel
theorem dX10_boarding_86 : decode mX10_boarding.2.1 86 = .ok (.iconst 1, 1) := by decide +kernel
theorem dX10_boarding_87 : decode mX10_boarding.2.1 87 = .ok (.bipush 99, 2) := by decide +kernel
theorem dX10_boarding_89 : decode mX10_boarding.2.1 89 = .ok (.invokevirtual 366, 3) := by decide +kernel
theorem dX10_boarding_92 : decode mX10_boarding.2.1 92 = .ok (.iastore, 1) := by decide +kernel
theorem dX10_boarding_93 : decode mX10_boarding.2.1 93 = .ok (.aload_n 0, 1) := by decide +kernel
theorem dX10_boarding_94 : decode mX10_boarding.2.1 94 = .ok (.getfield 36, 3) := by decide +kernel
theorem dX10_boarding_97 : decode mX10_boarding.2.1 97 = .ok (.ifCond .ne 16, 3) := by decide +kernel
theorem dX10_boarding_100 : decode mX10_boarding.2.1 100 = .ok (.aload_n 0, 1) := by decide +kernel
theorem dX10_boarding_101 : decode mX10_boarding.2.1 101 = .ok (.getfield 54, 3) := by decide +kernel
theorem dX10_boarding_104 : decode mX10_boarding.2.1 104 = .ok (.aload_n 0, 1) := by decide +kernel
theorem dX10_boarding_105 : decode mX10_boarding.2.1 105 = .ok (.getfield 112, 3) := by decide +kernel
theorem dX10_boarding_108 : decode mX10_boarding.2.1 108 = .ok (.dup2, 1) := by decide +kernel
theorem dX10_boarding_109 : decode mX10_boarding.2.1 109 = .ok (.iaload, 1) := by decide +kernel
theorem dX10_boarding_110 : decode mX10_boarding.2.1 110 = .ok (.iconst 1, 1) := by decide +kernel
theorem dX10_boarding_111 : decode mX10_boarding.2.1 111 = .ok (.iadd, 1) := by decide +kernel
theorem dX10_boarding_112 : decode mX10_boarding.2.1 112 = .ok (.iastore, 1) := by decide +kernel
theorem dX10_boarding_113 : decode mX10_boarding.2.1 113 = .ok (.return_, 1) := by decide +kernel
abbrev mX10_staining : aM := (yX10_staining, cX10_staining, 2, none)
theorem dX10_staining_0 : decode mX10_staining.2.1 0 = .ok (.aload_n 0, 1) := by decide +kernel
theorem dX10_staining_1 : decode mX10_staining.2.1 1 = .ok (.aload_n 0, 1) := by decide +kernel
theorem dX10_staining_2 : decode mX10_staining.2.1 2 = .ok (.getfield 63, 3) := by decide +kernel
theorem dX10_staining_5 : decode mX10_staining.2.1 5 = .ok (.aload_n 0, 1) := by decide +kernel
theorem dX10_staining_6 : decode mX10_staining.2.1 6 = .ok (.getfield 112, 3) := by decide +kernel
theorem dX10_staining_9 : decode mX10_staining.2.1 9 = .ok (.iaload, 1) := by decide +kernel
theorem dX10_staining_10 : decode mX10_staining.2.1 10 = .ok (.bipush 6, 2) := by decide +kernel
theorem dX10_staining_12 : decode mX10_staining.2.1 12 = .ok (.if_icmp .ne 7, 3) := by decide +kernel
theorem dX10_staining_15 : decode mX10_staining.2.1 15 = .ok (.iconst 1, 1) := by decide +kernel
theorem dX10_staining_16 : decode mX10_staining.2.1 16 = .ok (.goto 4, 3) := by decide +kernel
theorem dX10_staining_19 : decode mX10_staining.2.1 19 = .ok (.iconst 0, 1) := by decide +kernel
theorem dX10_staining_20 : decode mX10_staining.2.1 20 = .ok (.invokevirtual 354, 3) := by decide +kernel
theorem dX10_staining_23 : decode mX10_staining.2.1 23 = .ok (.ifCond .ne 4, 3) := by decide +kernel
theorem dX10_staining_26 : decode mX10_staining.2.1 26 = .ok (.return_, 1) := by decide +kernel
theorem dX10_staining_27 : decode mX10_staining.2.1 27 = .ok (.bipush 6, 2) := by decide +kernel
theorem dX10_staining_29 : decode mX10_staining.2.1 29 = .ok (.aload_n 0, 1) := by decide +kernel
theorem dX10_staining_30 : decode mX10_staining.2.1 30 = .ok (.getfield 112, 3) := by decide +kernel
theorem dX10_staining_33 : decode mX10_staining.2.1 33 = .ok (.imul, 1) := by decide +kernel
theorem dX10_staining_34 : decode mX10_staining.2.1 34 = .ok (.aload_n 0, 1) := by decide +kernel
theorem dX10_staining_35 : decode mX10_staining.2.1 35 = .ok (.getfield 63, 3) := by decide +kernel
theorem dX10_staining_38 : decode mX10_staining.2.1 38 = .ok (.aload_n 0, 1) := by decide +kernel
theorem dX10_staining_39 : decode mX10_staining.2.1 39 = .ok (.getfield 112, 3) := by decide +kernel
theorem dX10_staining_42 : decode mX10_staining.2.1 42 = .ok (.iaload, 1) := by decide +kernel
theorem dX10_staining_43 : decode mX10_staining.2.1 43 = .ok (.iadd, 1) := by decide +kernel
theorem dX10_staining_44 : decode mX10_staining.2.1 44 = .ok (.istore_n 1, 1) := by decide +kernel
theorem dX10_staining_45 : decode mX10_staining.2.1 45 = .ok (.aload_n 0, 1) := by decide +kernel
theorem dX10_staining_46 : decode mX10_staining.2.1 46 = .ok (.getfield 103, 3) := by decide +kernel
theorem dX10_staining_49 : decode mX10_staining.2.1 49 = .ok (.iload_n 1, 1) := by decide +kernel
theorem dX10_staining_50 : decode mX10_staining.2.1 50 = .ok (.aload_n 0, 1) := by decide +kernel
theorem dX10_staining_51 : decode mX10_staining.2.1 51 = .ok (.invokevirtual 358, 3) := by decide +kernel
theorem dX10_staining_54 : decode mX10_staining.2.1 54 = .ok (.lastore, 1) := by decide +kernel
theorem dX10_staining_55 : decode mX10_staining.2.1 55 = .ok (.aload_n 0, 1) := by decide +kernel
theorem dX10_staining_56 : decode mX10_staining.2.1 56 = .ok (.ldc2_w 258, 3) := by decide +kernel
theorem dX10_staining_59 : decode mX10_staining.2.1 59 = .ok (.invokevirtual 362, 3) := by decide +kernel
theorem dX10_staining_62 : decode mX10_staining.2.1 62 = .ok (.aload_n 0, 1) := by decide +kernel
theorem dX10_staining_63 : decode mX10_staining.2.1 63 = .ok (.getfield 66, 3) := by decide +kernel
theorem dX10_staining_66 : decode mX10_staining.2.1 66 = .ok (.iload_n 1, 1) := by decide +kernel
theorem dX10_staining_67 : decode mX10_staining.2.1 67 = .ok (.aload_n 0, 1) := by decide +kernel
theorem dX10_staining_68 : decode mX10_staining.2.1 68 = .ok (.iconst 0, 1) := by decide +kernel
theorem dX10_staining_69 : decode mX10_staining.2.1 69 = .ok (.bipush 99, 2) := by decide +kernel
theorem dX10_staining_71 : decode mX10_staining.2.1 71 = .ok (.invokevirtual 366, 3) := by decide +kernel
theorem dX10_staining_74 : decode mX10_staining.2.1 74 = .ok (.iastore, 1) := by decide +kernel
theorem dX10_staining_75 : decode mX10_staining.2.1 75 = .ok (.aload_n 0, 1) := by decide +kernel
theorem dX10_staining_76 : decode mX10_staining.2.1 76 = .ok (.ldc2_w 260, 3) := by decide +kernel
theorem dX10_staining_79 : decode mX10_staining.2.1 79 = .ok (.invokevirtual 362, 3) := by decide +kernel
theorem dX10_staining_82 : decode mX10_staining.2.1 82 = .ok (.aload_n 0, 1) := by decide +kernel
theorem dX10_staining_83 : decode mX10_staining.2.1 83 = .ok (.getfield 69, 3) := by decide +kernel
theorem dX10_staining_86 : decode mX10_staining.2.1 86 = .ok (.iload_n 1, 1) := by decide +kernel
theorem dX10_staining_87 : decode mX10_staining.2.1 87 = .ok (.aload_n 0, 1) := by decide +kernel
theorem dX10_staining_88 : decode mX10_staining.2.1 88 = .ok (.iconst 0, 1) := by decide +kernel
theorem dX10_staining_89 : decode mX10_staining.2.1 89 = .ok (.bipush 9, 2) := by decide +kernel
theorem dX10_staining_91 : decode mX10_staining.2.1 91 = .ok (.invokevirtual 366, 3) := by decide +kernel
theorem dX10_staining_94 : decode mX10_staining.2.1 94 = .ok (.iastore, 1) := by decide +kernel
theorem dX10_staining_95 : decode mX10_staining.2.1 95 = .ok (.aload_n 0, 1) := by decide +kernel
theorem dX10_staining_96 : decode mX10_staining.2.1 96 = .ok (.getfield 36, 3) := by decide +kernel
theorem dX10_staining_99 : decode mX10_staining.2.1 99 = .ok (.ifCond .ne 16, 3) := by decide +kernel
theorem dX10_staining_102 : decode mX10_staining.2.1 102 = .ok (.aload_n 0, 1) := by decide +kernel
theorem dX10_staining_103 : decode mX10_staining.2.1 103 = .ok (.getfield 63, 3) := by decide +kernel
theorem dX10_staining_106 : decode mX10_staining.2.1 106 = .ok (.aload_n 0, 1) := by decide +kernel
theorem dX10_staining_107 : decode mX10_staining.2.1 107 = .ok (.getfield 112, 3) := by decide +kernel
theorem dX10_staining_110 : decode mX10_staining.2.1 110 = .ok (.dup2, 1) := by decide +kernel
theorem dX10_staining_111 : decode mX10_staining.2.1 111 = .ok (.iaload, 1) := by decide +kernel
theorem dX10_staining_112 : decode mX10_staining.2.1 112 = .ok (.iconst 1, 1) := by decide +kernel
theorem dX10_staining_113 : decode mX10_staining.2.1 113 = .ok (.iadd, 1) := by decide +kernel
theorem dX10_staining_114 : decode mX10_staining.2.1 114 = .ok (.iastore, 1) := by decide +kernel
theorem dX10_staining_115 : decode mX10_staining.2.1 115 = .ok (.return_, 1) := by decide +kernel
abbrev mX10_hearing : aM := (yX10_hearing, cX10_hearing, 2, none)
theorem dX10_hearing_0 : decode mX10_hearing.2.1 0 = .ok (.aload_n 0, 1) := by decide +kernel
theorem dX10_hearing_1 : decode mX10_hearing.2.1 1 = .ok (.aload_n 0, 1) := by decide +kernel
theorem dX10_hearing_2 : decode mX10_hearing.2.1 2 = .ok (.getfield 72, 3) := by decide +kernel
theorem dX10_hearing_5 : decode mX10_hearing.2.1 5 = .ok (.aload_n 0, 1) := by decide +kernel
theorem dX10_hearing_6 : decode mX10_hearing.2.1 6 = .ok (.getfield 112, 3) := by decide +kernel
theorem dX10_hearing_9 : decode mX10_hearing.2.1 9 = .ok (.iaload, 1) := by decide +kernel
theorem dX10_hearing_10 : decode mX10_hearing.2.1 10 = .ok (.bipush 6, 2) := by decide +kernel
theorem dX10_hearing_12 : decode mX10_hearing.2.1 12 = .ok (.if_icmp .ne 7, 3) := by decide +kernel
theorem dX10_hearing_15 : decode mX10_hearing.2.1 15 = .ok (.iconst 1, 1) := by decide +kernel
theorem dX10_hearing_16 : decode mX10_hearing.2.1 16 = .ok (.goto 4, 3) := by decide +kernel
theorem dX10_hearing_19 : decode mX10_hearing.2.1 19 = .ok (.iconst 0, 1) := by decide +kernel
theorem dX10_hearing_20 : decode mX10_hearing.2.1 20 = .ok (.invokevirtual 354, 3) := by decide +kernel
theorem dX10_hearing_23 : decode mX10_hearing.2.1 23 = .ok (.ifCond .ne 4, 3) := by decide +kernel
theorem dX10_hearing_26 : decode mX10_hearing.2.1 26 = .ok (.return_, 1) := by decide +kernel
theorem dX10_hearing_27 : decode mX10_hearing.2.1 27 = .ok (.bipush 6, 2) := by decide +kernel
theorem dX10_hearing_29 : decode mX10_hearing.2.1 29 = .ok (.aload_n 0, 1) := by decide +kernel
theorem dX10_hearing_30 : decode mX10_hearing.2.1 30 = .ok (.getfield 112, 3) := by decide +kernel
theorem dX10_hearing_33 : decode mX10_hearing.2.1 33 = .ok (.imul, 1) := by decide +kernel
theorem dX10_hearing_34 : decode mX10_hearing.2.1 34 = .ok (.aload_n 0, 1) := by decide +kernel
theorem dX10_hearing_35 : decode mX10_hearing.2.1 35 = .ok (.getfield 72, 3) := by decide +kernel
theorem dX10_hearing_38 : decode mX10_hearing.2.1 38 = .ok (.aload_n 0, 1) := by decide +kernel
theorem dX10_hearing_39 : decode mX10_hearing.2.1 39 = .ok (.getfield 112, 3) := by decide +kernel
theorem dX10_hearing_42 : decode mX10_hearing.2.1 42 = .ok (.iaload, 1) := by decide +kernel
theorem dX10_hearing_43 : decode mX10_hearing.2.1 43 = .ok (.iadd, 1) := by decide +kernel
theorem dX10_hearing_44 : decode mX10_hearing.2.1 44 = .ok (.istore_n 1, 1) := by decide +kernel
theorem dX10_hearing_45 : decode mX10_hearing.2.1 45 = .ok (.aload_n 0, 1) := by decide +kernel
theorem dX10_hearing_46 : decode mX10_hearing.2.1 46 = .ok (.getfield 106, 3) := by decide +kernel
theorem dX10_hearing_49 : decode mX10_hearing.2.1 49 = .ok (.iload_n 1, 1) := by decide +kernel
theorem dX10_hearing_50 : decode mX10_hearing.2.1 50 = .ok (.aload_n 0, 1) := by decide +kernel
theorem dX10_hearing_51 : decode mX10_hearing.2.1 51 = .ok (.invokevirtual 358, 3) := by decide +kernel
theorem dX10_hearing_54 : decode mX10_hearing.2.1 54 = .ok (.lastore, 1) := by decide +kernel
theorem dX10_hearing_55 : decode mX10_hearing.2.1 55 = .ok (.aload_n 0, 1) := by decide +kernel
theorem dX10_hearing_56 : decode mX10_hearing.2.1 56 = .ok (.ldc2_w 264, 3) := by decide +kernel
theorem dX10_hearing_59 : decode mX10_hearing.2.1 59 = .ok (.invokevirtual 362, 3) := by decide +kernel
theorem dX10_hearing_62 : decode mX10_hearing.2.1 62 = .ok (.aload_n 0, 1) := by decide +kernel
theorem dX10_hearing_63 : decode mX10_hearing.2.1 63 = .ok (.getfield 75, 3) := by decide +kernel
theorem dX10_hearing_66 : decode mX10_hearing.2.1 66 = .ok (.iload_n 1, 1) := by decide +kernel
theorem dX10_hearing_67 : decode mX10_hearing.2.1 67 = .ok (.aload_n 0, 1) := by decide +kernel
theorem dX10_hearing_68 : decode mX10_hearing.2.1 68 = .ok (.iconst 0, 1) := by decide +kernel
theorem dX10_hearing_69 : decode mX10_hearing.2.1 69 = .ok (.bipush 9, 2) := by decide +kernel
theorem dX10_hearing_71 : decode mX10_hearing.2.1 71 = .ok (.invokevirtual 366, 3) := by decide +kernel
theorem dX10_hearing_74 : decode mX10_hearing.2.1 74 = .ok (.iastore, 1) := by decide +kernel
theorem dX10_hearing_75 : decode mX10_hearing.2.1 75 = .ok (.aload_n 0, 1) := by decide +kernel
theorem dX10_hearing_76 : decode mX10_hearing.2.1 76 = .ok (.ldc2_w 266, 3) := by decide +kernel
theorem dX10_hearing_79 : decode mX10_hearing.2.1 79 = .ok (.invokevirtual 362, 3) := by decide +kernel
theorem dX10_hearing_82 : decode mX10_hearing.2.1 82 = .ok (.aload_n 0, 1) := by decide +kernel
theorem dX10_hearing_83 : decode mX10_hearing.2.1 83 = .ok (.getfield 78, 3) := by decide +kernel
theorem dX10_hearing_86 : decode mX10_hearing.2.1 86 = .ok (.iload_n 1, 1) := by decide +kernel
theorem dX10_hearing_87 : decode mX10_hearing.2.1 87 = .ok (.aload_n 0, 1) := by decide +kernel
theorem dX10_hearing_88 : decode mX10_hearing.2.1 88 = .ok (.iconst 0, 1) := by decide +kernel
theorem dX10_hearing_89 : decode mX10_hearing.2.1 89 = .ok (.bipush 9, 2) := by decide +kernel
theorem dX10_hearing_91 : decode mX10_hearing.2.1 91 = .ok (.invokevirtual 366, 3) := by decide +kernel
theorem dX10_hearing_94 : decode mX10_hearing.2.1 94 = .ok (.iastore, 1) := by decide +kernel
theorem dX10_hearing_95 : decode mX10_hearing.2.1 95 = .ok (.aload_n 0, 1) := by decide +kernel
theorem dX10_hearing_96 : decode mX10_hearing.2.1 96 = .ok (.getfield 36, 3) := by decide +kernel
theorem dX10_hearing_99 : decode mX10_hearing.2.1 99 = .ok (.ifCond .ne 16, 3) := by decide +kernel
theorem dX10_hearing_102 : decode mX10_hearing.2.1 102 = .ok (.aload_n 0, 1) := by decide +kernel
theorem dX10_hearing_103 : decode mX10_hearing.2.1 103 = .ok (.getfield 72, 3) := by decide +kernel
theorem dX10_hearing_106 : decode mX10_hearing.2.1 106 = .ok (.aload_n 0, 1) := by decide +kernel
theorem dX10_hearing_107 : decode mX10_hearing.2.1 107 = .ok (.getfield 112, 3) := by decide +kernel
theorem dX10_hearing_110 : decode mX10_hearing.2.1 110 = .ok (.dup2, 1) := by decide +kernel
theorem dX10_hearing_111 : decode mX10_hearing.2.1 111 = .ok (.iaload, 1) := by decide +kernel
theorem dX10_hearing_112 : decode mX10_hearing.2.1 112 = .ok (.iconst 1, 1) := by decide +kernel
theorem dX10_hearing_113 : decode mX10_hearing.2.1 113 = .ok (.iadd, 1) := by decide +kernel
theorem dX10_hearing_114 : decode mX10_hearing.2.1 114 = .ok (.iastore, 1) := by decide +kernel
theorem dX10_hearing_115 : decode mX10_hearing.2.1 115 = .ok (.return_, 1) := by decide +kernel
abbrev mX10_reading : aM := (yX10_reading, cX10_reading, 3, none)
theorem dX10_reading_0 : decode mX10_reading.2.1 0 = .ok (.iconst 5, 1) := by decide +kernel
theorem dX10_reading_1 : decode mX10_reading.2.1 1 = .ok (.aload_n 0, 1) := by decide +kernel
theorem dX10_reading_2 : decode mX10_reading.2.1 2 = .ok (.getfield 112, 3) := by decide +kernel
theorem dX10_reading_5 : decode mX10_reading.2.1 5 = .ok (.imul, 1) := by decide +kernel
theorem dX10_reading_6 : decode mX10_reading.2.1 6 = .ok (.iload_n 1, 1) := by decide +kernel
theorem dX10_reading_7 : decode mX10_reading.2.1 7 = .ok (.iadd, 1) := by decide +kernel
theorem dX10_reading_8 : decode mX10_reading.2.1 8 = .ok (.istore_n 2, 1) := by decide +kernel
theorem dX10_reading_9 : decode mX10_reading.2.1 9 = .ok (.aload_n 0, 1) := by decide +kernel
theorem dX10_reading_10 : decode mX10_reading.2.1 10 = .ok (.aload_n 0, 1) := by decide +kernel
theorem dX10_reading_11 : decode mX10_reading.2.1 11 = .ok (.getfield 87, 3) := by decide +kernel
theorem dX10_reading_14 : decode mX10_reading.2.1 14 = .ok (.iload_n 2, 1) := by decide +kernel
theorem dX10_reading_15 : decode mX10_reading.2.1 15 = .ok (.iaload, 1) := by decide +kernel
theorem dX10_reading_16 : decode mX10_reading.2.1 16 = .ok (.iconst (-1), 1) := by decide +kernel
theorem dX10_reading_17 : decode mX10_reading.2.1 17 = .ok (.if_icmp .eq 7, 3) := by decide +kernel
theorem dX10_reading_20 : decode mX10_reading.2.1 20 = .ok (.iconst 1, 1) := by decide +kernel
theorem dX10_reading_21 : decode mX10_reading.2.1 21 = .ok (.goto 4, 3) := by decide +kernel
theorem dX10_reading_24 : decode mX10_reading.2.1 24 = .ok (.iconst 0, 1) := by decide +kernel
theorem dX10_reading_25 : decode mX10_reading.2.1 25 = .ok (.invokevirtual 354, 3) := by decide +kernel
theorem dX10_reading_28 : decode mX10_reading.2.1 28 = .ok (.ifCond .ne 4, 3) := by decide +kernel
theorem dX10_reading_31 : decode mX10_reading.2.1 31 = .ok (.return_, 1) := by decide +kernel
theorem dX10_reading_32 : decode mX10_reading.2.1 32 = .ok (.aload_n 0, 1) := by decide +kernel
theorem dX10_reading_33 : decode mX10_reading.2.1 33 = .ok (.iload_n 1, 1) := by decide +kernel
theorem dX10_reading_34 : decode mX10_reading.2.1 34 = .ok (.putfield 115, 3) := by decide +kernel
theorem dX10_reading_37 : decode mX10_reading.2.1 37 = .ok (.aload_n 0, 1) := by decide +kernel
theorem dX10_reading_38 : decode mX10_reading.2.1 38 = .ok (.getfield 87, 3) := by decide +kernel
theorem dX10_reading_41 : decode mX10_reading.2.1 41 = .ok (.iload_n 2, 1) := by decide +kernel
theorem dX10_reading_42 : decode mX10_reading.2.1 42 = .ok (.aload_n 0, 1) := by decide +kernel
theorem dX10_reading_43 : decode mX10_reading.2.1 43 = .ok (.getfield 109, 3) := by decide +kernel
theorem dX10_reading_46 : decode mX10_reading.2.1 46 = .ok (.iastore, 1) := by decide +kernel
theorem dX10_reading_47 : decode mX10_reading.2.1 47 = .ok (.aload_n 0, 1) := by decide +kernel
theorem dX10_reading_48 : decode mX10_reading.2.1 48 = .ok (.iload_n 1, 1) := by decide +kernel
theorem dX10_reading_49 : decode mX10_reading.2.1 49 = .ok (.iconst 2, 1) := by decide +kernel
theorem dX10_reading_50 : decode mX10_reading.2.1 50 = .ok (.if_icmp .eq 8, 3) := by decide +kernel
theorem dX10_reading_53 : decode mX10_reading.2.1 53 = .ok (.iload_n 1, 1) := by decide +kernel
theorem dX10_reading_54 : decode mX10_reading.2.1 54 = .ok (.iconst 3, 1) := by decide +kernel
theorem dX10_reading_55 : decode mX10_reading.2.1 55 = .ok (.if_icmp .ne 7, 3) := by decide +kernel
theorem dX10_reading_58 : decode mX10_reading.2.1 58 = .ok (.iconst 1, 1) := by decide +kernel
theorem dX10_reading_59 : decode mX10_reading.2.1 59 = .ok (.goto 4, 3) := by decide +kernel
theorem dX10_reading_62 : decode mX10_reading.2.1 62 = .ok (.iconst 0, 1) := by decide +kernel
theorem dX10_reading_63 : decode mX10_reading.2.1 63 = .ok (.invokevirtual 369, 3) := by decide +kernel
theorem dX10_reading_66 : decode mX10_reading.2.1 66 = .ok (.aload_n 0, 1) := by decide +kernel
theorem dX10_reading_67 : decode mX10_reading.2.1 67 = .ok (.getfield 90, 3) := by decide +kernel
theorem dX10_reading_70 : decode mX10_reading.2.1 70 = .ok (.iload_n 2, 1) := by decide +kernel
theorem dX10_reading_71 : decode mX10_reading.2.1 71 = .ok (.aload_n 0, 1) := by decide +kernel
theorem dX10_reading_72 : decode mX10_reading.2.1 72 = .ok (.getfield 109, 3) := by decide +kernel
theorem dX10_reading_75 : decode mX10_reading.2.1 75 = .ok (.iastore, 1) := by decide +kernel
theorem dX10_reading_76 : decode mX10_reading.2.1 76 = .ok (.return_, 1) := by decide +kernel
abbrev mX10_watering : aM := (yX10_watering, cX10_watering, 2, none)
theorem dX10_watering_0 : decode mX10_watering.2.1 0 = .ok (.aload_n 0, 1) := by decide +kernel
theorem dX10_watering_1 : decode mX10_watering.2.1 1 = .ok (.iconst 0, 1) := by decide +kernel
theorem dX10_watering_2 : decode mX10_watering.2.1 2 = .ok (.invokevirtual 354, 3) := by decide +kernel
theorem dX10_watering_5 : decode mX10_watering.2.1 5 = .ok (.ifCond .ne 4, 3) := by decide +kernel
theorem dX10_watering_8 : decode mX10_watering.2.1 8 = .ok (.return_, 1) := by decide +kernel
theorem dX10_watering_9 : decode mX10_watering.2.1 9 = .ok (.aload_n 0, 1) := by decide +kernel
theorem dX10_watering_10 : decode mX10_watering.2.1 10 = .ok (.iconst 0, 1) := by decide +kernel
theorem dX10_watering_11 : decode mX10_watering.2.1 11 = .ok (.bipush 99, 2) := by decide +kernel
theorem dX10_watering_13 : decode mX10_watering.2.1 13 = .ok (.invokevirtual 366, 3) := by decide +kernel
theorem dX10_watering_16 : decode mX10_watering.2.1 16 = .ok (.istore_n 1, 1) := by decide +kernel
theorem dX10_watering_17 : decode mX10_watering.2.1 17 = .ok (.aload_n 0, 1) := by decide +kernel
theorem dX10_watering_18 : decode mX10_watering.2.1 18 = .ok (.getfield 36, 3) := by decide +kernel
theorem dX10_watering_21 : decode mX10_watering.2.1 21 = .ok (.ifCond .ne 13, 3) := by decide +kernel
theorem dX10_watering_24 : decode mX10_watering.2.1 24 = .ok (.aload_n 0, 1) := by decide +kernel
theorem dX10_watering_25 : decode mX10_watering.2.1 25 = .ok (.getfield 81, 3) := by decide +kernel
theorem dX10_watering_28 : decode mX10_watering.2.1 28 = .ok (.aload_n 0, 1) := by decide +kernel
theorem dX10_watering_29 : decode mX10_watering.2.1 29 = .ok (.getfield 112, 3) := by decide +kernel
theorem dX10_watering_32 : decode mX10_watering.2.1 32 = .ok (.iload_n 1, 1) := by decide +kernel
theorem dX10_watering_33 : decode mX10_watering.2.1 33 = .ok (.iastore, 1) := by decide +kernel
theorem dX10_watering_34 : decode mX10_watering.2.1 34 = .ok (.return_, 1) := by decide +kernel
abbrev mX10_drying : aM := (yX10_drying, cX10_drying, 2, none)
theorem dX10_drying_0 : decode mX10_drying.2.1 0 = .ok (.aload_n 0, 1) := by decide +kernel
theorem dX10_drying_1 : decode mX10_drying.2.1 1 = .ok (.iconst 0, 1) := by decide +kernel
theorem dX10_drying_2 : decode mX10_drying.2.1 2 = .ok (.invokevirtual 354, 3) := by decide +kernel
theorem dX10_drying_5 : decode mX10_drying.2.1 5 = .ok (.ifCond .ne 4, 3) := by decide +kernel
theorem dX10_drying_8 : decode mX10_drying.2.1 8 = .ok (.return_, 1) := by decide +kernel
theorem dX10_drying_9 : decode mX10_drying.2.1 9 = .ok (.aload_n 0, 1) := by decide +kernel
theorem dX10_drying_10 : decode mX10_drying.2.1 10 = .ok (.iconst 0, 1) := by decide +kernel
theorem dX10_drying_11 : decode mX10_drying.2.1 11 = .ok (.bipush 100, 2) := by decide +kernel
theorem dX10_drying_13 : decode mX10_drying.2.1 13 = .ok (.invokevirtual 366, 3) := by decide +kernel
theorem dX10_drying_16 : decode mX10_drying.2.1 16 = .ok (.istore_n 1, 1) := by decide +kernel
theorem dX10_drying_17 : decode mX10_drying.2.1 17 = .ok (.aload_n 0, 1) := by decide +kernel
theorem dX10_drying_18 : decode mX10_drying.2.1 18 = .ok (.getfield 36, 3) := by decide +kernel
theorem dX10_drying_21 : decode mX10_drying.2.1 21 = .ok (.ifCond .ne 13, 3) := by decide +kernel
theorem dX10_drying_24 : decode mX10_drying.2.1 24 = .ok (.aload_n 0, 1) := by decide +kernel
theorem dX10_drying_25 : decode mX10_drying.2.1 25 = .ok (.getfield 84, 3) := by decide +kernel
theorem dX10_drying_28 : decode mX10_drying.2.1 28 = .ok (.aload_n 0, 1) := by decide +kernel
theorem dX10_drying_29 : decode mX10_drying.2.1 29 = .ok (.getfield 112, 3) := by decide +kernel
theorem dX10_drying_32 : decode mX10_drying.2.1 32 = .ok (.iload_n 1, 1) := by decide +kernel
theorem dX10_drying_33 : decode mX10_drying.2.1 33 = .ok (.iastore, 1) := by decide +kernel
theorem dX10_drying_34 : decode mX10_drying.2.1 34 = .ok (.return_, 1) := by decide +kernel
abbrev mX10_statement : aM := (yX10_statement, cX10_statement, 1, none)
theorem dX10_statement_0 : decode mX10_statement.2.1 0 = .ok (.aload_n 0, 1) := by decide +kernel
theorem dX10_statement_1 : decode mX10_statement.2.1 1 = .ok (.invokevirtual 241, 3) := by decide +kernel
theorem dX10_statement_4 : decode mX10_statement.2.1 4 = .ok (.aload_n 0, 1) := by decide +kernel
theorem dX10_statement_5 : decode mX10_statement.2.1 5 = .ok (.getfield 36, 3) := by decide +kernel
theorem dX10_statement_8 : decode mX10_statement.2.1 8 = .ok (.ifCond .le 4, 3) := by decide +kernel
theorem dX10_statement_11 : decode mX10_statement.2.1 11 = .ok (.return_, 1) := by decide +kernel
theorem dX10_statement_12 : decode mX10_statement.2.1 12 = .ok (.aload_n 0, 1) := by decide +kernel
theorem dX10_statement_13 : decode mX10_statement.2.1 13 = .ok (.ldc2_w 250, 3) := by decide +kernel
theorem dX10_statement_16 : decode mX10_statement.2.1 16 = .ok (.invokevirtual 328, 3) := by decide +kernel
theorem dX10_statement_19 : decode mX10_statement.2.1 19 = .ok (.ifCond .eq 10, 3) := by decide +kernel
theorem dX10_statement_22 : decode mX10_statement.2.1 22 = .ok (.aload_n 0, 1) := by decide +kernel
theorem dX10_statement_23 : decode mX10_statement.2.1 23 = .ok (.invokevirtual 373, 3) := by decide +kernel
theorem dX10_statement_26 : decode mX10_statement.2.1 26 = .ok (.goto 170, 3) := by decide +kernel
theorem dX10_statement_29 : decode mX10_statement.2.1 29 = .ok (.aload_n 0, 1) := by decide +kernel
theorem dX10_statement_30 : decode mX10_statement.2.1 30 = .ok (.ldc2_w 256, 3) := by decide +kernel
theorem dX10_statement_33 : decode mX10_statement.2.1 33 = .ok (.invokevirtual 328, 3) := by decide +kernel
theorem dX10_statement_36 : decode mX10_statement.2.1 36 = .ok (.ifCond .eq 10, 3) := by decide +kernel
theorem dX10_statement_39 : decode mX10_statement.2.1 39 = .ok (.aload_n 0, 1) := by decide +kernel
theorem dX10_statement_40 : decode mX10_statement.2.1 40 = .ok (.invokevirtual 376, 3) := by decide +kernel
theorem dX10_statement_43 : decode mX10_statement.2.1 43 = .ok (.goto 153, 3) := by decide +kernel
theorem dX10_statement_46 : decode mX10_statement.2.1 46 = .ok (.aload_n 0, 1) := by decide +kernel
theorem dX10_statement_47 : decode mX10_statement.2.1 47 = .ok (.ldc2_w 262, 3) := by decide +kernel
theorem dX10_statement_50 : decode mX10_statement.2.1 50 = .ok (.invokevirtual 328, 3) := by decide +kernel
theorem dX10_statement_53 : decode mX10_statement.2.1 53 = .ok (.ifCond .eq 10, 3) := by decide +kernel
theorem dX10_statement_56 : decode mX10_statement.2.1 56 = .ok (.aload_n 0, 1) := by decide +kernel
theorem dX10_statement_57 : decode mX10_statement.2.1 57 = .ok (.invokevirtual 379, 3) := by decide +kernel
theorem dX10_statement_60 : decode mX10_statement.2.1 60 = .ok (.goto 136, 3) := by decide +kernel
theorem dX10_statement_63 : decode mX10_statement.2.1 63 = .ok (.aload_n 0, 1) := by decide +kernel
theorem dX10_statement_64 : decode mX10_statement.2.1 64 = .ok (.ldc2_w 268, 3) := by decide +kernel
theorem dX10_statement_67 : decode mX10_statement.2.1 67 = .ok (.invokevirtual 328, 3) := by decide +kernel
theorem dX10_statement_70 : decode mX10_statement.2.1 70 = .ok (.ifCond .eq 11, 3) := by decide +kernel
theorem dX10_statement_73 : decode mX10_statement.2.1 73 = .ok (.aload_n 0, 1) := by decide +kernel
theorem dX10_statement_74 : decode mX10_statement.2.1 74 = .ok (.iconst 0, 1) := by decide +kernel
theorem dX10_statement_75 : decode mX10_statement.2.1 75 = .ok (.invokevirtual 382, 3) := by decide +kernel
theorem dX10_statement_78 : decode mX10_statement.2.1 78 = .ok (.goto 118, 3) := by decide +kernel
theorem dX10_statement_81 : decode mX10_statement.2.1 81 = .ok (.aload_n 0, 1) := by decide +kernel
theorem dX10_statement_82 : decode mX10_statement.2.1 82 = .ok (.ldc2_w 270, 3) := by decide +kernel
theorem dX10_statement_85 : decode mX10_statement.2.1 85 = .ok (.invokevirtual 328, 3) := by decide +kernel
theorem dX10_statement_88 : decode mX10_statement.2.1 88 = .ok (.ifCond .eq 11, 3) := by decide +kernel
theorem dX10_statement_91 : decode mX10_statement.2.1 91 = .ok (.aload_n 0, 1) := by decide +kernel
theorem dX10_statement_92 : decode mX10_statement.2.1 92 = .ok (.iconst 1, 1) := by decide +kernel
theorem dX10_statement_93 : decode mX10_statement.2.1 93 = .ok (.invokevirtual 382, 3) := by decide +kernel
theorem dX10_statement_96 : decode mX10_statement.2.1 96 = .ok (.goto 100, 3) := by decide +kernel
theorem dX10_statement_99 : decode mX10_statement.2.1 99 = .ok (.aload_n 0, 1) := by decide +kernel
theorem dX10_statement_100 : decode mX10_statement.2.1 100 = .ok (.ldc2_w 272, 3) := by decide +kernel
theorem dX10_statement_103 : decode mX10_statement.2.1 103 = .ok (.invokevirtual 328, 3) := by decide +kernel
theorem dX10_statement_106 : decode mX10_statement.2.1 106 = .ok (.ifCond .eq 11, 3) := by decide +kernel
theorem dX10_statement_109 : decode mX10_statement.2.1 109 = .ok (.aload_n 0, 1) := by decide +kernel
theorem dX10_statement_110 : decode mX10_statement.2.1 110 = .ok (.iconst 2, 1) := by decide +kernel
theorem dX10_statement_111 : decode mX10_statement.2.1 111 = .ok (.invokevirtual 382, 3) := by decide +kernel
theorem dX10_statement_114 : decode mX10_statement.2.1 114 = .ok (.goto 82, 3) := by decide +kernel
theorem dX10_statement_117 : decode mX10_statement.2.1 117 = .ok (.aload_n 0, 1) := by decide +kernel
theorem dX10_statement_118 : decode mX10_statement.2.1 118 = .ok (.ldc2_w 274, 3) := by decide +kernel
theorem dX10_statement_121 : decode mX10_statement.2.1 121 = .ok (.invokevirtual 328, 3) := by decide +kernel
theorem dX10_statement_124 : decode mX10_statement.2.1 124 = .ok (.ifCond .eq 11, 3) := by decide +kernel
theorem dX10_statement_127 : decode mX10_statement.2.1 127 = .ok (.aload_n 0, 1) := by decide +kernel
theorem dX10_statement_128 : decode mX10_statement.2.1 128 = .ok (.iconst 3, 1) := by decide +kernel
theorem dX10_statement_129 : decode mX10_statement.2.1 129 = .ok (.invokevirtual 382, 3) := by decide +kernel
theorem dX10_statement_132 : decode mX10_statement.2.1 132 = .ok (.goto 64, 3) := by decide +kernel
theorem dX10_statement_135 : decode mX10_statement.2.1 135 = .ok (.aload_n 0, 1) := by decide +kernel
theorem dX10_statement_136 : decode mX10_statement.2.1 136 = .ok (.ldc2_w 276, 3) := by decide +kernel
theorem dX10_statement_139 : decode mX10_statement.2.1 139 = .ok (.invokevirtual 328, 3) := by decide +kernel
theorem dX10_statement_142 : decode mX10_statement.2.1 142 = .ok (.ifCond .eq 11, 3) := by decide +kernel
theorem dX10_statement_145 : decode mX10_statement.2.1 145 = .ok (.aload_n 0, 1) := by decide +kernel
theorem dX10_statement_146 : decode mX10_statement.2.1 146 = .ok (.iconst 4, 1) := by decide +kernel
theorem dX10_statement_147 : decode mX10_statement.2.1 147 = .ok (.invokevirtual 382, 3) := by decide +kernel
theorem dX10_statement_150 : decode mX10_statement.2.1 150 = .ok (.goto 46, 3) := by decide +kernel
theorem dX10_statement_153 : decode mX10_statement.2.1 153 = .ok (.aload_n 0, 1) := by decide +kernel
theorem dX10_statement_154 : decode mX10_statement.2.1 154 = .ok (.ldc2_w 278, 3) := by decide +kernel
theorem dX10_statement_157 : decode mX10_statement.2.1 157 = .ok (.invokevirtual 328, 3) := by decide +kernel
theorem dX10_statement_160 : decode mX10_statement.2.1 160 = .ok (.ifCond .eq 10, 3) := by decide +kernel
theorem dX10_statement_163 : decode mX10_statement.2.1 163 = .ok (.aload_n 0, 1) := by decide +kernel
theorem dX10_statement_164 : decode mX10_statement.2.1 164 = .ok (.invokevirtual 385, 3) := by decide +kernel
theorem dX10_statement_167 : decode mX10_statement.2.1 167 = .ok (.goto 29, 3) := by decide +kernel
theorem dX10_statement_170 : decode mX10_statement.2.1 170 = .ok (.aload_n 0, 1) := by decide +kernel
theorem dX10_statement_171 : decode mX10_statement.2.1 171 = .ok (.ldc2_w 280, 3) := by decide +kernel
theorem dX10_statement_174 : decode mX10_statement.2.1 174 = .ok (.invokevirtual 328, 3) := by decide +kernel
theorem dX10_statement_177 : decode mX10_statement.2.1 177 = .ok (.ifCond .eq 10, 3) := by decide +kernel
theorem dX10_statement_180 : decode mX10_statement.2.1 180 = .ok (.aload_n 0, 1) := by decide +kernel
theorem dX10_statement_181 : decode mX10_statement.2.1 181 = .ok (.invokevirtual 388, 3) := by decide +kernel
theorem dX10_statement_184 : decode mX10_statement.2.1 184 = .ok (.goto 12, 3) := by decide +kernel
theorem dX10_statement_187 : decode mX10_statement.2.1 187 = .ok (.aload_n 0, 1) := by decide +kernel
theorem dX10_statement_188 : decode mX10_statement.2.1 188 = .ok (.iconst 1, 1) := by decide +kernel
theorem dX10_statement_189 : decode mX10_statement.2.1 189 = .ok (.aload_n 0, 1) := by decide +kernel
theorem dX10_statement_190 : decode mX10_statement.2.1 190 = .ok (.getfield 23, 3) := by decide +kernel
theorem dX10_statement_193 : decode mX10_statement.2.1 193 = .ok (.invokevirtual 230, 3) := by decide +kernel
theorem dX10_statement_196 : decode mX10_statement.2.1 196 = .ok (.return_, 1) := by decide +kernel
abbrev mX10_finishes : aM := (yX10_finishes, cX10_finishes, 3, none)
theorem dX10_finishes_0 : decode mX10_finishes.2.1 0 = .ok (.aload_n 0, 1) := by decide +kernel
theorem dX10_finishes_1 : decode mX10_finishes.2.1 1 = .ok (.invokevirtual 241, 3) := by decide +kernel
theorem dX10_finishes_4 : decode mX10_finishes.2.1 4 = .ok (.aload_n 0, 1) := by decide +kernel
theorem dX10_finishes_5 : decode mX10_finishes.2.1 5 = .ok (.getfield 36, 3) := by decide +kernel
theorem dX10_finishes_8 : decode mX10_finishes.2.1 8 = .ok (.ifCond .le 4, 3) := by decide +kernel
theorem dX10_finishes_11 : decode mX10_finishes.2.1 11 = .ok (.return_, 1) := by decide +kernel
theorem dX10_finishes_12 : decode mX10_finishes.2.1 12 = .ok (.aload_n 0, 1) := by decide +kernel
theorem dX10_finishes_13 : decode mX10_finishes.2.1 13 = .ok (.getfield 26, 3) := by decide +kernel
theorem dX10_finishes_16 : decode mX10_finishes.2.1 16 = .ok (.istore_n 2, 1) := by decide +kernel
theorem dX10_finishes_17 : decode mX10_finishes.2.1 17 = .ok (.iload_n 2, 1) := by decide +kernel
theorem dX10_finishes_18 : decode mX10_finishes.2.1 18 = .ok (.aload_n 0, 1) := by decide +kernel
theorem dX10_finishes_19 : decode mX10_finishes.2.1 19 = .ok (.getfield 17, 3) := by decide +kernel
theorem dX10_finishes_22 : decode mX10_finishes.2.1 22 = .ok (.if_icmp .ge 31, 3) := by decide +kernel
theorem dX10_finishes_25 : decode mX10_finishes.2.1 25 = .ok (.aload_n 0, 1) := by decide +kernel
theorem dX10_finishes_26 : decode mX10_finishes.2.1 26 = .ok (.getfield 7, 3) := by decide +kernel
theorem dX10_finishes_29 : decode mX10_finishes.2.1 29 = .ok (.iload_n 2, 1) := by decide +kernel
theorem dX10_finishes_30 : decode mX10_finishes.2.1 30 = .ok (.iaload, 1) := by decide +kernel
theorem dX10_finishes_31 : decode mX10_finishes.2.1 31 = .ok (.bipush 32, 2) := by decide +kernel
theorem dX10_finishes_33 : decode mX10_finishes.2.1 33 = .ok (.if_icmp .eq 14, 3) := by decide +kernel
theorem dX10_finishes_36 : decode mX10_finishes.2.1 36 = .ok (.aload_n 0, 1) := by decide +kernel
theorem dX10_finishes_37 : decode mX10_finishes.2.1 37 = .ok (.getfield 7, 3) := by decide +kernel
theorem dX10_finishes_40 : decode mX10_finishes.2.1 40 = .ok (.iload_n 2, 1) := by decide +kernel
theorem dX10_finishes_41 : decode mX10_finishes.2.1 41 = .ok (.iaload, 1) := by decide +kernel
theorem dX10_finishes_42 : decode mX10_finishes.2.1 42 = .ok (.bipush 10, 2) := by decide +kernel
theorem dX10_finishes_44 : decode mX10_finishes.2.1 44 = .ok (.if_icmp .ne 9, 3) := by decide +kernel
theorem dX10_finishes_47 : decode mX10_finishes.2.1 47 = .ok (.iinc 2 1, 3) := by decide +kernel
theorem dX10_finishes_50 : decode mX10_finishes.2.1 50 = .ok (.goto (-33), 3) := by decide +kernel
theorem dX10_finishes_53 : decode mX10_finishes.2.1 53 = .ok (.aload_n 0, 1) := by decide +kernel
theorem dX10_finishes_54 : decode mX10_finishes.2.1 54 = .ok (.bipush 59, 2) := by decide +kernel
theorem dX10_finishes_56 : decode mX10_finishes.2.1 56 = .ok (.invokevirtual 244, 3) := by decide +kernel
theorem dX10_finishes_59 : decode mX10_finishes.2.1 59 = .ok (.ifCond .eq 24, 3) := by decide +kernel
theorem dX10_finishes_62 : decode mX10_finishes.2.1 62 = .ok (.iload_n 1, 1) := by decide +kernel
theorem dX10_finishes_63 : decode mX10_finishes.2.1 63 = .ok (.bipush 80, 2) := by decide +kernel
theorem dX10_finishes_65 : decode mX10_finishes.2.1 65 = .ok (.if_icmp .ne 18, 3) := by decide +kernel
theorem dX10_finishes_68 : decode mX10_finishes.2.1 68 = .ok (.iload_n 2, 1) := by decide +kernel
theorem dX10_finishes_69 : decode mX10_finishes.2.1 69 = .ok (.aload_n 0, 1) := by decide +kernel
theorem dX10_finishes_70 : decode mX10_finishes.2.1 70 = .ok (.getfield 17, 3) := by decide +kernel
theorem dX10_finishes_73 : decode mX10_finishes.2.1 73 = .ok (.if_icmp .ge 10, 3) := by decide +kernel
theorem dX10_finishes_76 : decode mX10_finishes.2.1 76 = .ok (.aload_n 0, 1) := by decide +kernel
theorem dX10_finishes_77 : decode mX10_finishes.2.1 77 = .ok (.bipush 6, 2) := by decide +kernel
theorem dX10_finishes_79 : decode mX10_finishes.2.1 79 = .ok (.iload_n 2, 1) := by decide +kernel
theorem dX10_finishes_80 : decode mX10_finishes.2.1 80 = .ok (.invokevirtual 230, 3) := by decide +kernel
theorem dX10_finishes_83 : decode mX10_finishes.2.1 83 = .ok (.aload_n 0, 1) := by decide +kernel
theorem dX10_finishes_84 : decode mX10_finishes.2.1 84 = .ok (.bipush 59, 2) := by decide +kernel
theorem dX10_finishes_86 : decode mX10_finishes.2.1 86 = .ok (.invokevirtual 391, 3) := by decide +kernel
theorem dX10_finishes_89 : decode mX10_finishes.2.1 89 = .ok (.return_, 1) := by decide +kernel
abbrev mX10_chapel : aM := (yX10_chapel, cX10_chapel, 2, (some .int))
theorem dX10_chapel_0 : decode mX10_chapel.2.1 0 = .ok (.aload_n 0, 1) := by decide +kernel
theorem dX10_chapel_1 : decode mX10_chapel.2.1 1 = .ok (.aload_n 0, 1) := by decide +kernel
theorem dX10_chapel_2 : decode mX10_chapel.2.1 2 = .ok (.getfield 13, 3) := by decide +kernel
theorem dX10_chapel_5 : decode mX10_chapel.2.1 5 = .ok (.putfield 17, 3) := by decide +kernel
theorem dX10_chapel_8 : decode mX10_chapel.2.1 8 = .ok (.aload_n 0, 1) := by decide +kernel
theorem dX10_chapel_9 : decode mX10_chapel.2.1 9 = .ok (.iconst 0, 1) := by decide +kernel
theorem dX10_chapel_10 : decode mX10_chapel.2.1 10 = .ok (.putfield 13, 3) := by decide +kernel
theorem dX10_chapel_13 : decode mX10_chapel.2.1 13 = .ok (.aload_n 0, 1) := by decide +kernel
theorem dX10_chapel_14 : decode mX10_chapel.2.1 14 = .ok (.iconst 0, 1) := by decide +kernel
theorem dX10_chapel_15 : decode mX10_chapel.2.1 15 = .ok (.putfield 26, 3) := by decide +kernel
theorem dX10_chapel_18 : decode mX10_chapel.2.1 18 = .ok (.aload_n 0, 1) := by decide +kernel
theorem dX10_chapel_19 : decode mX10_chapel.2.1 19 = .ok (.iconst 0, 1) := by decide +kernel
theorem dX10_chapel_20 : decode mX10_chapel.2.1 20 = .ok (.putfield 36, 3) := by decide +kernel
theorem dX10_chapel_23 : decode mX10_chapel.2.1 23 = .ok (.aload_n 0, 1) := by decide +kernel
theorem dX10_chapel_24 : decode mX10_chapel.2.1 24 = .ok (.iconst (-1), 1) := by decide +kernel
theorem dX10_chapel_25 : decode mX10_chapel.2.1 25 = .ok (.putfield 39, 3) := by decide +kernel
theorem dX10_chapel_28 : decode mX10_chapel.2.1 28 = .ok (.aload_n 0, 1) := by decide +kernel
theorem dX10_chapel_29 : decode mX10_chapel.2.1 29 = .ok (.iconst 1, 1) := by decide +kernel
theorem dX10_chapel_30 : decode mX10_chapel.2.1 30 = .ok (.aload_n 0, 1) := by decide +kernel
theorem dX10_chapel_31 : decode mX10_chapel.2.1 31 = .ok (.getfield 51, 3) := by decide +kernel
theorem dX10_chapel_34 : decode mX10_chapel.2.1 34 = .ok (.isub, 1) := by decide +kernel
theorem dX10_chapel_35 : decode mX10_chapel.2.1 35 = .ok (.putfield 112, 3) := by decide +kernel
theorem dX10_chapel_38 : decode mX10_chapel.2.1 38 = .ok (.aload_n 0, 1) := by decide +kernel
theorem dX10_chapel_39 : decode mX10_chapel.2.1 39 = .ok (.getfield 54, 3) := by decide +kernel
theorem dX10_chapel_42 : decode mX10_chapel.2.1 42 = .ok (.aload_n 0, 1) := by decide +kernel
theorem dX10_chapel_43 : decode mX10_chapel.2.1 43 = .ok (.getfield 112, 3) := by decide +kernel
theorem dX10_chapel_46 : decode mX10_chapel.2.1 46 = .ok (.iconst 0, 1) := by decide +kernel
theorem dX10_chapel_47 : decode mX10_chapel.2.1 47 = .ok (.iastore, 1) := by decide +kernel
theorem dX10_chapel_48 : decode mX10_chapel.2.1 48 = .ok (.aload_n 0, 1) := by decide +kernel
theorem dX10_chapel_49 : decode mX10_chapel.2.1 49 = .ok (.getfield 63, 3) := by decide +kernel
theorem dX10_chapel_52 : decode mX10_chapel.2.1 52 = .ok (.aload_n 0, 1) := by decide +kernel
theorem dX10_chapel_53 : decode mX10_chapel.2.1 53 = .ok (.getfield 112, 3) := by decide +kernel
theorem dX10_chapel_56 : decode mX10_chapel.2.1 56 = .ok (.iconst 0, 1) := by decide +kernel
theorem dX10_chapel_57 : decode mX10_chapel.2.1 57 = .ok (.iastore, 1) := by decide +kernel
theorem dX10_chapel_58 : decode mX10_chapel.2.1 58 = .ok (.aload_n 0, 1) := by decide +kernel
theorem dX10_chapel_59 : decode mX10_chapel.2.1 59 = .ok (.getfield 72, 3) := by decide +kernel
theorem dX10_chapel_62 : decode mX10_chapel.2.1 62 = .ok (.aload_n 0, 1) := by decide +kernel
theorem dX10_chapel_63 : decode mX10_chapel.2.1 63 = .ok (.getfield 112, 3) := by decide +kernel
theorem dX10_chapel_66 : decode mX10_chapel.2.1 66 = .ok (.iconst 0, 1) := by decide +kernel
theorem dX10_chapel_67 : decode mX10_chapel.2.1 67 = .ok (.iastore, 1) := by decide +kernel
theorem dX10_chapel_68 : decode mX10_chapel.2.1 68 = .ok (.aload_n 0, 1) := by decide +kernel
theorem dX10_chapel_69 : decode mX10_chapel.2.1 69 = .ok (.getfield 81, 3) := by decide +kernel
theorem dX10_chapel_72 : decode mX10_chapel.2.1 72 = .ok (.aload_n 0, 1) := by decide +kernel
theorem dX10_chapel_73 : decode mX10_chapel.2.1 73 = .ok (.getfield 112, 3) := by decide +kernel
theorem dX10_chapel_76 : decode mX10_chapel.2.1 76 = .ok (.iconst 0, 1) := by decide +kernel
theorem dX10_chapel_77 : decode mX10_chapel.2.1 77 = .ok (.iastore, 1) := by decide +kernel
theorem dX10_chapel_78 : decode mX10_chapel.2.1 78 = .ok (.aload_n 0, 1) := by decide +kernel
theorem dX10_chapel_79 : decode mX10_chapel.2.1 79 = .ok (.getfield 84, 3) := by decide +kernel
theorem dX10_chapel_82 : decode mX10_chapel.2.1 82 = .ok (.aload_n 0, 1) := by decide +kernel
theorem dX10_chapel_83 : decode mX10_chapel.2.1 83 = .ok (.getfield 112, 3) := by decide +kernel
theorem dX10_chapel_86 : decode mX10_chapel.2.1 86 = .ok (.iconst 0, 1) := by decide +kernel
theorem dX10_chapel_87 : decode mX10_chapel.2.1 87 = .ok (.iastore, 1) := by decide +kernel
theorem dX10_chapel_88 : decode mX10_chapel.2.1 88 = .ok (.iconst 5, 1) := by decide +kernel
theorem dX10_chapel_89 : decode mX10_chapel.2.1 89 = .ok (.aload_n 0, 1) := by decide +kernel
theorem dX10_chapel_90 : decode mX10_chapel.2.1 90 = .ok (.getfield 112, 3) := by decide +kernel
theorem dX10_chapel_93 : decode mX10_chapel.2.1 93 = .ok (.imul, 1) := by decide +kernel
theorem dX10_chapel_94 : decode mX10_chapel.2.1 94 = .ok (.istore_n 1, 1) := by decide +kernel
theorem dX10_chapel_95 : decode mX10_chapel.2.1 95 = .ok (.iload_n 1, 1) := by decide +kernel
theorem dX10_chapel_96 : decode mX10_chapel.2.1 96 = .ok (.iconst 5, 1) := by decide +kernel
theorem dX10_chapel_97 : decode mX10_chapel.2.1 97 = .ok (.aload_n 0, 1) := by decide +kernel
theorem dX10_chapel_98 : decode mX10_chapel.2.1 98 = .ok (.getfield 112, 3) := by decide +kernel
theorem dX10_chapel_101 : decode mX10_chapel.2.1 101 = .ok (.imul, 1) := by decide +kernel
theorem dX10_chapel_102 : decode mX10_chapel.2.1 102 = .ok (.iconst 5, 1) := by decide +kernel
theorem dX10_chapel_103 : decode mX10_chapel.2.1 103 = .ok (.iadd, 1) := by decide +kernel
theorem dX10_chapel_104 : decode mX10_chapel.2.1 104 = .ok (.if_icmp .ge 16, 3) := by decide +kernel
theorem dX10_chapel_107 : decode mX10_chapel.2.1 107 = .ok (.aload_n 0, 1) := by decide +kernel
theorem dX10_chapel_108 : decode mX10_chapel.2.1 108 = .ok (.getfield 87, 3) := by decide +kernel
theorem dX10_chapel_111 : decode mX10_chapel.2.1 111 = .ok (.iload_n 1, 1) := by decide +kernel
theorem dX10_chapel_112 : decode mX10_chapel.2.1 112 = .ok (.iconst (-1), 1) := by decide +kernel
theorem dX10_chapel_113 : decode mX10_chapel.2.1 113 = .ok (.iastore, 1) := by decide +kernel
theorem dX10_chapel_114 : decode mX10_chapel.2.1 114 = .ok (.iinc 1 1, 3) := by decide +kernel
theorem dX10_chapel_117 : decode mX10_chapel.2.1 117 = .ok (.goto (-22), 3) := by decide +kernel
theorem dX10_chapel_120 : decode mX10_chapel.2.1 120 = .ok (.aload_n 0, 1) := by decide +kernel
theorem dX10_chapel_121 : decode mX10_chapel.2.1 121 = .ok (.iconst 0, 1) := by decide +kernel
theorem dX10_chapel_122 : decode mX10_chapel.2.1 122 = .ok (.putfield 109, 3) := by decide +kernel
theorem dX10_chapel_125 : decode mX10_chapel.2.1 125 = .ok (.iconst 0, 1) := by decide +kernel
theorem dX10_chapel_126 : decode mX10_chapel.2.1 126 = .ok (.istore_n 1, 1) := by decide +kernel
theorem dX10_chapel_127 : decode mX10_chapel.2.1 127 = .ok (.aload_n 0, 1) := by decide +kernel
theorem dX10_chapel_128 : decode mX10_chapel.2.1 128 = .ok (.invokevirtual 247, 3) := by decide +kernel
theorem dX10_chapel_131 : decode mX10_chapel.2.1 131 = .ok (.aload_n 0, 1) := by decide +kernel
theorem dX10_chapel_132 : decode mX10_chapel.2.1 132 = .ok (.getfield 36, 3) := by decide +kernel
theorem dX10_chapel_135 : decode mX10_chapel.2.1 135 = .ok (.ifCond .ne 25, 3) := by decide +kernel
theorem dX10_chapel_138 : decode mX10_chapel.2.1 138 = .ok (.aload_n 0, 1) := by decide +kernel
theorem dX10_chapel_139 : decode mX10_chapel.2.1 139 = .ok (.getfield 20, 3) := by decide +kernel
theorem dX10_chapel_142 : decode mX10_chapel.2.1 142 = .ok (.ifCond .eq 18, 3) := by decide +kernel
theorem dX10_chapel_145 : decode mX10_chapel.2.1 145 = .ok (.aload_n 0, 1) := by decide +kernel
theorem dX10_chapel_146 : decode mX10_chapel.2.1 146 = .ok (.invokevirtual 393, 3) := by decide +kernel
theorem dX10_chapel_149 : decode mX10_chapel.2.1 149 = .ok (.iinc 1 1, 3) := by decide +kernel
theorem dX10_chapel_152 : decode mX10_chapel.2.1 152 = .ok (.aload_n 0, 1) := by decide +kernel
theorem dX10_chapel_153 : decode mX10_chapel.2.1 153 = .ok (.iload_n 1, 1) := by decide +kernel
theorem dX10_chapel_154 : decode mX10_chapel.2.1 154 = .ok (.invokevirtual 396, 3) := by decide +kernel
theorem dX10_chapel_157 : decode mX10_chapel.2.1 157 = .ok (.goto (-26), 3) := by decide +kernel
theorem dX10_chapel_160 : decode mX10_chapel.2.1 160 = .ok (.aload_n 0, 1) := by decide +kernel
theorem dX10_chapel_161 : decode mX10_chapel.2.1 161 = .ok (.aload_n 0, 1) := by decide +kernel
theorem dX10_chapel_162 : decode mX10_chapel.2.1 162 = .ok (.getfield 36, 3) := by decide +kernel
theorem dX10_chapel_165 : decode mX10_chapel.2.1 165 = .ok (.putfield 42, 3) := by decide +kernel
theorem dX10_chapel_168 : decode mX10_chapel.2.1 168 = .ok (.aload_n 0, 1) := by decide +kernel
theorem dX10_chapel_169 : decode mX10_chapel.2.1 169 = .ok (.aload_n 0, 1) := by decide +kernel
theorem dX10_chapel_170 : decode mX10_chapel.2.1 170 = .ok (.getfield 39, 3) := by decide +kernel
theorem dX10_chapel_173 : decode mX10_chapel.2.1 173 = .ok (.putfield 45, 3) := by decide +kernel
theorem dX10_chapel_176 : decode mX10_chapel.2.1 176 = .ok (.aload_n 0, 1) := by decide +kernel
theorem dX10_chapel_177 : decode mX10_chapel.2.1 177 = .ok (.getfield 36, 3) := by decide +kernel
theorem dX10_chapel_180 : decode mX10_chapel.2.1 180 = .ok (.ifCond .le 9, 3) := by decide +kernel
theorem dX10_chapel_183 : decode mX10_chapel.2.1 183 = .ok (.aload_n 0, 1) := by decide +kernel
theorem dX10_chapel_184 : decode mX10_chapel.2.1 184 = .ok (.iconst 1, 1) := by decide +kernel
theorem dX10_chapel_185 : decode mX10_chapel.2.1 185 = .ok (.invokevirtual 222, 3) := by decide +kernel
theorem dX10_chapel_188 : decode mX10_chapel.2.1 188 = .ok (.ireturn, 1) := by decide +kernel
theorem dX10_chapel_189 : decode mX10_chapel.2.1 189 = .ok (.aload_n 0, 1) := by decide +kernel
theorem dX10_chapel_190 : decode mX10_chapel.2.1 190 = .ok (.aload_n 0, 1) := by decide +kernel
theorem dX10_chapel_191 : decode mX10_chapel.2.1 191 = .ok (.getfield 112, 3) := by decide +kernel
theorem dX10_chapel_194 : decode mX10_chapel.2.1 194 = .ok (.putfield 51, 3) := by decide +kernel
theorem dX10_chapel_197 : decode mX10_chapel.2.1 197 = .ok (.aload_n 0, 1) := by decide +kernel
theorem dX10_chapel_198 : decode mX10_chapel.2.1 198 = .ok (.invokevirtual 399, 3) := by decide +kernel
theorem dX10_chapel_201 : decode mX10_chapel.2.1 201 = .ok (.iload_n 1, 1) := by decide +kernel
theorem dX10_chapel_202 : decode mX10_chapel.2.1 202 = .ok (.ireturn, 1) := by decide +kernel
abbrev mX10_fault : aM := (yX10_fault, cX10_fault, 2, (some .int))
theorem dX10_fault_0 : decode mX10_fault.2.1 0 = .ok (.iload_n 1, 1) := by decide +kernel
theorem dX10_fault_1 : decode mX10_fault.2.1 1 = .ok (.ifCond .ne 10, 3) := by decide +kernel
theorem dX10_fault_4 : decode mX10_fault.2.1 4 = .ok (.aload_n 0, 1) := by decide +kernel
theorem dX10_fault_5 : decode mX10_fault.2.1 5 = .ok (.getfield 42, 3) := by decide +kernel
theorem dX10_fault_8 : decode mX10_fault.2.1 8 = .ok (.goto 16, 3) := by decide +kernel
theorem dX10_fault_11 : decode mX10_fault.2.1 11 = .ok (.iload_n 1, 1) := by decide +kernel
theorem dX10_fault_12 : decode mX10_fault.2.1 12 = .ok (.iconst 1, 1) := by decide +kernel
theorem dX10_fault_13 : decode mX10_fault.2.1 13 = .ok (.if_icmp .ne 10, 3) := by decide +kernel
theorem dX10_fault_16 : decode mX10_fault.2.1 16 = .ok (.aload_n 0, 1) := by decide +kernel
theorem dX10_fault_17 : decode mX10_fault.2.1 17 = .ok (.getfield 45, 3) := by decide +kernel
theorem dX10_fault_20 : decode mX10_fault.2.1 20 = .ok (.goto 4, 3) := by decide +kernel
theorem dX10_fault_23 : decode mX10_fault.2.1 23 = .ok (.iconst (-1), 1) := by decide +kernel
theorem dX10_fault_24 : decode mX10_fault.2.1 24 = .ok (.ireturn, 1) := by decide +kernel
abbrev mX10_refuses : aM := (yX10_refuses, cX10_refuses, 2, (some .int))
theorem dX10_refuses_0 : decode mX10_refuses.2.1 0 = .ok (.aload_n 0, 1) := by decide +kernel
theorem dX10_refuses_1 : decode mX10_refuses.2.1 1 = .ok (.getfield 150, 3) := by decide +kernel
theorem dX10_refuses_4 : decode mX10_refuses.2.1 4 = .ok (.iload_n 1, 1) := by decide +kernel
theorem dX10_refuses_5 : decode mX10_refuses.2.1 5 = .ok (.dup2, 1) := by decide +kernel
theorem dX10_refuses_6 : decode mX10_refuses.2.1 6 = .ok (.iaload, 1) := by decide +kernel
theorem dX10_refuses_7 : decode mX10_refuses.2.1 7 = .ok (.iconst 1, 1) := by decide +kernel
theorem dX10_refuses_8 : decode mX10_refuses.2.1 8 = .ok (.iadd, 1) := by decide +kernel
theorem dX10_refuses_9 : decode mX10_refuses.2.1 9 = .ok (.iastore, 1) := by decide +kernel
theorem dX10_refuses_10 : decode mX10_refuses.2.1 10 = .ok (.iconst (-1), 1) := by decide +kernel
theorem dX10_refuses_11 : decode mX10_refuses.2.1 11 = .ok (.ireturn, 1) := by decide +kernel
abbrev mX10_status : aM := (yX10_status, cX10_status, 2, (some .int))
theorem dX10_status_0 : decode mX10_status.2.1 0 = .ok (.iload_n 1, 1) := by decide +kernel
theorem dX10_status_1 : decode mX10_status.2.1 1 = .ok (.iconst 0, 1) := by decide +kernel
theorem dX10_status_2 : decode mX10_status.2.1 2 = .ok (.iconst 5, 1) := by decide +kernel
theorem dX10_status_3 : decode mX10_status.2.1 3 = .ok (.invokestatic 312, 3) := by decide +kernel
theorem dX10_status_6 : decode mX10_status.2.1 6 = .ok (.ifCond .eq 12, 3) := by decide +kernel
theorem dX10_status_9 : decode mX10_status.2.1 9 = .ok (.aload_n 0, 1) := by decide +kernel
theorem dX10_status_10 : decode mX10_status.2.1 10 = .ok (.getfield 150, 3) := by decide +kernel
theorem dX10_status_13 : decode mX10_status.2.1 13 = .ok (.iload_n 1, 1) := by decide +kernel
theorem dX10_status_14 : decode mX10_status.2.1 14 = .ok (.iaload, 1) := by decide +kernel
theorem dX10_status_15 : decode mX10_status.2.1 15 = .ok (.goto 4, 3) := by decide +kernel
theorem dX10_status_18 : decode mX10_status.2.1 18 = .ok (.iconst (-1), 1) := by decide +kernel
theorem dX10_status_19 : decode mX10_status.2.1 19 = .ok (.ireturn, 1) := by decide +kernel
abbrev mX10_copies : aM := (yX10_copies, cX10_copies, 4, none)
theorem dX10_copies_0 : decode mX10_copies.2.1 0 = .ok (.aload_n 0, 1) := by decide +kernel
theorem dX10_copies_1 : decode mX10_copies.2.1 1 = .ok (.getfield 153, 3) := by decide +kernel
theorem dX10_copies_4 : decode mX10_copies.2.1 4 = .ok (.iload_n 1, 1) := by decide +kernel
theorem dX10_copies_5 : decode mX10_copies.2.1 5 = .ok (.aload_n 0, 1) := by decide +kernel
theorem dX10_copies_6 : decode mX10_copies.2.1 6 = .ok (.getfield 153, 3) := by decide +kernel
theorem dX10_copies_9 : decode mX10_copies.2.1 9 = .ok (.iload_n 2, 1) := by decide +kernel
theorem dX10_copies_10 : decode mX10_copies.2.1 10 = .ok (.iaload, 1) := by decide +kernel
theorem dX10_copies_11 : decode mX10_copies.2.1 11 = .ok (.iastore, 1) := by decide +kernel
theorem dX10_copies_12 : decode mX10_copies.2.1 12 = .ok (.aload_n 0, 1) := by decide +kernel
theorem dX10_copies_13 : decode mX10_copies.2.1 13 = .ok (.getfield 156, 3) := by decide +kernel
theorem dX10_copies_16 : decode mX10_copies.2.1 16 = .ok (.iload_n 1, 1) := by decide +kernel
theorem dX10_copies_17 : decode mX10_copies.2.1 17 = .ok (.aload_n 0, 1) := by decide +kernel
theorem dX10_copies_18 : decode mX10_copies.2.1 18 = .ok (.getfield 156, 3) := by decide +kernel
theorem dX10_copies_21 : decode mX10_copies.2.1 21 = .ok (.iload_n 2, 1) := by decide +kernel
theorem dX10_copies_22 : decode mX10_copies.2.1 22 = .ok (.iaload, 1) := by decide +kernel
theorem dX10_copies_23 : decode mX10_copies.2.1 23 = .ok (.iastore, 1) := by decide +kernel
theorem dX10_copies_24 : decode mX10_copies.2.1 24 = .ok (.aload_n 0, 1) := by decide +kernel
theorem dX10_copies_25 : decode mX10_copies.2.1 25 = .ok (.getfield 165, 3) := by decide +kernel
theorem dX10_copies_28 : decode mX10_copies.2.1 28 = .ok (.iload_n 1, 1) := by decide +kernel
theorem dX10_copies_29 : decode mX10_copies.2.1 29 = .ok (.aload_n 0, 1) := by decide +kernel
theorem dX10_copies_30 : decode mX10_copies.2.1 30 = .ok (.getfield 165, 3) := by decide +kernel
theorem dX10_copies_33 : decode mX10_copies.2.1 33 = .ok (.iload_n 2, 1) := by decide +kernel
theorem dX10_copies_34 : decode mX10_copies.2.1 34 = .ok (.iaload, 1) := by decide +kernel
theorem dX10_copies_35 : decode mX10_copies.2.1 35 = .ok (.iastore, 1) := by decide +kernel
theorem dX10_copies_36 : decode mX10_copies.2.1 36 = .ok (.iconst 0, 1) := by decide +kernel
theorem dX10_copies_37 : decode mX10_copies.2.1 37 = .ok (.istore_n 3, 1) := by decide +kernel
theorem dX10_copies_38 : decode mX10_copies.2.1 38 = .ok (.iload_n 3, 1) := by decide +kernel
theorem dX10_copies_39 : decode mX10_copies.2.1 39 = .ok (.iconst 5, 1) := by decide +kernel
theorem dX10_copies_40 : decode mX10_copies.2.1 40 = .ok (.if_icmp .ge 29, 3) := by decide +kernel
theorem dX10_copies_43 : decode mX10_copies.2.1 43 = .ok (.aload_n 0, 1) := by decide +kernel
theorem dX10_copies_44 : decode mX10_copies.2.1 44 = .ok (.getfield 159, 3) := by decide +kernel
theorem dX10_copies_47 : decode mX10_copies.2.1 47 = .ok (.iconst 5, 1) := by decide +kernel
theorem dX10_copies_48 : decode mX10_copies.2.1 48 = .ok (.iload_n 1, 1) := by decide +kernel
theorem dX10_copies_49 : decode mX10_copies.2.1 49 = .ok (.imul, 1) := by decide +kernel
theorem dX10_copies_50 : decode mX10_copies.2.1 50 = .ok (.iload_n 3, 1) := by decide +kernel
theorem dX10_copies_51 : decode mX10_copies.2.1 51 = .ok (.iadd, 1) := by decide +kernel
theorem dX10_copies_52 : decode mX10_copies.2.1 52 = .ok (.aload_n 0, 1) := by decide +kernel
theorem dX10_copies_53 : decode mX10_copies.2.1 53 = .ok (.getfield 159, 3) := by decide +kernel
theorem dX10_copies_56 : decode mX10_copies.2.1 56 = .ok (.iconst 5, 1) := by decide +kernel
theorem dX10_copies_57 : decode mX10_copies.2.1 57 = .ok (.iload_n 2, 1) := by decide +kernel
theorem dX10_copies_58 : decode mX10_copies.2.1 58 = .ok (.imul, 1) := by decide +kernel
theorem dX10_copies_59 : decode mX10_copies.2.1 59 = .ok (.iload_n 3, 1) := by decide +kernel
theorem dX10_copies_60 : decode mX10_copies.2.1 60 = .ok (.iadd, 1) := by decide +kernel
theorem dX10_copies_61 : decode mX10_copies.2.1 61 = .ok (.iaload, 1) := by decide +kernel
theorem dX10_copies_62 : decode mX10_copies.2.1 62 = .ok (.iastore, 1) := by decide +kernel
theorem dX10_copies_63 : decode mX10_copies.2.1 63 = .ok (.iinc 3 1, 3) := by decide +kernel
theorem dX10_copies_66 : decode mX10_copies.2.1 66 = .ok (.goto (-28), 3) := by decide +kernel
theorem dX10_copies_69 : decode mX10_copies.2.1 69 = .ok (.iconst 0, 1) := by decide +kernel
theorem dX10_copies_70 : decode mX10_copies.2.1 70 = .ok (.istore_n 3, 1) := by decide +kernel
theorem dX10_copies_71 : decode mX10_copies.2.1 71 = .ok (.iload_n 3, 1) := by decide +kernel
theorem dX10_copies_72 : decode mX10_copies.2.1 72 = .ok (.bipush 6, 2) := by decide +kernel
theorem dX10_copies_74 : decode mX10_copies.2.1 74 = .ok (.if_icmp .ge 31, 3) := by decide +kernel
theorem dX10_copies_77 : decode mX10_copies.2.1 77 = .ok (.aload_n 0, 1) := by decide +kernel
theorem dX10_copies_78 : decode mX10_copies.2.1 78 = .ok (.getfield 162, 3) := by decide +kernel
theorem dX10_copies_81 : decode mX10_copies.2.1 81 = .ok (.bipush 6, 2) := by decide +kernel
theorem dX10_copies_83 : decode mX10_copies.2.1 83 = .ok (.iload_n 1, 1) := by decide +kernel
theorem dX10_copies_84 : decode mX10_copies.2.1 84 = .ok (.imul, 1) := by decide +kernel
theorem dX10_copies_85 : decode mX10_copies.2.1 85 = .ok (.iload_n 3, 1) := by decide +kernel
theorem dX10_copies_86 : decode mX10_copies.2.1 86 = .ok (.iadd, 1) := by decide +kernel
theorem dX10_copies_87 : decode mX10_copies.2.1 87 = .ok (.aload_n 0, 1) := by decide +kernel
theorem dX10_copies_88 : decode mX10_copies.2.1 88 = .ok (.getfield 162, 3) := by decide +kernel
theorem dX10_copies_91 : decode mX10_copies.2.1 91 = .ok (.bipush 6, 2) := by decide +kernel
theorem dX10_copies_93 : decode mX10_copies.2.1 93 = .ok (.iload_n 2, 1) := by decide +kernel
theorem dX10_copies_94 : decode mX10_copies.2.1 94 = .ok (.imul, 1) := by decide +kernel
theorem dX10_copies_95 : decode mX10_copies.2.1 95 = .ok (.iload_n 3, 1) := by decide +kernel
theorem dX10_copies_96 : decode mX10_copies.2.1 96 = .ok (.iadd, 1) := by decide +kernel
theorem dX10_copies_97 : decode mX10_copies.2.1 97 = .ok (.iaload, 1) := by decide +kernel
theorem dX10_copies_98 : decode mX10_copies.2.1 98 = .ok (.iastore, 1) := by decide +kernel
theorem dX10_copies_99 : decode mX10_copies.2.1 99 = .ok (.iinc 3 1, 3) := by decide +kernel
theorem dX10_copies_102 : decode mX10_copies.2.1 102 = .ok (.goto (-31), 3) := by decide +kernel
theorem dX10_copies_105 : decode mX10_copies.2.1 105 = .ok (.aload_n 0, 1) := by decide +kernel
theorem dX10_copies_106 : decode mX10_copies.2.1 106 = .ok (.getfield 168, 3) := by decide +kernel
theorem dX10_copies_109 : decode mX10_copies.2.1 109 = .ok (.iload_n 1, 1) := by decide +kernel
theorem dX10_copies_110 : decode mX10_copies.2.1 110 = .ok (.aload_n 0, 1) := by decide +kernel
theorem dX10_copies_111 : decode mX10_copies.2.1 111 = .ok (.getfield 168, 3) := by decide +kernel
theorem dX10_copies_114 : decode mX10_copies.2.1 114 = .ok (.iload_n 2, 1) := by decide +kernel
theorem dX10_copies_115 : decode mX10_copies.2.1 115 = .ok (.iaload, 1) := by decide +kernel
theorem dX10_copies_116 : decode mX10_copies.2.1 116 = .ok (.iastore, 1) := by decide +kernel
theorem dX10_copies_117 : decode mX10_copies.2.1 117 = .ok (.iconst 0, 1) := by decide +kernel
theorem dX10_copies_118 : decode mX10_copies.2.1 118 = .ok (.istore_n 3, 1) := by decide +kernel
theorem dX10_copies_119 : decode mX10_copies.2.1 119 = .ok (.iload_n 3, 1) := by decide +kernel
theorem dX10_copies_120 : decode mX10_copies.2.1 120 = .ok (.iconst 4, 1) := by decide +kernel
theorem dX10_copies_121 : decode mX10_copies.2.1 121 = .ok (.aload_n 0, 1) := by decide +kernel
theorem dX10_copies_122 : decode mX10_copies.2.1 122 = .ok (.getfield 168, 3) := by decide +kernel
theorem dX10_copies_125 : decode mX10_copies.2.1 125 = .ok (.iload_n 2, 1) := by decide +kernel
theorem dX10_copies_126 : decode mX10_copies.2.1 126 = .ok (.iaload, 1) := by decide +kernel
theorem dX10_copies_127 : decode mX10_copies.2.1 127 = .ok (.imul, 1) := by decide +kernel
theorem dX10_copies_128 : decode mX10_copies.2.1 128 = .ok (.if_icmp .ge 33, 3) := by decide +kernel
theorem dX10_copies_131 : decode mX10_copies.2.1 131 = .ok (.aload_n 0, 1) := by decide +kernel
theorem dX10_copies_132 : decode mX10_copies.2.1 132 = .ok (.getfield 171, 3) := by decide +kernel
theorem dX10_copies_135 : decode mX10_copies.2.1 135 = .ok (.sipush 160, 3) := by decide +kernel
theorem dX10_copies_138 : decode mX10_copies.2.1 138 = .ok (.iload_n 1, 1) := by decide +kernel
theorem dX10_copies_139 : decode mX10_copies.2.1 139 = .ok (.imul, 1) := by decide +kernel
theorem dX10_copies_140 : decode mX10_copies.2.1 140 = .ok (.iload_n 3, 1) := by decide +kernel
theorem dX10_copies_141 : decode mX10_copies.2.1 141 = .ok (.iadd, 1) := by decide +kernel
theorem dX10_copies_142 : decode mX10_copies.2.1 142 = .ok (.aload_n 0, 1) := by decide +kernel
theorem dX10_copies_143 : decode mX10_copies.2.1 143 = .ok (.getfield 171, 3) := by decide +kernel
theorem dX10_copies_146 : decode mX10_copies.2.1 146 = .ok (.sipush 160, 3) := by decide +kernel
theorem dX10_copies_149 : decode mX10_copies.2.1 149 = .ok (.iload_n 2, 1) := by decide +kernel
theorem dX10_copies_150 : decode mX10_copies.2.1 150 = .ok (.imul, 1) := by decide +kernel
theorem dX10_copies_151 : decode mX10_copies.2.1 151 = .ok (.iload_n 3, 1) := by decide +kernel
theorem dX10_copies_152 : decode mX10_copies.2.1 152 = .ok (.iadd, 1) := by decide +kernel
theorem dX10_copies_153 : decode mX10_copies.2.1 153 = .ok (.iaload, 1) := by decide +kernel
theorem dX10_copies_154 : decode mX10_copies.2.1 154 = .ok (.iastore, 1) := by decide +kernel
theorem dX10_copies_155 : decode mX10_copies.2.1 155 = .ok (.iinc 3 1, 3) := by decide +kernel
theorem dX10_copies_158 : decode mX10_copies.2.1 158 = .ok (.goto (-39), 3) := by decide +kernel
theorem dX10_copies_161 : decode mX10_copies.2.1 161 = .ok (.return_, 1) := by decide +kernel
abbrev mX10_begin : aM := (yX10_begin, cX10_begin, 2, none)
theorem dX10_begin_0 : decode mX10_begin.2.1 0 = .ok (.aload_n 0, 1) := by decide +kernel
theorem dX10_begin_1 : decode mX10_begin.2.1 1 = .ok (.getfield 153, 3) := by decide +kernel
theorem dX10_begin_4 : decode mX10_begin.2.1 4 = .ok (.iconst 0, 1) := by decide +kernel
theorem dX10_begin_5 : decode mX10_begin.2.1 5 = .ok (.iconst 0, 1) := by decide +kernel
theorem dX10_begin_6 : decode mX10_begin.2.1 6 = .ok (.iastore, 1) := by decide +kernel
theorem dX10_begin_7 : decode mX10_begin.2.1 7 = .ok (.aload_n 0, 1) := by decide +kernel
theorem dX10_begin_8 : decode mX10_begin.2.1 8 = .ok (.getfield 156, 3) := by decide +kernel
theorem dX10_begin_11 : decode mX10_begin.2.1 11 = .ok (.iconst 0, 1) := by decide +kernel
theorem dX10_begin_12 : decode mX10_begin.2.1 12 = .ok (.aload_n 0, 1) := by decide +kernel
theorem dX10_begin_13 : decode mX10_begin.2.1 13 = .ok (.getfield 81, 3) := by decide +kernel
theorem dX10_begin_16 : decode mX10_begin.2.1 16 = .ok (.aload_n 0, 1) := by decide +kernel
theorem dX10_begin_17 : decode mX10_begin.2.1 17 = .ok (.getfield 51, 3) := by decide +kernel
theorem dX10_begin_20 : decode mX10_begin.2.1 20 = .ok (.iaload, 1) := by decide +kernel
theorem dX10_begin_21 : decode mX10_begin.2.1 21 = .ok (.iastore, 1) := by decide +kernel
theorem dX10_begin_22 : decode mX10_begin.2.1 22 = .ok (.aload_n 0, 1) := by decide +kernel
theorem dX10_begin_23 : decode mX10_begin.2.1 23 = .ok (.getfield 165, 3) := by decide +kernel
theorem dX10_begin_26 : decode mX10_begin.2.1 26 = .ok (.iconst 0, 1) := by decide +kernel
theorem dX10_begin_27 : decode mX10_begin.2.1 27 = .ok (.iconst 0, 1) := by decide +kernel
theorem dX10_begin_28 : decode mX10_begin.2.1 28 = .ok (.iastore, 1) := by decide +kernel
theorem dX10_begin_29 : decode mX10_begin.2.1 29 = .ok (.iconst 0, 1) := by decide +kernel
theorem dX10_begin_30 : decode mX10_begin.2.1 30 = .ok (.istore_n 1, 1) := by decide +kernel
theorem dX10_begin_31 : decode mX10_begin.2.1 31 = .ok (.iload_n 1, 1) := by decide +kernel
theorem dX10_begin_32 : decode mX10_begin.2.1 32 = .ok (.iconst 5, 1) := by decide +kernel
theorem dX10_begin_33 : decode mX10_begin.2.1 33 = .ok (.if_icmp .ge 28, 3) := by decide +kernel
theorem dX10_begin_36 : decode mX10_begin.2.1 36 = .ok (.aload_n 0, 1) := by decide +kernel
theorem dX10_begin_37 : decode mX10_begin.2.1 37 = .ok (.getfield 159, 3) := by decide +kernel
theorem dX10_begin_40 : decode mX10_begin.2.1 40 = .ok (.iload_n 1, 1) := by decide +kernel
theorem dX10_begin_41 : decode mX10_begin.2.1 41 = .ok (.aload_n 0, 1) := by decide +kernel
theorem dX10_begin_42 : decode mX10_begin.2.1 42 = .ok (.getfield 60, 3) := by decide +kernel
theorem dX10_begin_45 : decode mX10_begin.2.1 45 = .ok (.iconst 5, 1) := by decide +kernel
theorem dX10_begin_46 : decode mX10_begin.2.1 46 = .ok (.aload_n 0, 1) := by decide +kernel
theorem dX10_begin_47 : decode mX10_begin.2.1 47 = .ok (.getfield 51, 3) := by decide +kernel
theorem dX10_begin_50 : decode mX10_begin.2.1 50 = .ok (.imul, 1) := by decide +kernel
theorem dX10_begin_51 : decode mX10_begin.2.1 51 = .ok (.iload_n 1, 1) := by decide +kernel
theorem dX10_begin_52 : decode mX10_begin.2.1 52 = .ok (.iadd, 1) := by decide +kernel
theorem dX10_begin_53 : decode mX10_begin.2.1 53 = .ok (.iaload, 1) := by decide +kernel
theorem dX10_begin_54 : decode mX10_begin.2.1 54 = .ok (.iastore, 1) := by decide +kernel
theorem dX10_begin_55 : decode mX10_begin.2.1 55 = .ok (.iinc 1 1, 3) := by decide +kernel
theorem dX10_begin_58 : decode mX10_begin.2.1 58 = .ok (.goto (-27), 3) := by decide +kernel
theorem dX10_begin_61 : decode mX10_begin.2.1 61 = .ok (.iconst 0, 1) := by decide +kernel
theorem dX10_begin_62 : decode mX10_begin.2.1 62 = .ok (.istore_n 1, 1) := by decide +kernel
theorem dX10_begin_63 : decode mX10_begin.2.1 63 = .ok (.iload_n 1, 1) := by decide +kernel
theorem dX10_begin_64 : decode mX10_begin.2.1 64 = .ok (.bipush 6, 2) := by decide +kernel
theorem dX10_begin_66 : decode mX10_begin.2.1 66 = .ok (.if_icmp .ge 29, 3) := by decide +kernel
theorem dX10_begin_69 : decode mX10_begin.2.1 69 = .ok (.aload_n 0, 1) := by decide +kernel
theorem dX10_begin_70 : decode mX10_begin.2.1 70 = .ok (.getfield 162, 3) := by decide +kernel
theorem dX10_begin_73 : decode mX10_begin.2.1 73 = .ok (.iload_n 1, 1) := by decide +kernel
theorem dX10_begin_74 : decode mX10_begin.2.1 74 = .ok (.aload_n 0, 1) := by decide +kernel
theorem dX10_begin_75 : decode mX10_begin.2.1 75 = .ok (.getfield 66, 3) := by decide +kernel
theorem dX10_begin_78 : decode mX10_begin.2.1 78 = .ok (.bipush 6, 2) := by decide +kernel
theorem dX10_begin_80 : decode mX10_begin.2.1 80 = .ok (.aload_n 0, 1) := by decide +kernel
theorem dX10_begin_81 : decode mX10_begin.2.1 81 = .ok (.getfield 51, 3) := by decide +kernel
theorem dX10_begin_84 : decode mX10_begin.2.1 84 = .ok (.imul, 1) := by decide +kernel
theorem dX10_begin_85 : decode mX10_begin.2.1 85 = .ok (.iload_n 1, 1) := by decide +kernel
theorem dX10_begin_86 : decode mX10_begin.2.1 86 = .ok (.iadd, 1) := by decide +kernel
theorem dX10_begin_87 : decode mX10_begin.2.1 87 = .ok (.iaload, 1) := by decide +kernel
theorem dX10_begin_88 : decode mX10_begin.2.1 88 = .ok (.iastore, 1) := by decide +kernel
theorem dX10_begin_89 : decode mX10_begin.2.1 89 = .ok (.iinc 1 1, 3) := by decide +kernel
theorem dX10_begin_92 : decode mX10_begin.2.1 92 = .ok (.goto (-29), 3) := by decide +kernel
theorem dX10_begin_95 : decode mX10_begin.2.1 95 = .ok (.aload_n 0, 1) := by decide +kernel
theorem dX10_begin_96 : decode mX10_begin.2.1 96 = .ok (.getfield 168, 3) := by decide +kernel
theorem dX10_begin_99 : decode mX10_begin.2.1 99 = .ok (.iconst 0, 1) := by decide +kernel
theorem dX10_begin_100 : decode mX10_begin.2.1 100 = .ok (.iconst 0, 1) := by decide +kernel
theorem dX10_begin_101 : decode mX10_begin.2.1 101 = .ok (.iastore, 1) := by decide +kernel
theorem dX10_begin_102 : decode mX10_begin.2.1 102 = .ok (.aload_n 0, 1) := by decide +kernel
theorem dX10_begin_103 : decode mX10_begin.2.1 103 = .ok (.iconst 0, 1) := by decide +kernel
theorem dX10_begin_104 : decode mX10_begin.2.1 104 = .ok (.putfield 177, 3) := by decide +kernel
theorem dX10_begin_107 : decode mX10_begin.2.1 107 = .ok (.aload_n 0, 1) := by decide +kernel
theorem dX10_begin_108 : decode mX10_begin.2.1 108 = .ok (.iconst 0, 1) := by decide +kernel
theorem dX10_begin_109 : decode mX10_begin.2.1 109 = .ok (.putfield 201, 3) := by decide +kernel
theorem dX10_begin_112 : decode mX10_begin.2.1 112 = .ok (.return_, 1) := by decide +kernel
abbrev mX10_slot : aM := (yX10_slot, cX10_slot, 2, (some .int))
theorem dX10_slot_0 : decode mX10_slot.2.1 0 = .ok (.iconst 2, 1) := by decide +kernel
theorem dX10_slot_1 : decode mX10_slot.2.1 1 = .ok (.aload_n 0, 1) := by decide +kernel
theorem dX10_slot_2 : decode mX10_slot.2.1 2 = .ok (.getfield 174, 3) := by decide +kernel
theorem dX10_slot_5 : decode mX10_slot.2.1 5 = .ok (.iload_n 1, 1) := by decide +kernel
theorem dX10_slot_6 : decode mX10_slot.2.1 6 = .ok (.iadd, 1) := by decide +kernel
theorem dX10_slot_7 : decode mX10_slot.2.1 7 = .ok (.bipush 20, 2) := by decide +kernel
theorem dX10_slot_9 : decode mX10_slot.2.1 9 = .ok (.irem, 1) := by decide +kernel
theorem dX10_slot_10 : decode mX10_slot.2.1 10 = .ok (.iadd, 1) := by decide +kernel
theorem dX10_slot_11 : decode mX10_slot.2.1 11 = .ok (.ireturn, 1) := by decide +kernel
abbrev mX10_keeps : aM := (yX10_keeps, cX10_keeps, 1, none)
theorem dX10_keeps_0 : decode mX10_keeps.2.1 0 = .ok (.aload_n 0, 1) := by decide +kernel
theorem dX10_keeps_1 : decode mX10_keeps.2.1 1 = .ok (.getfield 177, 3) := by decide +kernel
theorem dX10_keeps_4 : decode mX10_keeps.2.1 4 = .ok (.bipush 20, 2) := by decide +kernel
theorem dX10_keeps_6 : decode mX10_keeps.2.1 6 = .ok (.if_icmp .ne 26, 3) := by decide +kernel
theorem dX10_keeps_9 : decode mX10_keeps.2.1 9 = .ok (.aload_n 0, 1) := by decide +kernel
theorem dX10_keeps_10 : decode mX10_keeps.2.1 10 = .ok (.aload_n 0, 1) := by decide +kernel
theorem dX10_keeps_11 : decode mX10_keeps.2.1 11 = .ok (.getfield 174, 3) := by decide +kernel
theorem dX10_keeps_14 : decode mX10_keeps.2.1 14 = .ok (.iconst 1, 1) := by decide +kernel
theorem dX10_keeps_15 : decode mX10_keeps.2.1 15 = .ok (.iadd, 1) := by decide +kernel
theorem dX10_keeps_16 : decode mX10_keeps.2.1 16 = .ok (.bipush 20, 2) := by decide +kernel
theorem dX10_keeps_18 : decode mX10_keeps.2.1 18 = .ok (.irem, 1) := by decide +kernel
theorem dX10_keeps_19 : decode mX10_keeps.2.1 19 = .ok (.putfield 174, 3) := by decide +kernel
theorem dX10_keeps_22 : decode mX10_keeps.2.1 22 = .ok (.aload_n 0, 1) := by decide +kernel
theorem dX10_keeps_23 : decode mX10_keeps.2.1 23 = .ok (.dup, 1) := by decide +kernel
theorem dX10_keeps_24 : decode mX10_keeps.2.1 24 = .ok (.getfield 177, 3) := by decide +kernel
theorem dX10_keeps_27 : decode mX10_keeps.2.1 27 = .ok (.iconst 1, 1) := by decide +kernel
theorem dX10_keeps_28 : decode mX10_keeps.2.1 28 = .ok (.isub, 1) := by decide +kernel
theorem dX10_keeps_29 : decode mX10_keeps.2.1 29 = .ok (.putfield 177, 3) := by decide +kernel
theorem dX10_keeps_32 : decode mX10_keeps.2.1 32 = .ok (.aload_n 0, 1) := by decide +kernel
theorem dX10_keeps_33 : decode mX10_keeps.2.1 33 = .ok (.aload_n 0, 1) := by decide +kernel
theorem dX10_keeps_34 : decode mX10_keeps.2.1 34 = .ok (.aload_n 0, 1) := by decide +kernel
theorem dX10_keeps_35 : decode mX10_keeps.2.1 35 = .ok (.getfield 177, 3) := by decide +kernel
theorem dX10_keeps_38 : decode mX10_keeps.2.1 38 = .ok (.invokevirtual 402, 3) := by decide +kernel
theorem dX10_keeps_41 : decode mX10_keeps.2.1 41 = .ok (.iconst 0, 1) := by decide +kernel
theorem dX10_keeps_42 : decode mX10_keeps.2.1 42 = .ok (.invokevirtual 405, 3) := by decide +kernel
theorem dX10_keeps_45 : decode mX10_keeps.2.1 45 = .ok (.aload_n 0, 1) := by decide +kernel
theorem dX10_keeps_46 : decode mX10_keeps.2.1 46 = .ok (.dup, 1) := by decide +kernel
theorem dX10_keeps_47 : decode mX10_keeps.2.1 47 = .ok (.getfield 177, 3) := by decide +kernel
theorem dX10_keeps_50 : decode mX10_keeps.2.1 50 = .ok (.iconst 1, 1) := by decide +kernel
theorem dX10_keeps_51 : decode mX10_keeps.2.1 51 = .ok (.iadd, 1) := by decide +kernel
theorem dX10_keeps_52 : decode mX10_keeps.2.1 52 = .ok (.putfield 177, 3) := by decide +kernel
theorem dX10_keeps_55 : decode mX10_keeps.2.1 55 = .ok (.return_, 1) := by decide +kernel
abbrev mX10_undo : aM := (yX10_undo, cX10_undo, 1, (some .boolean))
theorem dX10_undo_0 : decode mX10_undo.2.1 0 = .ok (.aload_n 0, 1) := by decide +kernel
theorem dX10_undo_1 : decode mX10_undo.2.1 1 = .ok (.getfield 177, 3) := by decide +kernel
theorem dX10_undo_4 : decode mX10_undo.2.1 4 = .ok (.ifCond .ne 17, 3) := by decide +kernel
theorem dX10_undo_7 : decode mX10_undo.2.1 7 = .ok (.aload_n 0, 1) := by decide +kernel
theorem dX10_undo_8 : decode mX10_undo.2.1 8 = .ok (.iconst 4, 1) := by decide +kernel
theorem dX10_undo_9 : decode mX10_undo.2.1 9 = .ok (.invokevirtual 222, 3) := by decide +kernel
theorem dX10_undo_12 : decode mX10_undo.2.1 12 = .ok (.ifCond .lt 7, 3) := by decide +kernel
theorem dX10_undo_15 : decode mX10_undo.2.1 15 = .ok (.iconst 1, 1) := by decide +kernel
theorem dX10_undo_16 : decode mX10_undo.2.1 16 = .ok (.goto 4, 3) := by decide +kernel
theorem dX10_undo_19 : decode mX10_undo.2.1 19 = .ok (.iconst 0, 1) := by decide +kernel
theorem dX10_undo_20 : decode mX10_undo.2.1 20 = .ok (.ireturn, 1) := by decide +kernel
theorem dX10_undo_21 : decode mX10_undo.2.1 21 = .ok (.aload_n 0, 1) := by decide +kernel
theorem dX10_undo_22 : decode mX10_undo.2.1 22 = .ok (.dup, 1) := by decide +kernel
theorem dX10_undo_23 : decode mX10_undo.2.1 23 = .ok (.getfield 177, 3) := by decide +kernel
theorem dX10_undo_26 : decode mX10_undo.2.1 26 = .ok (.iconst 1, 1) := by decide +kernel
theorem dX10_undo_27 : decode mX10_undo.2.1 27 = .ok (.isub, 1) := by decide +kernel
theorem dX10_undo_28 : decode mX10_undo.2.1 28 = .ok (.putfield 177, 3) := by decide +kernel
theorem dX10_undo_31 : decode mX10_undo.2.1 31 = .ok (.aload_n 0, 1) := by decide +kernel
theorem dX10_undo_32 : decode mX10_undo.2.1 32 = .ok (.iconst 0, 1) := by decide +kernel
theorem dX10_undo_33 : decode mX10_undo.2.1 33 = .ok (.aload_n 0, 1) := by decide +kernel
theorem dX10_undo_34 : decode mX10_undo.2.1 34 = .ok (.aload_n 0, 1) := by decide +kernel
theorem dX10_undo_35 : decode mX10_undo.2.1 35 = .ok (.getfield 177, 3) := by decide +kernel
theorem dX10_undo_38 : decode mX10_undo.2.1 38 = .ok (.invokevirtual 402, 3) := by decide +kernel
theorem dX10_undo_41 : decode mX10_undo.2.1 41 = .ok (.invokevirtual 405, 3) := by decide +kernel
theorem dX10_undo_44 : decode mX10_undo.2.1 44 = .ok (.iconst 1, 1) := by decide +kernel
theorem dX10_undo_45 : decode mX10_undo.2.1 45 = .ok (.ireturn, 1) := by decide +kernel
abbrev mX10_within : aM := (yX10_within, cX10_within, 2, (some .long))
theorem dX10_within_0 : decode mX10_within.2.1 0 = .ok (.lload_n 0, 1) := by decide +kernel
theorem dX10_within_1 : decode mX10_within.2.1 1 = .ok (.ldc2_w 408, 3) := by decide +kernel
theorem dX10_within_4 : decode mX10_within.2.1 4 = .ok (.lcmp, 1) := by decide +kernel
theorem dX10_within_5 : decode mX10_within.2.1 5 = .ok (.ifCond .le 9, 3) := by decide +kernel
theorem dX10_within_8 : decode mX10_within.2.1 8 = .ok (.ldc2_w 408, 3) := by decide +kernel
theorem dX10_within_11 : decode mX10_within.2.1 11 = .ok (.goto 18, 3) := by decide +kernel
theorem dX10_within_14 : decode mX10_within.2.1 14 = .ok (.lload_n 0, 1) := by decide +kernel
theorem dX10_within_15 : decode mX10_within.2.1 15 = .ok (.ldc2_w 410, 3) := by decide +kernel
theorem dX10_within_18 : decode mX10_within.2.1 18 = .ok (.lcmp, 1) := by decide +kernel
theorem dX10_within_19 : decode mX10_within.2.1 19 = .ok (.ifCond .ge 9, 3) := by decide +kernel
theorem dX10_within_22 : decode mX10_within.2.1 22 = .ok (.ldc2_w 410, 3) := by decide +kernel
theorem dX10_within_25 : decode mX10_within.2.1 25 = .ok (.goto 4, 3) := by decide +kernel
theorem dX10_within_28 : decode mX10_within.2.1 28 = .ok (.lload_n 0, 1) := by decide +kernel
theorem dX10_within_29 : decode mX10_within.2.1 29 = .ok (.lreturn, 1) := by decide +kernel
abbrev mX10_floor : aM := (yX10_floor, cX10_floor, 6, (some .long))
theorem dX10_floor_0 : decode mX10_floor.2.1 0 = .ok (.lload_n 2, 1) := by decide +kernel
theorem dX10_floor_1 : decode mX10_floor.2.1 1 = .ok (.lconst 0, 1) := by decide +kernel
theorem dX10_floor_2 : decode mX10_floor.2.1 2 = .ok (.lcmp, 1) := by decide +kernel
theorem dX10_floor_3 : decode mX10_floor.2.1 3 = .ok (.ifCond .ne 5, 3) := by decide +kernel
theorem dX10_floor_6 : decode mX10_floor.2.1 6 = .ok (.lconst 0, 1) := by decide +kernel
theorem dX10_floor_7 : decode mX10_floor.2.1 7 = .ok (.lreturn, 1) := by decide +kernel
theorem dX10_floor_8 : decode mX10_floor.2.1 8 = .ok (.lload_n 0, 1) := by decide +kernel
theorem dX10_floor_9 : decode mX10_floor.2.1 9 = .ok (.lload_n 2, 1) := by decide +kernel
theorem dX10_floor_10 : decode mX10_floor.2.1 10 = .ok (.ldiv, 1) := by decide +kernel
theorem dX10_floor_11 : decode mX10_floor.2.1 11 = .ok (.lstore 4, 2) := by decide +kernel
theorem dX10_floor_13 : decode mX10_floor.2.1 13 = .ok (.lload_n 0, 1) := by decide +kernel
theorem dX10_floor_14 : decode mX10_floor.2.1 14 = .ok (.lload_n 2, 1) := by decide +kernel
theorem dX10_floor_15 : decode mX10_floor.2.1 15 = .ok (.lrem, 1) := by decide +kernel
theorem dX10_floor_16 : decode mX10_floor.2.1 16 = .ok (.lconst 0, 1) := by decide +kernel
theorem dX10_floor_17 : decode mX10_floor.2.1 17 = .ok (.lcmp, 1) := by decide +kernel
theorem dX10_floor_18 : decode mX10_floor.2.1 18 = .ok (.ifCond .eq 35, 3) := by decide +kernel
theorem dX10_floor_21 : decode mX10_floor.2.1 21 = .ok (.lload_n 0, 1) := by decide +kernel
theorem dX10_floor_22 : decode mX10_floor.2.1 22 = .ok (.lconst 0, 1) := by decide +kernel
theorem dX10_floor_23 : decode mX10_floor.2.1 23 = .ok (.lcmp, 1) := by decide +kernel
theorem dX10_floor_24 : decode mX10_floor.2.1 24 = .ok (.ifCond .ge 7, 3) := by decide +kernel
theorem dX10_floor_27 : decode mX10_floor.2.1 27 = .ok (.iconst 1, 1) := by decide +kernel
theorem dX10_floor_28 : decode mX10_floor.2.1 28 = .ok (.goto 4, 3) := by decide +kernel
theorem dX10_floor_31 : decode mX10_floor.2.1 31 = .ok (.iconst 0, 1) := by decide +kernel
theorem dX10_floor_32 : decode mX10_floor.2.1 32 = .ok (.lload_n 2, 1) := by decide +kernel
theorem dX10_floor_33 : decode mX10_floor.2.1 33 = .ok (.lconst 0, 1) := by decide +kernel
theorem dX10_floor_34 : decode mX10_floor.2.1 34 = .ok (.lcmp, 1) := by decide +kernel
theorem dX10_floor_35 : decode mX10_floor.2.1 35 = .ok (.ifCond .ge 7, 3) := by decide +kernel
theorem dX10_floor_38 : decode mX10_floor.2.1 38 = .ok (.iconst 1, 1) := by decide +kernel
theorem dX10_floor_39 : decode mX10_floor.2.1 39 = .ok (.goto 4, 3) := by decide +kernel
theorem dX10_floor_42 : decode mX10_floor.2.1 42 = .ok (.iconst 0, 1) := by decide +kernel
theorem dX10_floor_43 : decode mX10_floor.2.1 43 = .ok (.if_icmp .eq 10, 3) := by decide +kernel
theorem dX10_floor_46 : decode mX10_floor.2.1 46 = .ok (.lload 4, 2) := by decide +kernel
theorem dX10_floor_48 : decode mX10_floor.2.1 48 = .ok (.lconst 1, 1) := by decide +kernel
theorem dX10_floor_49 : decode mX10_floor.2.1 49 = .ok (.lsub, 1) := by decide +kernel
theorem dX10_floor_50 : decode mX10_floor.2.1 50 = .ok (.goto 5, 3) := by decide +kernel
theorem dX10_floor_53 : decode mX10_floor.2.1 53 = .ok (.lload 4, 2) := by decide +kernel
theorem dX10_floor_55 : decode mX10_floor.2.1 55 = .ok (.lreturn, 1) := by decide +kernel
abbrev mX10_two : aM := (yX10_two, cX10_two, 5, (some .long))
theorem dX10_two_0 : decode mX10_two.2.1 0 = .ok (.iload_n 0, 1) := by decide +kernel
theorem dX10_two_1 : decode mX10_two.2.1 1 = .ok (.tableswitch 176 31 41 #[59, 66, 73, 80, 89, 112, 124, 136, 148, 160, 172], 59) := by decide +kernel
theorem dX10_two_60 : decode mX10_two.2.1 60 = .ok (.lload_n 1, 1) := by decide +kernel
theorem dX10_two_61 : decode mX10_two.2.1 61 = .ok (.lload_n 3, 1) := by decide +kernel
theorem dX10_two_62 : decode mX10_two.2.1 62 = .ok (.ladd, 1) := by decide +kernel
theorem dX10_two_63 : decode mX10_two.2.1 63 = .ok (.invokestatic 412, 3) := by decide +kernel
theorem dX10_two_66 : decode mX10_two.2.1 66 = .ok (.lreturn, 1) := by decide +kernel
theorem dX10_two_67 : decode mX10_two.2.1 67 = .ok (.lload_n 1, 1) := by decide +kernel
theorem dX10_two_68 : decode mX10_two.2.1 68 = .ok (.lload_n 3, 1) := by decide +kernel
theorem dX10_two_69 : decode mX10_two.2.1 69 = .ok (.lsub, 1) := by decide +kernel
theorem dX10_two_70 : decode mX10_two.2.1 70 = .ok (.invokestatic 412, 3) := by decide +kernel
theorem dX10_two_73 : decode mX10_two.2.1 73 = .ok (.lreturn, 1) := by decide +kernel
theorem dX10_two_74 : decode mX10_two.2.1 74 = .ok (.lload_n 1, 1) := by decide +kernel
theorem dX10_two_75 : decode mX10_two.2.1 75 = .ok (.lload_n 3, 1) := by decide +kernel
theorem dX10_two_76 : decode mX10_two.2.1 76 = .ok (.lmul, 1) := by decide +kernel
theorem dX10_two_77 : decode mX10_two.2.1 77 = .ok (.invokestatic 412, 3) := by decide +kernel
theorem dX10_two_80 : decode mX10_two.2.1 80 = .ok (.lreturn, 1) := by decide +kernel
theorem dX10_two_81 : decode mX10_two.2.1 81 = .ok (.lload_n 1, 1) := by decide +kernel
theorem dX10_two_82 : decode mX10_two.2.1 82 = .ok (.lload_n 3, 1) := by decide +kernel
theorem dX10_two_83 : decode mX10_two.2.1 83 = .ok (.invokestatic 416, 3) := by decide +kernel
theorem dX10_two_86 : decode mX10_two.2.1 86 = .ok (.invokestatic 412, 3) := by decide +kernel
theorem dX10_two_89 : decode mX10_two.2.1 89 = .ok (.lreturn, 1) := by decide +kernel
theorem dX10_two_90 : decode mX10_two.2.1 90 = .ok (.lload_n 3, 1) := by decide +kernel
theorem dX10_two_91 : decode mX10_two.2.1 91 = .ok (.lconst 0, 1) := by decide +kernel
theorem dX10_two_92 : decode mX10_two.2.1 92 = .ok (.lcmp, 1) := by decide +kernel
theorem dX10_two_93 : decode mX10_two.2.1 93 = .ok (.ifCond .ne 7, 3) := by decide +kernel
theorem dX10_two_96 : decode mX10_two.2.1 96 = .ok (.lconst 0, 1) := by decide +kernel
theorem dX10_two_97 : decode mX10_two.2.1 97 = .ok (.goto 15, 3) := by decide +kernel
theorem dX10_two_100 : decode mX10_two.2.1 100 = .ok (.lload_n 1, 1) := by decide +kernel
theorem dX10_two_101 : decode mX10_two.2.1 101 = .ok (.lload_n 3, 1) := by decide +kernel
theorem dX10_two_102 : decode mX10_two.2.1 102 = .ok (.lload_n 1, 1) := by decide +kernel
theorem dX10_two_103 : decode mX10_two.2.1 103 = .ok (.lload_n 3, 1) := by decide +kernel
theorem dX10_two_104 : decode mX10_two.2.1 104 = .ok (.invokestatic 416, 3) := by decide +kernel
theorem dX10_two_107 : decode mX10_two.2.1 107 = .ok (.lmul, 1) := by decide +kernel
theorem dX10_two_108 : decode mX10_two.2.1 108 = .ok (.lsub, 1) := by decide +kernel
theorem dX10_two_109 : decode mX10_two.2.1 109 = .ok (.invokestatic 412, 3) := by decide +kernel
theorem dX10_two_112 : decode mX10_two.2.1 112 = .ok (.lreturn, 1) := by decide +kernel
theorem dX10_two_113 : decode mX10_two.2.1 113 = .ok (.lload_n 1, 1) := by decide +kernel
theorem dX10_two_114 : decode mX10_two.2.1 114 = .ok (.lload_n 3, 1) := by decide +kernel
theorem dX10_two_115 : decode mX10_two.2.1 115 = .ok (.lcmp, 1) := by decide +kernel
theorem dX10_two_116 : decode mX10_two.2.1 116 = .ok (.ifCond .ge 7, 3) := by decide +kernel
theorem dX10_two_119 : decode mX10_two.2.1 119 = .ok (.lload_n 1, 1) := by decide +kernel
theorem dX10_two_120 : decode mX10_two.2.1 120 = .ok (.goto 4, 3) := by decide +kernel
theorem dX10_two_123 : decode mX10_two.2.1 123 = .ok (.lload_n 3, 1) := by decide +kernel
theorem dX10_two_124 : decode mX10_two.2.1 124 = .ok (.lreturn, 1) := by decide +kernel
theorem dX10_two_125 : decode mX10_two.2.1 125 = .ok (.lload_n 1, 1) := by decide +kernel
theorem dX10_two_126 : decode mX10_two.2.1 126 = .ok (.lload_n 3, 1) := by decide +kernel
theorem dX10_two_127 : decode mX10_two.2.1 127 = .ok (.lcmp, 1) := by decide +kernel
theorem dX10_two_128 : decode mX10_two.2.1 128 = .ok (.ifCond .le 7, 3) := by decide +kernel
theorem dX10_two_131 : decode mX10_two.2.1 131 = .ok (.lload_n 1, 1) := by decide +kernel
theorem dX10_two_132 : decode mX10_two.2.1 132 = .ok (.goto 4, 3) := by decide +kernel
theorem dX10_two_135 : decode mX10_two.2.1 135 = .ok (.lload_n 3, 1) := by decide +kernel
theorem dX10_two_136 : decode mX10_two.2.1 136 = .ok (.lreturn, 1) := by decide +kernel
theorem dX10_two_137 : decode mX10_two.2.1 137 = .ok (.lload_n 1, 1) := by decide +kernel
theorem dX10_two_138 : decode mX10_two.2.1 138 = .ok (.lload_n 3, 1) := by decide +kernel
theorem dX10_two_139 : decode mX10_two.2.1 139 = .ok (.lcmp, 1) := by decide +kernel
theorem dX10_two_140 : decode mX10_two.2.1 140 = .ok (.ifCond .ge 7, 3) := by decide +kernel
theorem dX10_two_143 : decode mX10_two.2.1 143 = .ok (.lconst 1, 1) := by decide +kernel
theorem dX10_two_144 : decode mX10_two.2.1 144 = .ok (.goto 4, 3) := by decide +kernel
theorem dX10_two_147 : decode mX10_two.2.1 147 = .ok (.lconst 0, 1) := by decide +kernel
theorem dX10_two_148 : decode mX10_two.2.1 148 = .ok (.lreturn, 1) := by decide +kernel
theorem dX10_two_149 : decode mX10_two.2.1 149 = .ok (.lload_n 1, 1) := by decide +kernel
theorem dX10_two_150 : decode mX10_two.2.1 150 = .ok (.lload_n 3, 1) := by decide +kernel
theorem dX10_two_151 : decode mX10_two.2.1 151 = .ok (.lcmp, 1) := by decide +kernel
theorem dX10_two_152 : decode mX10_two.2.1 152 = .ok (.ifCond .le 7, 3) := by decide +kernel
theorem dX10_two_155 : decode mX10_two.2.1 155 = .ok (.lconst 1, 1) := by decide +kernel
theorem dX10_two_156 : decode mX10_two.2.1 156 = .ok (.goto 4, 3) := by decide +kernel
theorem dX10_two_159 : decode mX10_two.2.1 159 = .ok (.lconst 0, 1) := by decide +kernel
theorem dX10_two_160 : decode mX10_two.2.1 160 = .ok (.lreturn, 1) := by decide +kernel
theorem dX10_two_161 : decode mX10_two.2.1 161 = .ok (.lload_n 1, 1) := by decide +kernel
theorem dX10_two_162 : decode mX10_two.2.1 162 = .ok (.lload_n 3, 1) := by decide +kernel
theorem dX10_two_163 : decode mX10_two.2.1 163 = .ok (.lcmp, 1) := by decide +kernel
theorem dX10_two_164 : decode mX10_two.2.1 164 = .ok (.ifCond .ne 7, 3) := by decide +kernel
theorem dX10_two_167 : decode mX10_two.2.1 167 = .ok (.lconst 1, 1) := by decide +kernel
theorem dX10_two_168 : decode mX10_two.2.1 168 = .ok (.goto 4, 3) := by decide +kernel
theorem dX10_two_171 : decode mX10_two.2.1 171 = .ok (.lconst 0, 1) := by decide +kernel
theorem dX10_two_172 : decode mX10_two.2.1 172 = .ok (.lreturn, 1) := by decide +kernel
theorem dX10_two_173 : decode mX10_two.2.1 173 = .ok (.lload_n 1, 1) := by decide +kernel
theorem dX10_two_174 : decode mX10_two.2.1 174 = .ok (.lload_n 3, 1) := by decide +kernel
theorem dX10_two_175 : decode mX10_two.2.1 175 = .ok (.land, 1) := by decide +kernel
theorem dX10_two_176 : decode mX10_two.2.1 176 = .ok (.lreturn, 1) := by decide +kernel
theorem dX10_two_177 : decode mX10_two.2.1 177 = .ok (.lload_n 1, 1) := by decide +kernel
theorem dX10_two_178 : decode mX10_two.2.1 178 = .ok (.lload_n 3, 1) := by decide +kernel
theorem dX10_two_179 : decode mX10_two.2.1 179 = .ok (.lor, 1) := by decide +kernel
theorem dX10_two_180 : decode mX10_two.2.1 180 = .ok (.lreturn, 1) := by decide +kernel
abbrev mX10_reckons : aM := (yX10_reckons, cX10_reckons, 5, (some .long))
theorem dX10_reckons_0 : decode mX10_reckons.2.1 0 = .ok (.iconst 0, 1) := by decide +kernel
theorem dX10_reckons_1 : decode mX10_reckons.2.1 1 = .ok (.istore_n 2, 1) := by decide +kernel
theorem dX10_reckons_2 : decode mX10_reckons.2.1 2 = .ok (.sipush 1600, 3) := by decide +kernel
theorem dX10_reckons_5 : decode mX10_reckons.2.1 5 = .ok (.aload_n 0, 1) := by decide +kernel
theorem dX10_reckons_6 : decode mX10_reckons.2.1 6 = .ok (.getfield 51, 3) := by decide +kernel
theorem dX10_reckons_9 : decode mX10_reckons.2.1 9 = .ok (.imul, 1) := by decide +kernel
theorem dX10_reckons_10 : decode mX10_reckons.2.1 10 = .ok (.aload_n 0, 1) := by decide +kernel
theorem dX10_reckons_11 : decode mX10_reckons.2.1 11 = .ok (.getfield 87, 3) := by decide +kernel
theorem dX10_reckons_14 : decode mX10_reckons.2.1 14 = .ok (.iconst 5, 1) := by decide +kernel
theorem dX10_reckons_15 : decode mX10_reckons.2.1 15 = .ok (.aload_n 0, 1) := by decide +kernel
theorem dX10_reckons_16 : decode mX10_reckons.2.1 16 = .ok (.getfield 51, 3) := by decide +kernel
theorem dX10_reckons_19 : decode mX10_reckons.2.1 19 = .ok (.imul, 1) := by decide +kernel
theorem dX10_reckons_20 : decode mX10_reckons.2.1 20 = .ok (.iload_n 1, 1) := by decide +kernel
theorem dX10_reckons_21 : decode mX10_reckons.2.1 21 = .ok (.iadd, 1) := by decide +kernel
theorem dX10_reckons_22 : decode mX10_reckons.2.1 22 = .ok (.iaload, 1) := by decide +kernel
theorem dX10_reckons_23 : decode mX10_reckons.2.1 23 = .ok (.iadd, 1) := by decide +kernel
theorem dX10_reckons_24 : decode mX10_reckons.2.1 24 = .ok (.istore_n 3, 1) := by decide +kernel
theorem dX10_reckons_25 : decode mX10_reckons.2.1 25 = .ok (.iload_n 3, 1) := by decide +kernel
theorem dX10_reckons_26 : decode mX10_reckons.2.1 26 = .ok (.sipush 1600, 3) := by decide +kernel
theorem dX10_reckons_29 : decode mX10_reckons.2.1 29 = .ok (.aload_n 0, 1) := by decide +kernel
theorem dX10_reckons_30 : decode mX10_reckons.2.1 30 = .ok (.getfield 51, 3) := by decide +kernel
theorem dX10_reckons_33 : decode mX10_reckons.2.1 33 = .ok (.imul, 1) := by decide +kernel
theorem dX10_reckons_34 : decode mX10_reckons.2.1 34 = .ok (.aload_n 0, 1) := by decide +kernel
theorem dX10_reckons_35 : decode mX10_reckons.2.1 35 = .ok (.getfield 90, 3) := by decide +kernel
theorem dX10_reckons_38 : decode mX10_reckons.2.1 38 = .ok (.iconst 5, 1) := by decide +kernel
theorem dX10_reckons_39 : decode mX10_reckons.2.1 39 = .ok (.aload_n 0, 1) := by decide +kernel
theorem dX10_reckons_40 : decode mX10_reckons.2.1 40 = .ok (.getfield 51, 3) := by decide +kernel
theorem dX10_reckons_43 : decode mX10_reckons.2.1 43 = .ok (.imul, 1) := by decide +kernel
theorem dX10_reckons_44 : decode mX10_reckons.2.1 44 = .ok (.iload_n 1, 1) := by decide +kernel
theorem dX10_reckons_45 : decode mX10_reckons.2.1 45 = .ok (.iadd, 1) := by decide +kernel
theorem dX10_reckons_46 : decode mX10_reckons.2.1 46 = .ok (.iaload, 1) := by decide +kernel
theorem dX10_reckons_47 : decode mX10_reckons.2.1 47 = .ok (.iadd, 1) := by decide +kernel
theorem dX10_reckons_48 : decode mX10_reckons.2.1 48 = .ok (.if_icmp .ge 179, 3) := by decide +kernel
theorem dX10_reckons_51 : decode mX10_reckons.2.1 51 = .ok (.aload_n 0, 1) := by decide +kernel
theorem dX10_reckons_52 : decode mX10_reckons.2.1 52 = .ok (.getfield 93, 3) := by decide +kernel
theorem dX10_reckons_55 : decode mX10_reckons.2.1 55 = .ok (.iload_n 3, 1) := by decide +kernel
theorem dX10_reckons_56 : decode mX10_reckons.2.1 56 = .ok (.iaload, 1) := by decide +kernel
theorem dX10_reckons_57 : decode mX10_reckons.2.1 57 = .ok (.istore 4, 2) := by decide +kernel
theorem dX10_reckons_59 : decode mX10_reckons.2.1 59 = .ok (.iload 4, 2) := by decide +kernel
theorem dX10_reckons_61 : decode mX10_reckons.2.1 61 = .ok (.bipush 30, 2) := by decide +kernel
theorem dX10_reckons_63 : decode mX10_reckons.2.1 63 = .ok (.if_icmp .gt 49, 3) := by decide +kernel
theorem dX10_reckons_66 : decode mX10_reckons.2.1 66 = .ok (.aload_n 0, 1) := by decide +kernel
theorem dX10_reckons_67 : decode mX10_reckons.2.1 67 = .ok (.getfield 183, 3) := by decide +kernel
theorem dX10_reckons_70 : decode mX10_reckons.2.1 70 = .ok (.iload_n 2, 1) := by decide +kernel
theorem dX10_reckons_71 : decode mX10_reckons.2.1 71 = .ok (.iload 4, 2) := by decide +kernel
theorem dX10_reckons_73 : decode mX10_reckons.2.1 73 = .ok (.ifCond .ne 13, 3) := by decide +kernel
theorem dX10_reckons_76 : decode mX10_reckons.2.1 76 = .ok (.aload_n 0, 1) := by decide +kernel
theorem dX10_reckons_77 : decode mX10_reckons.2.1 77 = .ok (.getfield 96, 3) := by decide +kernel
theorem dX10_reckons_80 : decode mX10_reckons.2.1 80 = .ok (.iload_n 3, 1) := by decide +kernel
theorem dX10_reckons_81 : decode mX10_reckons.2.1 81 = .ok (.iaload, 1) := by decide +kernel
theorem dX10_reckons_82 : decode mX10_reckons.2.1 82 = .ok (.i2l, 1) := by decide +kernel
theorem dX10_reckons_83 : decode mX10_reckons.2.1 83 = .ok (.goto 22, 3) := by decide +kernel
theorem dX10_reckons_86 : decode mX10_reckons.2.1 86 = .ok (.iload 4, 2) := by decide +kernel
theorem dX10_reckons_88 : decode mX10_reckons.2.1 88 = .ok (.bipush 30, 2) := by decide +kernel
theorem dX10_reckons_90 : decode mX10_reckons.2.1 90 = .ok (.if_icmp .ne 7, 3) := by decide +kernel
theorem dX10_reckons_93 : decode mX10_reckons.2.1 93 = .ok (.lconst 1, 1) := by decide +kernel
theorem dX10_reckons_94 : decode mX10_reckons.2.1 94 = .ok (.goto 11, 3) := by decide +kernel
theorem dX10_reckons_97 : decode mX10_reckons.2.1 97 = .ok (.aload_n 0, 1) := by decide +kernel
theorem dX10_reckons_98 : decode mX10_reckons.2.1 98 = .ok (.getfield 186, 3) := by decide +kernel
theorem dX10_reckons_101 : decode mX10_reckons.2.1 101 = .ok (.iload 4, 2) := by decide +kernel
theorem dX10_reckons_103 : decode mX10_reckons.2.1 103 = .ok (.iaload, 1) := by decide +kernel
theorem dX10_reckons_104 : decode mX10_reckons.2.1 104 = .ok (.i2l, 1) := by decide +kernel
theorem dX10_reckons_105 : decode mX10_reckons.2.1 105 = .ok (.lastore, 1) := by decide +kernel
theorem dX10_reckons_106 : decode mX10_reckons.2.1 106 = .ok (.iinc 2 1, 3) := by decide +kernel
theorem dX10_reckons_109 : decode mX10_reckons.2.1 109 = .ok (.goto 112, 3) := by decide +kernel
theorem dX10_reckons_112 : decode mX10_reckons.2.1 112 = .ok (.iload 4, 2) := by decide +kernel
theorem dX10_reckons_114 : decode mX10_reckons.2.1 114 = .ok (.bipush 43, 2) := by decide +kernel
theorem dX10_reckons_116 : decode mX10_reckons.2.1 116 = .ok (.if_icmp .ne 24, 3) := by decide +kernel
theorem dX10_reckons_119 : decode mX10_reckons.2.1 119 = .ok (.aload_n 0, 1) := by decide +kernel
theorem dX10_reckons_120 : decode mX10_reckons.2.1 120 = .ok (.getfield 183, 3) := by decide +kernel
theorem dX10_reckons_123 : decode mX10_reckons.2.1 123 = .ok (.iload_n 2, 1) := by decide +kernel
theorem dX10_reckons_124 : decode mX10_reckons.2.1 124 = .ok (.iconst 1, 1) := by decide +kernel
theorem dX10_reckons_125 : decode mX10_reckons.2.1 125 = .ok (.isub, 1) := by decide +kernel
theorem dX10_reckons_126 : decode mX10_reckons.2.1 126 = .ok (.lconst 1, 1) := by decide +kernel
theorem dX10_reckons_127 : decode mX10_reckons.2.1 127 = .ok (.aload_n 0, 1) := by decide +kernel
theorem dX10_reckons_128 : decode mX10_reckons.2.1 128 = .ok (.getfield 183, 3) := by decide +kernel
theorem dX10_reckons_131 : decode mX10_reckons.2.1 131 = .ok (.iload_n 2, 1) := by decide +kernel
theorem dX10_reckons_132 : decode mX10_reckons.2.1 132 = .ok (.iconst 1, 1) := by decide +kernel
theorem dX10_reckons_133 : decode mX10_reckons.2.1 133 = .ok (.isub, 1) := by decide +kernel
theorem dX10_reckons_134 : decode mX10_reckons.2.1 134 = .ok (.laload, 1) := by decide +kernel
theorem dX10_reckons_135 : decode mX10_reckons.2.1 135 = .ok (.lsub, 1) := by decide +kernel
theorem dX10_reckons_136 : decode mX10_reckons.2.1 136 = .ok (.lastore, 1) := by decide +kernel
theorem dX10_reckons_137 : decode mX10_reckons.2.1 137 = .ok (.goto 84, 3) := by decide +kernel
theorem dX10_reckons_140 : decode mX10_reckons.2.1 140 = .ok (.iload 4, 2) := by decide +kernel
theorem dX10_reckons_142 : decode mX10_reckons.2.1 142 = .ok (.bipush 44, 2) := by decide +kernel
theorem dX10_reckons_144 : decode mX10_reckons.2.1 144 = .ok (.if_icmp .ne 47, 3) := by decide +kernel
theorem dX10_reckons_147 : decode mX10_reckons.2.1 147 = .ok (.iinc 2 (-2), 3) := by decide +kernel
theorem dX10_reckons_150 : decode mX10_reckons.2.1 150 = .ok (.aload_n 0, 1) := by decide +kernel
theorem dX10_reckons_151 : decode mX10_reckons.2.1 151 = .ok (.getfield 183, 3) := by decide +kernel
theorem dX10_reckons_154 : decode mX10_reckons.2.1 154 = .ok (.iload_n 2, 1) := by decide +kernel
theorem dX10_reckons_155 : decode mX10_reckons.2.1 155 = .ok (.iconst 1, 1) := by decide +kernel
theorem dX10_reckons_156 : decode mX10_reckons.2.1 156 = .ok (.isub, 1) := by decide +kernel
theorem dX10_reckons_157 : decode mX10_reckons.2.1 157 = .ok (.aload_n 0, 1) := by decide +kernel
theorem dX10_reckons_158 : decode mX10_reckons.2.1 158 = .ok (.getfield 183, 3) := by decide +kernel
theorem dX10_reckons_161 : decode mX10_reckons.2.1 161 = .ok (.iload_n 2, 1) := by decide +kernel
theorem dX10_reckons_162 : decode mX10_reckons.2.1 162 = .ok (.iconst 1, 1) := by decide +kernel
theorem dX10_reckons_163 : decode mX10_reckons.2.1 163 = .ok (.isub, 1) := by decide +kernel
theorem dX10_reckons_164 : decode mX10_reckons.2.1 164 = .ok (.laload, 1) := by decide +kernel
theorem dX10_reckons_165 : decode mX10_reckons.2.1 165 = .ok (.lconst 1, 1) := by decide +kernel
theorem dX10_reckons_166 : decode mX10_reckons.2.1 166 = .ok (.lcmp, 1) := by decide +kernel
theorem dX10_reckons_167 : decode mX10_reckons.2.1 167 = .ok (.ifCond .ne 12, 3) := by decide +kernel
theorem dX10_reckons_170 : decode mX10_reckons.2.1 170 = .ok (.aload_n 0, 1) := by decide +kernel
theorem dX10_reckons_171 : decode mX10_reckons.2.1 171 = .ok (.getfield 183, 3) := by decide +kernel
theorem dX10_reckons_174 : decode mX10_reckons.2.1 174 = .ok (.iload_n 2, 1) := by decide +kernel
theorem dX10_reckons_175 : decode mX10_reckons.2.1 175 = .ok (.laload, 1) := by decide +kernel
theorem dX10_reckons_176 : decode mX10_reckons.2.1 176 = .ok (.goto 11, 3) := by decide +kernel
theorem dX10_reckons_179 : decode mX10_reckons.2.1 179 = .ok (.aload_n 0, 1) := by decide +kernel
theorem dX10_reckons_180 : decode mX10_reckons.2.1 180 = .ok (.getfield 183, 3) := by decide +kernel
theorem dX10_reckons_183 : decode mX10_reckons.2.1 183 = .ok (.iload_n 2, 1) := by decide +kernel
theorem dX10_reckons_184 : decode mX10_reckons.2.1 184 = .ok (.iconst 1, 1) := by decide +kernel
theorem dX10_reckons_185 : decode mX10_reckons.2.1 185 = .ok (.iadd, 1) := by decide +kernel
theorem dX10_reckons_186 : decode mX10_reckons.2.1 186 = .ok (.laload, 1) := by decide +kernel
theorem dX10_reckons_187 : decode mX10_reckons.2.1 187 = .ok (.lastore, 1) := by decide +kernel
theorem dX10_reckons_188 : decode mX10_reckons.2.1 188 = .ok (.goto 33, 3) := by decide +kernel
theorem dX10_reckons_191 : decode mX10_reckons.2.1 191 = .ok (.iinc 2 (-1), 3) := by decide +kernel
theorem dX10_reckons_194 : decode mX10_reckons.2.1 194 = .ok (.aload_n 0, 1) := by decide +kernel
theorem dX10_reckons_195 : decode mX10_reckons.2.1 195 = .ok (.getfield 183, 3) := by decide +kernel
theorem dX10_reckons_198 : decode mX10_reckons.2.1 198 = .ok (.iload_n 2, 1) := by decide +kernel
theorem dX10_reckons_199 : decode mX10_reckons.2.1 199 = .ok (.iconst 1, 1) := by decide +kernel
theorem dX10_reckons_200 : decode mX10_reckons.2.1 200 = .ok (.isub, 1) := by decide +kernel
theorem dX10_reckons_201 : decode mX10_reckons.2.1 201 = .ok (.iload 4, 2) := by decide +kernel
theorem dX10_reckons_203 : decode mX10_reckons.2.1 203 = .ok (.aload_n 0, 1) := by decide +kernel
theorem dX10_reckons_204 : decode mX10_reckons.2.1 204 = .ok (.getfield 183, 3) := by decide +kernel
theorem dX10_reckons_207 : decode mX10_reckons.2.1 207 = .ok (.iload_n 2, 1) := by decide +kernel
theorem dX10_reckons_208 : decode mX10_reckons.2.1 208 = .ok (.iconst 1, 1) := by decide +kernel
theorem dX10_reckons_209 : decode mX10_reckons.2.1 209 = .ok (.isub, 1) := by decide +kernel
theorem dX10_reckons_210 : decode mX10_reckons.2.1 210 = .ok (.laload, 1) := by decide +kernel
theorem dX10_reckons_211 : decode mX10_reckons.2.1 211 = .ok (.aload_n 0, 1) := by decide +kernel
theorem dX10_reckons_212 : decode mX10_reckons.2.1 212 = .ok (.getfield 183, 3) := by decide +kernel
theorem dX10_reckons_215 : decode mX10_reckons.2.1 215 = .ok (.iload_n 2, 1) := by decide +kernel
theorem dX10_reckons_216 : decode mX10_reckons.2.1 216 = .ok (.laload, 1) := by decide +kernel
theorem dX10_reckons_217 : decode mX10_reckons.2.1 217 = .ok (.invokestatic 420, 3) := by decide +kernel
theorem dX10_reckons_220 : decode mX10_reckons.2.1 220 = .ok (.lastore, 1) := by decide +kernel
theorem dX10_reckons_221 : decode mX10_reckons.2.1 221 = .ok (.iinc 3 1, 3) := by decide +kernel
theorem dX10_reckons_224 : decode mX10_reckons.2.1 224 = .ok (.goto (-199), 3) := by decide +kernel
theorem dX10_reckons_227 : decode mX10_reckons.2.1 227 = .ok (.aload_n 0, 1) := by decide +kernel
theorem dX10_reckons_228 : decode mX10_reckons.2.1 228 = .ok (.getfield 183, 3) := by decide +kernel
theorem dX10_reckons_231 : decode mX10_reckons.2.1 231 = .ok (.iconst 0, 1) := by decide +kernel
theorem dX10_reckons_232 : decode mX10_reckons.2.1 232 = .ok (.laload, 1) := by decide +kernel
theorem dX10_reckons_233 : decode mX10_reckons.2.1 233 = .ok (.lreturn, 1) := by decide +kernel
abbrev mX10_isTold : aM := (yX10_isTold, cX10_isTold, 2, (some .boolean))
theorem dX10_isTold_0 : decode mX10_isTold.2.1 0 = .ok (.aload_n 0, 1) := by decide +kernel
theorem dX10_isTold_1 : decode mX10_isTold.2.1 1 = .ok (.getfield 87, 3) := by decide +kernel
theorem dX10_isTold_4 : decode mX10_isTold.2.1 4 = .ok (.iconst 5, 1) := by decide +kernel
theorem dX10_isTold_5 : decode mX10_isTold.2.1 5 = .ok (.aload_n 0, 1) := by decide +kernel
theorem dX10_isTold_6 : decode mX10_isTold.2.1 6 = .ok (.getfield 51, 3) := by decide +kernel
theorem dX10_isTold_9 : decode mX10_isTold.2.1 9 = .ok (.imul, 1) := by decide +kernel
theorem dX10_isTold_10 : decode mX10_isTold.2.1 10 = .ok (.iload_n 1, 1) := by decide +kernel
theorem dX10_isTold_11 : decode mX10_isTold.2.1 11 = .ok (.iadd, 1) := by decide +kernel
theorem dX10_isTold_12 : decode mX10_isTold.2.1 12 = .ok (.iaload, 1) := by decide +kernel
theorem dX10_isTold_13 : decode mX10_isTold.2.1 13 = .ok (.iconst (-1), 1) := by decide +kernel
theorem dX10_isTold_14 : decode mX10_isTold.2.1 14 = .ok (.if_icmp .eq 7, 3) := by decide +kernel
theorem dX10_isTold_17 : decode mX10_isTold.2.1 17 = .ok (.iconst 1, 1) := by decide +kernel
theorem dX10_isTold_18 : decode mX10_isTold.2.1 18 = .ok (.goto 4, 3) := by decide +kernel
theorem dX10_isTold_21 : decode mX10_isTold.2.1 21 = .ok (.iconst 0, 1) := by decide +kernel
theorem dX10_isTold_22 : decode mX10_isTold.2.1 22 = .ok (.ireturn, 1) := by decide +kernel
abbrev mX10_lays : aM := (yX10_lays, cX10_lays, 4, none)
theorem dX10_lays_0 : decode mX10_lays.2.1 0 = .ok (.aload_n 0, 1) := by decide +kernel
theorem dX10_lays_1 : decode mX10_lays.2.1 1 = .ok (.getfield 186, 3) := by decide +kernel
theorem dX10_lays_4 : decode mX10_lays.2.1 4 = .ok (.iconst 1, 1) := by decide +kernel
theorem dX10_lays_5 : decode mX10_lays.2.1 5 = .ok (.iload_n 2, 1) := by decide +kernel
theorem dX10_lays_6 : decode mX10_lays.2.1 6 = .ok (.iconst (-1), 1) := by decide +kernel
theorem dX10_lays_7 : decode mX10_lays.2.1 7 = .ok (.if_icmp .ne 7, 3) := by decide +kernel
theorem dX10_lays_10 : decode mX10_lays.2.1 10 = .ok (.iconst 0, 1) := by decide +kernel
theorem dX10_lays_11 : decode mX10_lays.2.1 11 = .ok (.goto 16, 3) := by decide +kernel
theorem dX10_lays_14 : decode mX10_lays.2.1 14 = .ok (.aload_n 0, 1) := by decide +kernel
theorem dX10_lays_15 : decode mX10_lays.2.1 15 = .ok (.getfield 57, 3) := by decide +kernel
theorem dX10_lays_18 : decode mX10_lays.2.1 18 = .ok (.iconst 5, 1) := by decide +kernel
theorem dX10_lays_19 : decode mX10_lays.2.1 19 = .ok (.aload_n 0, 1) := by decide +kernel
theorem dX10_lays_20 : decode mX10_lays.2.1 20 = .ok (.getfield 51, 3) := by decide +kernel
theorem dX10_lays_23 : decode mX10_lays.2.1 23 = .ok (.imul, 1) := by decide +kernel
theorem dX10_lays_24 : decode mX10_lays.2.1 24 = .ok (.iload_n 2, 1) := by decide +kernel
theorem dX10_lays_25 : decode mX10_lays.2.1 25 = .ok (.iadd, 1) := by decide +kernel
theorem dX10_lays_26 : decode mX10_lays.2.1 26 = .ok (.iaload, 1) := by decide +kernel
theorem dX10_lays_27 : decode mX10_lays.2.1 27 = .ok (.iastore, 1) := by decide +kernel
theorem dX10_lays_28 : decode mX10_lays.2.1 28 = .ok (.aload_n 0, 1) := by decide +kernel
theorem dX10_lays_29 : decode mX10_lays.2.1 29 = .ok (.getfield 186, 3) := by decide +kernel
theorem dX10_lays_32 : decode mX10_lays.2.1 32 = .ok (.iconst 2, 1) := by decide +kernel
theorem dX10_lays_33 : decode mX10_lays.2.1 33 = .ok (.iload_n 2, 1) := by decide +kernel
theorem dX10_lays_34 : decode mX10_lays.2.1 34 = .ok (.iconst (-1), 1) := by decide +kernel
theorem dX10_lays_35 : decode mX10_lays.2.1 35 = .ok (.if_icmp .ne 7, 3) := by decide +kernel
theorem dX10_lays_38 : decode mX10_lays.2.1 38 = .ok (.iconst 0, 1) := by decide +kernel
theorem dX10_lays_39 : decode mX10_lays.2.1 39 = .ok (.goto 13, 3) := by decide +kernel
theorem dX10_lays_42 : decode mX10_lays.2.1 42 = .ok (.aload_n 0, 1) := by decide +kernel
theorem dX10_lays_43 : decode mX10_lays.2.1 43 = .ok (.getfield 159, 3) := by decide +kernel
theorem dX10_lays_46 : decode mX10_lays.2.1 46 = .ok (.iconst 5, 1) := by decide +kernel
theorem dX10_lays_47 : decode mX10_lays.2.1 47 = .ok (.iload_n 1, 1) := by decide +kernel
theorem dX10_lays_48 : decode mX10_lays.2.1 48 = .ok (.imul, 1) := by decide +kernel
theorem dX10_lays_49 : decode mX10_lays.2.1 49 = .ok (.iload_n 2, 1) := by decide +kernel
theorem dX10_lays_50 : decode mX10_lays.2.1 50 = .ok (.iadd, 1) := by decide +kernel
theorem dX10_lays_51 : decode mX10_lays.2.1 51 = .ok (.iaload, 1) := by decide +kernel
theorem dX10_lays_52 : decode mX10_lays.2.1 52 = .ok (.iastore, 1) := by decide +kernel
theorem dX10_lays_53 : decode mX10_lays.2.1 53 = .ok (.aload_n 0, 1) := by decide +kernel
theorem dX10_lays_54 : decode mX10_lays.2.1 54 = .ok (.getfield 186, 3) := by decide +kernel
theorem dX10_lays_57 : decode mX10_lays.2.1 57 = .ok (.iconst 3, 1) := by decide +kernel
theorem dX10_lays_58 : decode mX10_lays.2.1 58 = .ok (.iload_n 3, 1) := by decide +kernel
theorem dX10_lays_59 : decode mX10_lays.2.1 59 = .ok (.iconst (-1), 1) := by decide +kernel
theorem dX10_lays_60 : decode mX10_lays.2.1 60 = .ok (.if_icmp .ne 7, 3) := by decide +kernel
theorem dX10_lays_63 : decode mX10_lays.2.1 63 = .ok (.iconst 0, 1) := by decide +kernel
theorem dX10_lays_64 : decode mX10_lays.2.1 64 = .ok (.goto 14, 3) := by decide +kernel
theorem dX10_lays_67 : decode mX10_lays.2.1 67 = .ok (.aload_n 0, 1) := by decide +kernel
theorem dX10_lays_68 : decode mX10_lays.2.1 68 = .ok (.getfield 162, 3) := by decide +kernel
theorem dX10_lays_71 : decode mX10_lays.2.1 71 = .ok (.bipush 6, 2) := by decide +kernel
theorem dX10_lays_73 : decode mX10_lays.2.1 73 = .ok (.iload_n 1, 1) := by decide +kernel
theorem dX10_lays_74 : decode mX10_lays.2.1 74 = .ok (.imul, 1) := by decide +kernel
theorem dX10_lays_75 : decode mX10_lays.2.1 75 = .ok (.iload_n 3, 1) := by decide +kernel
theorem dX10_lays_76 : decode mX10_lays.2.1 76 = .ok (.iadd, 1) := by decide +kernel
theorem dX10_lays_77 : decode mX10_lays.2.1 77 = .ok (.iaload, 1) := by decide +kernel
theorem dX10_lays_78 : decode mX10_lays.2.1 78 = .ok (.iastore, 1) := by decide +kernel
theorem dX10_lays_79 : decode mX10_lays.2.1 79 = .ok (.aload_n 0, 1) := by decide +kernel
theorem dX10_lays_80 : decode mX10_lays.2.1 80 = .ok (.getfield 186, 3) := by decide +kernel
theorem dX10_lays_83 : decode mX10_lays.2.1 83 = .ok (.iconst 4, 1) := by decide +kernel
theorem dX10_lays_84 : decode mX10_lays.2.1 84 = .ok (.iload_n 3, 1) := by decide +kernel
theorem dX10_lays_85 : decode mX10_lays.2.1 85 = .ok (.iconst (-1), 1) := by decide +kernel
theorem dX10_lays_86 : decode mX10_lays.2.1 86 = .ok (.if_icmp .ne 7, 3) := by decide +kernel
theorem dX10_lays_89 : decode mX10_lays.2.1 89 = .ok (.iconst 0, 1) := by decide +kernel
theorem dX10_lays_90 : decode mX10_lays.2.1 90 = .ok (.goto 17, 3) := by decide +kernel
theorem dX10_lays_93 : decode mX10_lays.2.1 93 = .ok (.aload_n 0, 1) := by decide +kernel
theorem dX10_lays_94 : decode mX10_lays.2.1 94 = .ok (.getfield 69, 3) := by decide +kernel
theorem dX10_lays_97 : decode mX10_lays.2.1 97 = .ok (.bipush 6, 2) := by decide +kernel
theorem dX10_lays_99 : decode mX10_lays.2.1 99 = .ok (.aload_n 0, 1) := by decide +kernel
theorem dX10_lays_100 : decode mX10_lays.2.1 100 = .ok (.getfield 51, 3) := by decide +kernel
theorem dX10_lays_103 : decode mX10_lays.2.1 103 = .ok (.imul, 1) := by decide +kernel
theorem dX10_lays_104 : decode mX10_lays.2.1 104 = .ok (.iload_n 3, 1) := by decide +kernel
theorem dX10_lays_105 : decode mX10_lays.2.1 105 = .ok (.iadd, 1) := by decide +kernel
theorem dX10_lays_106 : decode mX10_lays.2.1 106 = .ok (.iaload, 1) := by decide +kernel
theorem dX10_lays_107 : decode mX10_lays.2.1 107 = .ok (.iastore, 1) := by decide +kernel
theorem dX10_lays_108 : decode mX10_lays.2.1 108 = .ok (.aload_n 0, 1) := by decide +kernel
theorem dX10_lays_109 : decode mX10_lays.2.1 109 = .ok (.getfield 186, 3) := by decide +kernel
theorem dX10_lays_112 : decode mX10_lays.2.1 112 = .ok (.iconst 5, 1) := by decide +kernel
theorem dX10_lays_113 : decode mX10_lays.2.1 113 = .ok (.aload_n 0, 1) := by decide +kernel
theorem dX10_lays_114 : decode mX10_lays.2.1 114 = .ok (.getfield 156, 3) := by decide +kernel
theorem dX10_lays_117 : decode mX10_lays.2.1 117 = .ok (.iload_n 1, 1) := by decide +kernel
theorem dX10_lays_118 : decode mX10_lays.2.1 118 = .ok (.iaload, 1) := by decide +kernel
theorem dX10_lays_119 : decode mX10_lays.2.1 119 = .ok (.iastore, 1) := by decide +kernel
theorem dX10_lays_120 : decode mX10_lays.2.1 120 = .ok (.aload_n 0, 1) := by decide +kernel
theorem dX10_lays_121 : decode mX10_lays.2.1 121 = .ok (.getfield 186, 3) := by decide +kernel
theorem dX10_lays_124 : decode mX10_lays.2.1 124 = .ok (.bipush 6, 2) := by decide +kernel
theorem dX10_lays_126 : decode mX10_lays.2.1 126 = .ok (.aload_n 0, 1) := by decide +kernel
theorem dX10_lays_127 : decode mX10_lays.2.1 127 = .ok (.getfield 153, 3) := by decide +kernel
theorem dX10_lays_130 : decode mX10_lays.2.1 130 = .ok (.iload_n 1, 1) := by decide +kernel
theorem dX10_lays_131 : decode mX10_lays.2.1 131 = .ok (.iaload, 1) := by decide +kernel
theorem dX10_lays_132 : decode mX10_lays.2.1 132 = .ok (.iastore, 1) := by decide +kernel
theorem dX10_lays_133 : decode mX10_lays.2.1 133 = .ok (.return_, 1) := by decide +kernel
abbrev mX10_strikes : aM := (yX10_strikes, cX10_strikes, 11, none)
theorem dX10_strikes_0 : decode mX10_strikes.2.1 0 = .ok (.aload_n 0, 1) := by decide +kernel
theorem dX10_strikes_1 : decode mX10_strikes.2.1 1 = .ok (.iload_n 1, 1) := by decide +kernel
theorem dX10_strikes_2 : decode mX10_strikes.2.1 2 = .ok (.iload_n 2, 1) := by decide +kernel
theorem dX10_strikes_3 : decode mX10_strikes.2.1 3 = .ok (.iload_n 3, 1) := by decide +kernel
theorem dX10_strikes_4 : decode mX10_strikes.2.1 4 = .ok (.invokevirtual 424, 3) := by decide +kernel
theorem dX10_strikes_7 : decode mX10_strikes.2.1 7 = .ok (.aload_n 0, 1) := by decide +kernel
theorem dX10_strikes_8 : decode mX10_strikes.2.1 8 = .ok (.getfield 159, 3) := by decide +kernel
theorem dX10_strikes_11 : decode mX10_strikes.2.1 11 = .ok (.iconst 5, 1) := by decide +kernel
theorem dX10_strikes_12 : decode mX10_strikes.2.1 12 = .ok (.iload_n 1, 1) := by decide +kernel
theorem dX10_strikes_13 : decode mX10_strikes.2.1 13 = .ok (.imul, 1) := by decide +kernel
theorem dX10_strikes_14 : decode mX10_strikes.2.1 14 = .ok (.iload_n 2, 1) := by decide +kernel
theorem dX10_strikes_15 : decode mX10_strikes.2.1 15 = .ok (.iadd, 1) := by decide +kernel
theorem dX10_strikes_16 : decode mX10_strikes.2.1 16 = .ok (.iaload, 1) := by decide +kernel
theorem dX10_strikes_17 : decode mX10_strikes.2.1 17 = .ok (.istore 5, 2) := by decide +kernel
theorem dX10_strikes_19 : decode mX10_strikes.2.1 19 = .ok (.aload_n 0, 1) := by decide +kernel
theorem dX10_strikes_20 : decode mX10_strikes.2.1 20 = .ok (.getfield 162, 3) := by decide +kernel
theorem dX10_strikes_23 : decode mX10_strikes.2.1 23 = .ok (.bipush 6, 2) := by decide +kernel
theorem dX10_strikes_25 : decode mX10_strikes.2.1 25 = .ok (.iload_n 1, 1) := by decide +kernel
theorem dX10_strikes_26 : decode mX10_strikes.2.1 26 = .ok (.imul, 1) := by decide +kernel
theorem dX10_strikes_27 : decode mX10_strikes.2.1 27 = .ok (.iload_n 3, 1) := by decide +kernel
theorem dX10_strikes_28 : decode mX10_strikes.2.1 28 = .ok (.iadd, 1) := by decide +kernel
theorem dX10_strikes_29 : decode mX10_strikes.2.1 29 = .ok (.iaload, 1) := by decide +kernel
theorem dX10_strikes_30 : decode mX10_strikes.2.1 30 = .ok (.istore 6, 2) := by decide +kernel
theorem dX10_strikes_32 : decode mX10_strikes.2.1 32 = .ok (.aload_n 0, 1) := by decide +kernel
theorem dX10_strikes_33 : decode mX10_strikes.2.1 33 = .ok (.getfield 186, 3) := by decide +kernel
theorem dX10_strikes_36 : decode mX10_strikes.2.1 36 = .ok (.bipush 7, 2) := by decide +kernel
theorem dX10_strikes_38 : decode mX10_strikes.2.1 38 = .ok (.iload 4, 2) := by decide +kernel
theorem dX10_strikes_40 : decode mX10_strikes.2.1 40 = .ok (.iastore, 1) := by decide +kernel
theorem dX10_strikes_41 : decode mX10_strikes.2.1 41 = .ok (.aload_n 0, 1) := by decide +kernel
theorem dX10_strikes_42 : decode mX10_strikes.2.1 42 = .ok (.getfield 186, 3) := by decide +kernel
theorem dX10_strikes_45 : decode mX10_strikes.2.1 45 = .ok (.bipush 8, 2) := by decide +kernel
theorem dX10_strikes_47 : decode mX10_strikes.2.1 47 = .ok (.iload 5, 2) := by decide +kernel
theorem dX10_strikes_49 : decode mX10_strikes.2.1 49 = .ok (.ifCond .ne 7, 3) := by decide +kernel
theorem dX10_strikes_52 : decode mX10_strikes.2.1 52 = .ok (.iconst 1, 1) := by decide +kernel
theorem dX10_strikes_53 : decode mX10_strikes.2.1 53 = .ok (.goto 4, 3) := by decide +kernel
theorem dX10_strikes_56 : decode mX10_strikes.2.1 56 = .ok (.iconst 0, 1) := by decide +kernel
theorem dX10_strikes_57 : decode mX10_strikes.2.1 57 = .ok (.iastore, 1) := by decide +kernel
theorem dX10_strikes_58 : decode mX10_strikes.2.1 58 = .ok (.aload_n 0, 1) := by decide +kernel
theorem dX10_strikes_59 : decode mX10_strikes.2.1 59 = .ok (.iconst 0, 1) := by decide +kernel
theorem dX10_strikes_60 : decode mX10_strikes.2.1 60 = .ok (.invokevirtual 428, 3) := by decide +kernel
theorem dX10_strikes_63 : decode mX10_strikes.2.1 63 = .ok (.ifCond .eq 11, 3) := by decide +kernel
theorem dX10_strikes_66 : decode mX10_strikes.2.1 66 = .ok (.aload_n 0, 1) := by decide +kernel
theorem dX10_strikes_67 : decode mX10_strikes.2.1 67 = .ok (.iconst 0, 1) := by decide +kernel
theorem dX10_strikes_68 : decode mX10_strikes.2.1 68 = .ok (.invokevirtual 431, 3) := by decide +kernel
theorem dX10_strikes_71 : decode mX10_strikes.2.1 71 = .ok (.goto 4, 3) := by decide +kernel
theorem dX10_strikes_74 : decode mX10_strikes.2.1 74 = .ok (.lconst 1, 1) := by decide +kernel
theorem dX10_strikes_75 : decode mX10_strikes.2.1 75 = .ok (.lstore 7, 2) := by decide +kernel
theorem dX10_strikes_77 : decode mX10_strikes.2.1 77 = .ok (.aload_n 0, 1) := by decide +kernel
theorem dX10_strikes_78 : decode mX10_strikes.2.1 78 = .ok (.iconst 1, 1) := by decide +kernel
theorem dX10_strikes_79 : decode mX10_strikes.2.1 79 = .ok (.invokevirtual 428, 3) := by decide +kernel
theorem dX10_strikes_82 : decode mX10_strikes.2.1 82 = .ok (.ifCond .eq 11, 3) := by decide +kernel
theorem dX10_strikes_85 : decode mX10_strikes.2.1 85 = .ok (.aload_n 0, 1) := by decide +kernel
theorem dX10_strikes_86 : decode mX10_strikes.2.1 86 = .ok (.iconst 1, 1) := by decide +kernel
theorem dX10_strikes_87 : decode mX10_strikes.2.1 87 = .ok (.invokevirtual 431, 3) := by decide +kernel
theorem dX10_strikes_90 : decode mX10_strikes.2.1 90 = .ok (.goto 4, 3) := by decide +kernel
theorem dX10_strikes_93 : decode mX10_strikes.2.1 93 = .ok (.lconst 1, 1) := by decide +kernel
theorem dX10_strikes_94 : decode mX10_strikes.2.1 94 = .ok (.lstore 9, 2) := by decide +kernel
theorem dX10_strikes_96 : decode mX10_strikes.2.1 96 = .ok (.lload 7, 2) := by decide +kernel
theorem dX10_strikes_98 : decode mX10_strikes.2.1 98 = .ok (.lconst 0, 1) := by decide +kernel
theorem dX10_strikes_99 : decode mX10_strikes.2.1 99 = .ok (.lcmp, 1) := by decide +kernel
theorem dX10_strikes_100 : decode mX10_strikes.2.1 100 = .ok (.ifCond .ge 7, 3) := by decide +kernel
theorem dX10_strikes_103 : decode mX10_strikes.2.1 103 = .ok (.lconst 0, 1) := by decide +kernel
theorem dX10_strikes_104 : decode mX10_strikes.2.1 104 = .ok (.goto 20, 3) := by decide +kernel
theorem dX10_strikes_107 : decode mX10_strikes.2.1 107 = .ok (.lload 7, 2) := by decide +kernel
theorem dX10_strikes_109 : decode mX10_strikes.2.1 109 = .ok (.iload 6, 2) := by decide +kernel
theorem dX10_strikes_111 : decode mX10_strikes.2.1 111 = .ok (.i2l, 1) := by decide +kernel
theorem dX10_strikes_112 : decode mX10_strikes.2.1 112 = .ok (.lcmp, 1) := by decide +kernel
theorem dX10_strikes_113 : decode mX10_strikes.2.1 113 = .ok (.ifCond .le 9, 3) := by decide +kernel
theorem dX10_strikes_116 : decode mX10_strikes.2.1 116 = .ok (.iload 6, 2) := by decide +kernel
theorem dX10_strikes_118 : decode mX10_strikes.2.1 118 = .ok (.i2l, 1) := by decide +kernel
theorem dX10_strikes_119 : decode mX10_strikes.2.1 119 = .ok (.goto 5, 3) := by decide +kernel
theorem dX10_strikes_122 : decode mX10_strikes.2.1 122 = .ok (.lload 7, 2) := by decide +kernel
theorem dX10_strikes_124 : decode mX10_strikes.2.1 124 = .ok (.lstore 7, 2) := by decide +kernel
theorem dX10_strikes_126 : decode mX10_strikes.2.1 126 = .ok (.lload 9, 2) := by decide +kernel
theorem dX10_strikes_128 : decode mX10_strikes.2.1 128 = .ok (.lconst 0, 1) := by decide +kernel
theorem dX10_strikes_129 : decode mX10_strikes.2.1 129 = .ok (.lcmp, 1) := by decide +kernel
theorem dX10_strikes_130 : decode mX10_strikes.2.1 130 = .ok (.ifCond .ge 7, 3) := by decide +kernel
theorem dX10_strikes_133 : decode mX10_strikes.2.1 133 = .ok (.lconst 0, 1) := by decide +kernel
theorem dX10_strikes_134 : decode mX10_strikes.2.1 134 = .ok (.goto 20, 3) := by decide +kernel
theorem dX10_strikes_137 : decode mX10_strikes.2.1 137 = .ok (.lload 9, 2) := by decide +kernel
theorem dX10_strikes_139 : decode mX10_strikes.2.1 139 = .ok (.ldc2_w 435, 3) := by decide +kernel
theorem dX10_strikes_142 : decode mX10_strikes.2.1 142 = .ok (.lcmp, 1) := by decide +kernel
theorem dX10_strikes_143 : decode mX10_strikes.2.1 143 = .ok (.ifCond .le 9, 3) := by decide +kernel
theorem dX10_strikes_146 : decode mX10_strikes.2.1 146 = .ok (.ldc2_w 435, 3) := by decide +kernel
theorem dX10_strikes_149 : decode mX10_strikes.2.1 149 = .ok (.goto 5, 3) := by decide +kernel
theorem dX10_strikes_152 : decode mX10_strikes.2.1 152 = .ok (.lload 9, 2) := by decide +kernel
theorem dX10_strikes_154 : decode mX10_strikes.2.1 154 = .ok (.lstore 9, 2) := by decide +kernel
theorem dX10_strikes_156 : decode mX10_strikes.2.1 156 = .ok (.aload_n 0, 1) := by decide +kernel
theorem dX10_strikes_157 : decode mX10_strikes.2.1 157 = .ok (.getfield 162, 3) := by decide +kernel
theorem dX10_strikes_160 : decode mX10_strikes.2.1 160 = .ok (.bipush 6, 2) := by decide +kernel
theorem dX10_strikes_162 : decode mX10_strikes.2.1 162 = .ok (.iload_n 1, 1) := by decide +kernel
theorem dX10_strikes_163 : decode mX10_strikes.2.1 163 = .ok (.imul, 1) := by decide +kernel
theorem dX10_strikes_164 : decode mX10_strikes.2.1 164 = .ok (.iload_n 3, 1) := by decide +kernel
theorem dX10_strikes_165 : decode mX10_strikes.2.1 165 = .ok (.iadd, 1) := by decide +kernel
theorem dX10_strikes_166 : decode mX10_strikes.2.1 166 = .ok (.iload 6, 2) := by decide +kernel
theorem dX10_strikes_168 : decode mX10_strikes.2.1 168 = .ok (.lload 7, 2) := by decide +kernel
theorem dX10_strikes_170 : decode mX10_strikes.2.1 170 = .ok (.l2i, 1) := by decide +kernel
theorem dX10_strikes_171 : decode mX10_strikes.2.1 171 = .ok (.isub, 1) := by decide +kernel
theorem dX10_strikes_172 : decode mX10_strikes.2.1 172 = .ok (.iastore, 1) := by decide +kernel
theorem dX10_strikes_173 : decode mX10_strikes.2.1 173 = .ok (.aload_n 0, 1) := by decide +kernel
theorem dX10_strikes_174 : decode mX10_strikes.2.1 174 = .ok (.getfield 159, 3) := by decide +kernel
theorem dX10_strikes_177 : decode mX10_strikes.2.1 177 = .ok (.iconst 5, 1) := by decide +kernel
theorem dX10_strikes_178 : decode mX10_strikes.2.1 178 = .ok (.iload_n 1, 1) := by decide +kernel
theorem dX10_strikes_179 : decode mX10_strikes.2.1 179 = .ok (.imul, 1) := by decide +kernel
theorem dX10_strikes_180 : decode mX10_strikes.2.1 180 = .ok (.iload_n 2, 1) := by decide +kernel
theorem dX10_strikes_181 : decode mX10_strikes.2.1 181 = .ok (.iadd, 1) := by decide +kernel
theorem dX10_strikes_182 : decode mX10_strikes.2.1 182 = .ok (.iload 5, 2) := by decide +kernel
theorem dX10_strikes_184 : decode mX10_strikes.2.1 184 = .ok (.i2l, 1) := by decide +kernel
theorem dX10_strikes_185 : decode mX10_strikes.2.1 185 = .ok (.lload 9, 2) := by decide +kernel
theorem dX10_strikes_187 : decode mX10_strikes.2.1 187 = .ok (.lcmp, 1) := by decide +kernel
theorem dX10_strikes_188 : decode mX10_strikes.2.1 188 = .ok (.ifCond .le 12, 3) := by decide +kernel
theorem dX10_strikes_191 : decode mX10_strikes.2.1 191 = .ok (.iload 5, 2) := by decide +kernel
theorem dX10_strikes_193 : decode mX10_strikes.2.1 193 = .ok (.lload 9, 2) := by decide +kernel
theorem dX10_strikes_195 : decode mX10_strikes.2.1 195 = .ok (.l2i, 1) := by decide +kernel
theorem dX10_strikes_196 : decode mX10_strikes.2.1 196 = .ok (.isub, 1) := by decide +kernel
theorem dX10_strikes_197 : decode mX10_strikes.2.1 197 = .ok (.goto 4, 3) := by decide +kernel
theorem dX10_strikes_200 : decode mX10_strikes.2.1 200 = .ok (.iconst 0, 1) := by decide +kernel
theorem dX10_strikes_201 : decode mX10_strikes.2.1 201 = .ok (.iastore, 1) := by decide +kernel
theorem dX10_strikes_202 : decode mX10_strikes.2.1 202 = .ok (.return_, 1) := by decide +kernel
abbrev mX10_rubs : aM := (yX10_rubs, cX10_rubs, 6, (some .int))
theorem dX10_rubs_0 : decode mX10_rubs.2.1 0 = .ok (.iconst 0, 1) := by decide +kernel
theorem dX10_rubs_1 : decode mX10_rubs.2.1 1 = .ok (.istore 5, 2) := by decide +kernel
theorem dX10_rubs_3 : decode mX10_rubs.2.1 3 = .ok (.iload 5, 2) := by decide +kernel
theorem dX10_rubs_5 : decode mX10_rubs.2.1 5 = .ok (.iload 4, 2) := by decide +kernel
theorem dX10_rubs_7 : decode mX10_rubs.2.1 7 = .ok (.if_icmp .ge 32, 3) := by decide +kernel
theorem dX10_rubs_10 : decode mX10_rubs.2.1 10 = .ok (.aload_n 0, 1) := by decide +kernel
theorem dX10_rubs_11 : decode mX10_rubs.2.1 11 = .ok (.getfield 162, 3) := by decide +kernel
theorem dX10_rubs_14 : decode mX10_rubs.2.1 14 = .ok (.bipush 6, 2) := by decide +kernel
theorem dX10_rubs_16 : decode mX10_rubs.2.1 16 = .ok (.iload_n 1, 1) := by decide +kernel
theorem dX10_rubs_17 : decode mX10_rubs.2.1 17 = .ok (.imul, 1) := by decide +kernel
theorem dX10_rubs_18 : decode mX10_rubs.2.1 18 = .ok (.iload_n 3, 1) := by decide +kernel
theorem dX10_rubs_19 : decode mX10_rubs.2.1 19 = .ok (.iadd, 1) := by decide +kernel
theorem dX10_rubs_20 : decode mX10_rubs.2.1 20 = .ok (.iaload, 1) := by decide +kernel
theorem dX10_rubs_21 : decode mX10_rubs.2.1 21 = .ok (.ifCond .le 18, 3) := by decide +kernel
theorem dX10_rubs_24 : decode mX10_rubs.2.1 24 = .ok (.iinc 5 1, 3) := by decide +kernel
theorem dX10_rubs_27 : decode mX10_rubs.2.1 27 = .ok (.aload_n 0, 1) := by decide +kernel
theorem dX10_rubs_28 : decode mX10_rubs.2.1 28 = .ok (.iload_n 1, 1) := by decide +kernel
theorem dX10_rubs_29 : decode mX10_rubs.2.1 29 = .ok (.iload_n 2, 1) := by decide +kernel
theorem dX10_rubs_30 : decode mX10_rubs.2.1 30 = .ok (.iload_n 3, 1) := by decide +kernel
theorem dX10_rubs_31 : decode mX10_rubs.2.1 31 = .ok (.iload 5, 2) := by decide +kernel
theorem dX10_rubs_33 : decode mX10_rubs.2.1 33 = .ok (.invokevirtual 437, 3) := by decide +kernel
theorem dX10_rubs_36 : decode mX10_rubs.2.1 36 = .ok (.goto (-33), 3) := by decide +kernel
theorem dX10_rubs_39 : decode mX10_rubs.2.1 39 = .ok (.iload 5, 2) := by decide +kernel
theorem dX10_rubs_41 : decode mX10_rubs.2.1 41 = .ok (.ireturn, 1) := by decide +kernel
abbrev mX10_writesDown : aM := (yX10_writesDown, cX10_writesDown, 6, none)
theorem dX10_writesDown_0 : decode mX10_writesDown.2.1 0 = .ok (.aload_n 0, 1) := by decide +kernel
theorem dX10_writesDown_1 : decode mX10_writesDown.2.1 1 = .ok (.getfield 168, 3) := by decide +kernel
theorem dX10_writesDown_4 : decode mX10_writesDown.2.1 4 = .ok (.iload_n 1, 1) := by decide +kernel
theorem dX10_writesDown_5 : decode mX10_writesDown.2.1 5 = .ok (.iaload, 1) := by decide +kernel
theorem dX10_writesDown_6 : decode mX10_writesDown.2.1 6 = .ok (.bipush 40, 2) := by decide +kernel
theorem dX10_writesDown_8 : decode mX10_writesDown.2.1 8 = .ok (.if_icmp .ne 58, 3) := by decide +kernel
theorem dX10_writesDown_11 : decode mX10_writesDown.2.1 11 = .ok (.sipush 160, 3) := by decide +kernel
theorem dX10_writesDown_14 : decode mX10_writesDown.2.1 14 = .ok (.iload_n 1, 1) := by decide +kernel
theorem dX10_writesDown_15 : decode mX10_writesDown.2.1 15 = .ok (.imul, 1) := by decide +kernel
theorem dX10_writesDown_16 : decode mX10_writesDown.2.1 16 = .ok (.istore 5, 2) := by decide +kernel
theorem dX10_writesDown_18 : decode mX10_writesDown.2.1 18 = .ok (.iload 5, 2) := by decide +kernel
theorem dX10_writesDown_20 : decode mX10_writesDown.2.1 20 = .ok (.sipush 160, 3) := by decide +kernel
theorem dX10_writesDown_23 : decode mX10_writesDown.2.1 23 = .ok (.iload_n 1, 1) := by decide +kernel
theorem dX10_writesDown_24 : decode mX10_writesDown.2.1 24 = .ok (.imul, 1) := by decide +kernel
theorem dX10_writesDown_25 : decode mX10_writesDown.2.1 25 = .ok (.sipush 160, 3) := by decide +kernel
theorem dX10_writesDown_28 : decode mX10_writesDown.2.1 28 = .ok (.iadd, 1) := by decide +kernel
theorem dX10_writesDown_29 : decode mX10_writesDown.2.1 29 = .ok (.iconst 4, 1) := by decide +kernel
theorem dX10_writesDown_30 : decode mX10_writesDown.2.1 30 = .ok (.isub, 1) := by decide +kernel
theorem dX10_writesDown_31 : decode mX10_writesDown.2.1 31 = .ok (.if_icmp .ge 25, 3) := by decide +kernel
theorem dX10_writesDown_34 : decode mX10_writesDown.2.1 34 = .ok (.aload_n 0, 1) := by decide +kernel
theorem dX10_writesDown_35 : decode mX10_writesDown.2.1 35 = .ok (.getfield 171, 3) := by decide +kernel
theorem dX10_writesDown_38 : decode mX10_writesDown.2.1 38 = .ok (.iload 5, 2) := by decide +kernel
theorem dX10_writesDown_40 : decode mX10_writesDown.2.1 40 = .ok (.aload_n 0, 1) := by decide +kernel
theorem dX10_writesDown_41 : decode mX10_writesDown.2.1 41 = .ok (.getfield 171, 3) := by decide +kernel
theorem dX10_writesDown_44 : decode mX10_writesDown.2.1 44 = .ok (.iload 5, 2) := by decide +kernel
theorem dX10_writesDown_46 : decode mX10_writesDown.2.1 46 = .ok (.iconst 4, 1) := by decide +kernel
theorem dX10_writesDown_47 : decode mX10_writesDown.2.1 47 = .ok (.iadd, 1) := by decide +kernel
theorem dX10_writesDown_48 : decode mX10_writesDown.2.1 48 = .ok (.iaload, 1) := by decide +kernel
theorem dX10_writesDown_49 : decode mX10_writesDown.2.1 49 = .ok (.iastore, 1) := by decide +kernel
theorem dX10_writesDown_50 : decode mX10_writesDown.2.1 50 = .ok (.iinc 5 1, 3) := by decide +kernel
theorem dX10_writesDown_53 : decode mX10_writesDown.2.1 53 = .ok (.goto (-35), 3) := by decide +kernel
theorem dX10_writesDown_56 : decode mX10_writesDown.2.1 56 = .ok (.aload_n 0, 1) := by decide +kernel
theorem dX10_writesDown_57 : decode mX10_writesDown.2.1 57 = .ok (.getfield 168, 3) := by decide +kernel
theorem dX10_writesDown_60 : decode mX10_writesDown.2.1 60 = .ok (.iload_n 1, 1) := by decide +kernel
theorem dX10_writesDown_61 : decode mX10_writesDown.2.1 61 = .ok (.dup2, 1) := by decide +kernel
theorem dX10_writesDown_62 : decode mX10_writesDown.2.1 62 = .ok (.iaload, 1) := by decide +kernel
theorem dX10_writesDown_63 : decode mX10_writesDown.2.1 63 = .ok (.iconst 1, 1) := by decide +kernel
theorem dX10_writesDown_64 : decode mX10_writesDown.2.1 64 = .ok (.isub, 1) := by decide +kernel
theorem dX10_writesDown_65 : decode mX10_writesDown.2.1 65 = .ok (.iastore, 1) := by decide +kernel
theorem dX10_writesDown_66 : decode mX10_writesDown.2.1 66 = .ok (.iconst 4, 1) := by decide +kernel
theorem dX10_writesDown_67 : decode mX10_writesDown.2.1 67 = .ok (.bipush 40, 2) := by decide +kernel
theorem dX10_writesDown_69 : decode mX10_writesDown.2.1 69 = .ok (.iload_n 1, 1) := by decide +kernel
theorem dX10_writesDown_70 : decode mX10_writesDown.2.1 70 = .ok (.imul, 1) := by decide +kernel
theorem dX10_writesDown_71 : decode mX10_writesDown.2.1 71 = .ok (.aload_n 0, 1) := by decide +kernel
theorem dX10_writesDown_72 : decode mX10_writesDown.2.1 72 = .ok (.getfield 168, 3) := by decide +kernel
theorem dX10_writesDown_75 : decode mX10_writesDown.2.1 75 = .ok (.iload_n 1, 1) := by decide +kernel
theorem dX10_writesDown_76 : decode mX10_writesDown.2.1 76 = .ok (.iaload, 1) := by decide +kernel
theorem dX10_writesDown_77 : decode mX10_writesDown.2.1 77 = .ok (.iadd, 1) := by decide +kernel
theorem dX10_writesDown_78 : decode mX10_writesDown.2.1 78 = .ok (.imul, 1) := by decide +kernel
theorem dX10_writesDown_79 : decode mX10_writesDown.2.1 79 = .ok (.istore 5, 2) := by decide +kernel
theorem dX10_writesDown_81 : decode mX10_writesDown.2.1 81 = .ok (.aload_n 0, 1) := by decide +kernel
theorem dX10_writesDown_82 : decode mX10_writesDown.2.1 82 = .ok (.getfield 171, 3) := by decide +kernel
theorem dX10_writesDown_85 : decode mX10_writesDown.2.1 85 = .ok (.iload 5, 2) := by decide +kernel
theorem dX10_writesDown_87 : decode mX10_writesDown.2.1 87 = .ok (.aload_n 0, 1) := by decide +kernel
theorem dX10_writesDown_88 : decode mX10_writesDown.2.1 88 = .ok (.getfield 153, 3) := by decide +kernel
theorem dX10_writesDown_91 : decode mX10_writesDown.2.1 91 = .ok (.iload_n 1, 1) := by decide +kernel
theorem dX10_writesDown_92 : decode mX10_writesDown.2.1 92 = .ok (.iaload, 1) := by decide +kernel
theorem dX10_writesDown_93 : decode mX10_writesDown.2.1 93 = .ok (.iastore, 1) := by decide +kernel
theorem dX10_writesDown_94 : decode mX10_writesDown.2.1 94 = .ok (.aload_n 0, 1) := by decide +kernel
theorem dX10_writesDown_95 : decode mX10_writesDown.2.1 95 = .ok (.getfield 171, 3) := by decide +kernel
theorem dX10_writesDown_98 : decode mX10_writesDown.2.1 98 = .ok (.iload 5, 2) := by decide +kernel
theorem dX10_writesDown_100 : decode mX10_writesDown.2.1 100 = .ok (.iconst 1, 1) := by decide +kernel
theorem dX10_writesDown_101 : decode mX10_writesDown.2.1 101 = .ok (.iadd, 1) := by decide +kernel
theorem dX10_writesDown_102 : decode mX10_writesDown.2.1 102 = .ok (.iload_n 2, 1) := by decide +kernel
theorem dX10_writesDown_103 : decode mX10_writesDown.2.1 103 = .ok (.iastore, 1) := by decide +kernel
theorem dX10_writesDown_104 : decode mX10_writesDown.2.1 104 = .ok (.aload_n 0, 1) := by decide +kernel
theorem dX10_writesDown_105 : decode mX10_writesDown.2.1 105 = .ok (.getfield 171, 3) := by decide +kernel
theorem dX10_writesDown_108 : decode mX10_writesDown.2.1 108 = .ok (.iload 5, 2) := by decide +kernel
theorem dX10_writesDown_110 : decode mX10_writesDown.2.1 110 = .ok (.iconst 2, 1) := by decide +kernel
theorem dX10_writesDown_111 : decode mX10_writesDown.2.1 111 = .ok (.iadd, 1) := by decide +kernel
theorem dX10_writesDown_112 : decode mX10_writesDown.2.1 112 = .ok (.iload_n 3, 1) := by decide +kernel
theorem dX10_writesDown_113 : decode mX10_writesDown.2.1 113 = .ok (.iastore, 1) := by decide +kernel
theorem dX10_writesDown_114 : decode mX10_writesDown.2.1 114 = .ok (.aload_n 0, 1) := by decide +kernel
theorem dX10_writesDown_115 : decode mX10_writesDown.2.1 115 = .ok (.getfield 171, 3) := by decide +kernel
theorem dX10_writesDown_118 : decode mX10_writesDown.2.1 118 = .ok (.iload 5, 2) := by decide +kernel
theorem dX10_writesDown_120 : decode mX10_writesDown.2.1 120 = .ok (.iconst 3, 1) := by decide +kernel
theorem dX10_writesDown_121 : decode mX10_writesDown.2.1 121 = .ok (.iadd, 1) := by decide +kernel
theorem dX10_writesDown_122 : decode mX10_writesDown.2.1 122 = .ok (.iload 4, 2) := by decide +kernel
theorem dX10_writesDown_124 : decode mX10_writesDown.2.1 124 = .ok (.iastore, 1) := by decide +kernel
theorem dX10_writesDown_125 : decode mX10_writesDown.2.1 125 = .ok (.aload_n 0, 1) := by decide +kernel
theorem dX10_writesDown_126 : decode mX10_writesDown.2.1 126 = .ok (.getfield 168, 3) := by decide +kernel
theorem dX10_writesDown_129 : decode mX10_writesDown.2.1 129 = .ok (.iload_n 1, 1) := by decide +kernel
theorem dX10_writesDown_130 : decode mX10_writesDown.2.1 130 = .ok (.dup2, 1) := by decide +kernel
theorem dX10_writesDown_131 : decode mX10_writesDown.2.1 131 = .ok (.iaload, 1) := by decide +kernel
theorem dX10_writesDown_132 : decode mX10_writesDown.2.1 132 = .ok (.iconst 1, 1) := by decide +kernel
theorem dX10_writesDown_133 : decode mX10_writesDown.2.1 133 = .ok (.iadd, 1) := by decide +kernel
theorem dX10_writesDown_134 : decode mX10_writesDown.2.1 134 = .ok (.iastore, 1) := by decide +kernel
theorem dX10_writesDown_135 : decode mX10_writesDown.2.1 135 = .ok (.return_, 1) := by decide +kernel
abbrev mX10_isSo : aM := (yX10_isSo, cX10_isSo, 7, (some .boolean))
theorem dX10_isSo_0 : decode mX10_isSo.2.1 0 = .ok (.aload_n 0, 1) := by decide +kernel
theorem dX10_isSo_1 : decode mX10_isSo.2.1 1 = .ok (.iload_n 1, 1) := by decide +kernel
theorem dX10_isSo_2 : decode mX10_isSo.2.1 2 = .ok (.invokevirtual 428, 3) := by decide +kernel
theorem dX10_isSo_5 : decode mX10_isSo.2.1 5 = .ok (.ifCond .ne 5, 3) := by decide +kernel
theorem dX10_isSo_8 : decode mX10_isSo.2.1 8 = .ok (.iconst 0, 1) := by decide +kernel
theorem dX10_isSo_9 : decode mX10_isSo.2.1 9 = .ok (.ireturn, 1) := by decide +kernel
theorem dX10_isSo_10 : decode mX10_isSo.2.1 10 = .ok (.aload_n 0, 1) := by decide +kernel
theorem dX10_isSo_11 : decode mX10_isSo.2.1 11 = .ok (.iload_n 2, 1) := by decide +kernel
theorem dX10_isSo_12 : decode mX10_isSo.2.1 12 = .ok (.iload_n 3, 1) := by decide +kernel
theorem dX10_isSo_13 : decode mX10_isSo.2.1 13 = .ok (.iload 4, 2) := by decide +kernel
theorem dX10_isSo_15 : decode mX10_isSo.2.1 15 = .ok (.invokevirtual 424, 3) := by decide +kernel
theorem dX10_isSo_18 : decode mX10_isSo.2.1 18 = .ok (.aload_n 0, 1) := by decide +kernel
theorem dX10_isSo_19 : decode mX10_isSo.2.1 19 = .ok (.getfield 186, 3) := by decide +kernel
theorem dX10_isSo_22 : decode mX10_isSo.2.1 22 = .ok (.bipush 9, 2) := by decide +kernel
theorem dX10_isSo_24 : decode mX10_isSo.2.1 24 = .ok (.aload_n 0, 1) := by decide +kernel
theorem dX10_isSo_25 : decode mX10_isSo.2.1 25 = .ok (.getfield 75, 3) := by decide +kernel
theorem dX10_isSo_28 : decode mX10_isSo.2.1 28 = .ok (.bipush 6, 2) := by decide +kernel
theorem dX10_isSo_30 : decode mX10_isSo.2.1 30 = .ok (.aload_n 0, 1) := by decide +kernel
theorem dX10_isSo_31 : decode mX10_isSo.2.1 31 = .ok (.getfield 51, 3) := by decide +kernel
theorem dX10_isSo_34 : decode mX10_isSo.2.1 34 = .ok (.imul, 1) := by decide +kernel
theorem dX10_isSo_35 : decode mX10_isSo.2.1 35 = .ok (.iload 5, 2) := by decide +kernel
theorem dX10_isSo_37 : decode mX10_isSo.2.1 37 = .ok (.iadd, 1) := by decide +kernel
theorem dX10_isSo_38 : decode mX10_isSo.2.1 38 = .ok (.iaload, 1) := by decide +kernel
theorem dX10_isSo_39 : decode mX10_isSo.2.1 39 = .ok (.iastore, 1) := by decide +kernel
theorem dX10_isSo_40 : decode mX10_isSo.2.1 40 = .ok (.aload_n 0, 1) := by decide +kernel
theorem dX10_isSo_41 : decode mX10_isSo.2.1 41 = .ok (.getfield 186, 3) := by decide +kernel
theorem dX10_isSo_44 : decode mX10_isSo.2.1 44 = .ok (.bipush 10, 2) := by decide +kernel
theorem dX10_isSo_46 : decode mX10_isSo.2.1 46 = .ok (.aload_n 0, 1) := by decide +kernel
theorem dX10_isSo_47 : decode mX10_isSo.2.1 47 = .ok (.getfield 78, 3) := by decide +kernel
theorem dX10_isSo_50 : decode mX10_isSo.2.1 50 = .ok (.bipush 6, 2) := by decide +kernel
theorem dX10_isSo_52 : decode mX10_isSo.2.1 52 = .ok (.aload_n 0, 1) := by decide +kernel
theorem dX10_isSo_53 : decode mX10_isSo.2.1 53 = .ok (.getfield 51, 3) := by decide +kernel
theorem dX10_isSo_56 : decode mX10_isSo.2.1 56 = .ok (.imul, 1) := by decide +kernel
theorem dX10_isSo_57 : decode mX10_isSo.2.1 57 = .ok (.iload 5, 2) := by decide +kernel
theorem dX10_isSo_59 : decode mX10_isSo.2.1 59 = .ok (.iadd, 1) := by decide +kernel
theorem dX10_isSo_60 : decode mX10_isSo.2.1 60 = .ok (.iaload, 1) := by decide +kernel
theorem dX10_isSo_61 : decode mX10_isSo.2.1 61 = .ok (.iastore, 1) := by decide +kernel
theorem dX10_isSo_62 : decode mX10_isSo.2.1 62 = .ok (.aload_n 0, 1) := by decide +kernel
theorem dX10_isSo_63 : decode mX10_isSo.2.1 63 = .ok (.getfield 186, 3) := by decide +kernel
theorem dX10_isSo_66 : decode mX10_isSo.2.1 66 = .ok (.bipush 11, 2) := by decide +kernel
theorem dX10_isSo_68 : decode mX10_isSo.2.1 68 = .ok (.iload 6, 2) := by decide +kernel
theorem dX10_isSo_70 : decode mX10_isSo.2.1 70 = .ok (.iastore, 1) := by decide +kernel
theorem dX10_isSo_71 : decode mX10_isSo.2.1 71 = .ok (.aload_n 0, 1) := by decide +kernel
theorem dX10_isSo_72 : decode mX10_isSo.2.1 72 = .ok (.iload_n 1, 1) := by decide +kernel
theorem dX10_isSo_73 : decode mX10_isSo.2.1 73 = .ok (.invokevirtual 431, 3) := by decide +kernel
theorem dX10_isSo_76 : decode mX10_isSo.2.1 76 = .ok (.lconst 1, 1) := by decide +kernel
theorem dX10_isSo_77 : decode mX10_isSo.2.1 77 = .ok (.lcmp, 1) := by decide +kernel
theorem dX10_isSo_78 : decode mX10_isSo.2.1 78 = .ok (.ifCond .ne 7, 3) := by decide +kernel
theorem dX10_isSo_81 : decode mX10_isSo.2.1 81 = .ok (.iconst 1, 1) := by decide +kernel
theorem dX10_isSo_82 : decode mX10_isSo.2.1 82 = .ok (.goto 4, 3) := by decide +kernel
theorem dX10_isSo_85 : decode mX10_isSo.2.1 85 = .ok (.iconst 0, 1) := by decide +kernel
theorem dX10_isSo_86 : decode mX10_isSo.2.1 86 = .ok (.ireturn, 1) := by decide +kernel
abbrev mX10_preaches : aM := (yX10_preaches, cX10_preaches, 8, (some .int))
theorem dX10_preaches_0 : decode mX10_preaches.2.1 0 = .ok (.aload_n 0, 1) := by decide +kernel
theorem dX10_preaches_1 : decode mX10_preaches.2.1 1 = .ok (.getfield 162, 3) := by decide +kernel
theorem dX10_preaches_4 : decode mX10_preaches.2.1 4 = .ok (.bipush 6, 2) := by decide +kernel
theorem dX10_preaches_6 : decode mX10_preaches.2.1 6 = .ok (.iload_n 1, 1) := by decide +kernel
theorem dX10_preaches_7 : decode mX10_preaches.2.1 7 = .ok (.imul, 1) := by decide +kernel
theorem dX10_preaches_8 : decode mX10_preaches.2.1 8 = .ok (.iload_n 3, 1) := by decide +kernel
theorem dX10_preaches_9 : decode mX10_preaches.2.1 9 = .ok (.iadd, 1) := by decide +kernel
theorem dX10_preaches_10 : decode mX10_preaches.2.1 10 = .ok (.iaload, 1) := by decide +kernel
theorem dX10_preaches_11 : decode mX10_preaches.2.1 11 = .ok (.istore 5, 2) := by decide +kernel
theorem dX10_preaches_13 : decode mX10_preaches.2.1 13 = .ok (.aload_n 0, 1) := by decide +kernel
theorem dX10_preaches_14 : decode mX10_preaches.2.1 14 = .ok (.iload_n 1, 1) := by decide +kernel
theorem dX10_preaches_15 : decode mX10_preaches.2.1 15 = .ok (.iload_n 2, 1) := by decide +kernel
theorem dX10_preaches_16 : decode mX10_preaches.2.1 16 = .ok (.iload_n 3, 1) := by decide +kernel
theorem dX10_preaches_17 : decode mX10_preaches.2.1 17 = .ok (.iload 4, 2) := by decide +kernel
theorem dX10_preaches_19 : decode mX10_preaches.2.1 19 = .ok (.invokevirtual 441, 3) := by decide +kernel
theorem dX10_preaches_22 : decode mX10_preaches.2.1 22 = .ok (.pop, 1) := by decide +kernel
theorem dX10_preaches_23 : decode mX10_preaches.2.1 23 = .ok (.iload 5, 2) := by decide +kernel
theorem dX10_preaches_25 : decode mX10_preaches.2.1 25 = .ok (.aload_n 0, 1) := by decide +kernel
theorem dX10_preaches_26 : decode mX10_preaches.2.1 26 = .ok (.getfield 162, 3) := by decide +kernel
theorem dX10_preaches_29 : decode mX10_preaches.2.1 29 = .ok (.bipush 6, 2) := by decide +kernel
theorem dX10_preaches_31 : decode mX10_preaches.2.1 31 = .ok (.iload_n 1, 1) := by decide +kernel
theorem dX10_preaches_32 : decode mX10_preaches.2.1 32 = .ok (.imul, 1) := by decide +kernel
theorem dX10_preaches_33 : decode mX10_preaches.2.1 33 = .ok (.iload_n 3, 1) := by decide +kernel
theorem dX10_preaches_34 : decode mX10_preaches.2.1 34 = .ok (.iadd, 1) := by decide +kernel
theorem dX10_preaches_35 : decode mX10_preaches.2.1 35 = .ok (.iaload, 1) := by decide +kernel
theorem dX10_preaches_36 : decode mX10_preaches.2.1 36 = .ok (.isub, 1) := by decide +kernel
theorem dX10_preaches_37 : decode mX10_preaches.2.1 37 = .ok (.istore 6, 2) := by decide +kernel
theorem dX10_preaches_39 : decode mX10_preaches.2.1 39 = .ok (.iconst 0, 1) := by decide +kernel
theorem dX10_preaches_40 : decode mX10_preaches.2.1 40 = .ok (.istore 7, 2) := by decide +kernel
theorem dX10_preaches_42 : decode mX10_preaches.2.1 42 = .ok (.iload 7, 2) := by decide +kernel
theorem dX10_preaches_44 : decode mX10_preaches.2.1 44 = .ok (.aload_n 0, 1) := by decide +kernel
theorem dX10_preaches_45 : decode mX10_preaches.2.1 45 = .ok (.getfield 72, 3) := by decide +kernel
theorem dX10_preaches_48 : decode mX10_preaches.2.1 48 = .ok (.aload_n 0, 1) := by decide +kernel
theorem dX10_preaches_49 : decode mX10_preaches.2.1 49 = .ok (.getfield 51, 3) := by decide +kernel
theorem dX10_preaches_52 : decode mX10_preaches.2.1 52 = .ok (.iaload, 1) := by decide +kernel
theorem dX10_preaches_53 : decode mX10_preaches.2.1 53 = .ok (.if_icmp .ge 51, 3) := by decide +kernel
theorem dX10_preaches_56 : decode mX10_preaches.2.1 56 = .ok (.aload_n 0, 1) := by decide +kernel
theorem dX10_preaches_57 : decode mX10_preaches.2.1 57 = .ok (.getfield 165, 3) := by decide +kernel
theorem dX10_preaches_60 : decode mX10_preaches.2.1 60 = .ok (.iload_n 1, 1) := by decide +kernel
theorem dX10_preaches_61 : decode mX10_preaches.2.1 61 = .ok (.iaload, 1) := by decide +kernel
theorem dX10_preaches_62 : decode mX10_preaches.2.1 62 = .ok (.iload 7, 2) := by decide +kernel
theorem dX10_preaches_64 : decode mX10_preaches.2.1 64 = .ok (.invokestatic 445, 3) := by decide +kernel
theorem dX10_preaches_67 : decode mX10_preaches.2.1 67 = .ok (.ifCond .ne 31, 3) := by decide +kernel
theorem dX10_preaches_70 : decode mX10_preaches.2.1 70 = .ok (.aload_n 0, 1) := by decide +kernel
theorem dX10_preaches_71 : decode mX10_preaches.2.1 71 = .ok (.iconst 2, 1) := by decide +kernel
theorem dX10_preaches_72 : decode mX10_preaches.2.1 72 = .ok (.iload_n 1, 1) := by decide +kernel
theorem dX10_preaches_73 : decode mX10_preaches.2.1 73 = .ok (.iload_n 2, 1) := by decide +kernel
theorem dX10_preaches_74 : decode mX10_preaches.2.1 74 = .ok (.iload_n 3, 1) := by decide +kernel
theorem dX10_preaches_75 : decode mX10_preaches.2.1 75 = .ok (.iload 7, 2) := by decide +kernel
theorem dX10_preaches_77 : decode mX10_preaches.2.1 77 = .ok (.iload 6, 2) := by decide +kernel
theorem dX10_preaches_79 : decode mX10_preaches.2.1 79 = .ok (.invokevirtual 449, 3) := by decide +kernel
theorem dX10_preaches_82 : decode mX10_preaches.2.1 82 = .ok (.ifCond .eq 16, 3) := by decide +kernel
theorem dX10_preaches_85 : decode mX10_preaches.2.1 85 = .ok (.aload_n 0, 1) := by decide +kernel
theorem dX10_preaches_86 : decode mX10_preaches.2.1 86 = .ok (.getfield 165, 3) := by decide +kernel
theorem dX10_preaches_89 : decode mX10_preaches.2.1 89 = .ok (.iload_n 1, 1) := by decide +kernel
theorem dX10_preaches_90 : decode mX10_preaches.2.1 90 = .ok (.dup2, 1) := by decide +kernel
theorem dX10_preaches_91 : decode mX10_preaches.2.1 91 = .ok (.iaload, 1) := by decide +kernel
theorem dX10_preaches_92 : decode mX10_preaches.2.1 92 = .ok (.iconst 1, 1) := by decide +kernel
theorem dX10_preaches_93 : decode mX10_preaches.2.1 93 = .ok (.iload 7, 2) := by decide +kernel
theorem dX10_preaches_95 : decode mX10_preaches.2.1 95 = .ok (.ishl, 1) := by decide +kernel
theorem dX10_preaches_96 : decode mX10_preaches.2.1 96 = .ok (.ior, 1) := by decide +kernel
theorem dX10_preaches_97 : decode mX10_preaches.2.1 97 = .ok (.iastore, 1) := by decide +kernel
theorem dX10_preaches_98 : decode mX10_preaches.2.1 98 = .ok (.iinc 7 1, 3) := by decide +kernel
theorem dX10_preaches_101 : decode mX10_preaches.2.1 101 = .ok (.goto (-59), 3) := by decide +kernel
theorem dX10_preaches_104 : decode mX10_preaches.2.1 104 = .ok (.aload_n 0, 1) := by decide +kernel
theorem dX10_preaches_105 : decode mX10_preaches.2.1 105 = .ok (.iload_n 1, 1) := by decide +kernel
theorem dX10_preaches_106 : decode mX10_preaches.2.1 106 = .ok (.iload_n 2, 1) := by decide +kernel
theorem dX10_preaches_107 : decode mX10_preaches.2.1 107 = .ok (.iload_n 3, 1) := by decide +kernel
theorem dX10_preaches_108 : decode mX10_preaches.2.1 108 = .ok (.iload 6, 2) := by decide +kernel
theorem dX10_preaches_110 : decode mX10_preaches.2.1 110 = .ok (.invokevirtual 453, 3) := by decide +kernel
theorem dX10_preaches_113 : decode mX10_preaches.2.1 113 = .ok (.iload 6, 2) := by decide +kernel
theorem dX10_preaches_115 : decode mX10_preaches.2.1 115 = .ok (.ireturn, 1) := by decide +kernel
abbrev mX10_deepest : aM := (yX10_deepest, cX10_deepest, 4, (some .int))
theorem dX10_deepest_0 : decode mX10_deepest.2.1 0 = .ok (.iconst (-1), 1) := by decide +kernel
theorem dX10_deepest_1 : decode mX10_deepest.2.1 1 = .ok (.istore_n 2, 1) := by decide +kernel
theorem dX10_deepest_2 : decode mX10_deepest.2.1 2 = .ok (.iconst 0, 1) := by decide +kernel
theorem dX10_deepest_3 : decode mX10_deepest.2.1 3 = .ok (.istore_n 3, 1) := by decide +kernel
theorem dX10_deepest_4 : decode mX10_deepest.2.1 4 = .ok (.iload_n 3, 1) := by decide +kernel
theorem dX10_deepest_5 : decode mX10_deepest.2.1 5 = .ok (.aload_n 0, 1) := by decide +kernel
theorem dX10_deepest_6 : decode mX10_deepest.2.1 6 = .ok (.getfield 63, 3) := by decide +kernel
theorem dX10_deepest_9 : decode mX10_deepest.2.1 9 = .ok (.aload_n 0, 1) := by decide +kernel
theorem dX10_deepest_10 : decode mX10_deepest.2.1 10 = .ok (.getfield 51, 3) := by decide +kernel
theorem dX10_deepest_13 : decode mX10_deepest.2.1 13 = .ok (.iaload, 1) := by decide +kernel
theorem dX10_deepest_14 : decode mX10_deepest.2.1 14 = .ok (.if_icmp .ge 45, 3) := by decide +kernel
theorem dX10_deepest_17 : decode mX10_deepest.2.1 17 = .ok (.aload_n 0, 1) := by decide +kernel
theorem dX10_deepest_18 : decode mX10_deepest.2.1 18 = .ok (.getfield 162, 3) := by decide +kernel
theorem dX10_deepest_21 : decode mX10_deepest.2.1 21 = .ok (.bipush 6, 2) := by decide +kernel
theorem dX10_deepest_23 : decode mX10_deepest.2.1 23 = .ok (.iload_n 1, 1) := by decide +kernel
theorem dX10_deepest_24 : decode mX10_deepest.2.1 24 = .ok (.imul, 1) := by decide +kernel
theorem dX10_deepest_25 : decode mX10_deepest.2.1 25 = .ok (.iload_n 3, 1) := by decide +kernel
theorem dX10_deepest_26 : decode mX10_deepest.2.1 26 = .ok (.iadd, 1) := by decide +kernel
theorem dX10_deepest_27 : decode mX10_deepest.2.1 27 = .ok (.iaload, 1) := by decide +kernel
theorem dX10_deepest_28 : decode mX10_deepest.2.1 28 = .ok (.iload_n 2, 1) := by decide +kernel
theorem dX10_deepest_29 : decode mX10_deepest.2.1 29 = .ok (.iconst (-1), 1) := by decide +kernel
theorem dX10_deepest_30 : decode mX10_deepest.2.1 30 = .ok (.if_icmp .ne 7, 3) := by decide +kernel
theorem dX10_deepest_33 : decode mX10_deepest.2.1 33 = .ok (.iconst 0, 1) := by decide +kernel
theorem dX10_deepest_34 : decode mX10_deepest.2.1 34 = .ok (.goto 14, 3) := by decide +kernel
theorem dX10_deepest_37 : decode mX10_deepest.2.1 37 = .ok (.aload_n 0, 1) := by decide +kernel
theorem dX10_deepest_38 : decode mX10_deepest.2.1 38 = .ok (.getfield 162, 3) := by decide +kernel
theorem dX10_deepest_41 : decode mX10_deepest.2.1 41 = .ok (.bipush 6, 2) := by decide +kernel
theorem dX10_deepest_43 : decode mX10_deepest.2.1 43 = .ok (.iload_n 1, 1) := by decide +kernel
theorem dX10_deepest_44 : decode mX10_deepest.2.1 44 = .ok (.imul, 1) := by decide +kernel
theorem dX10_deepest_45 : decode mX10_deepest.2.1 45 = .ok (.iload_n 2, 1) := by decide +kernel
theorem dX10_deepest_46 : decode mX10_deepest.2.1 46 = .ok (.iadd, 1) := by decide +kernel
theorem dX10_deepest_47 : decode mX10_deepest.2.1 47 = .ok (.iaload, 1) := by decide +kernel
theorem dX10_deepest_48 : decode mX10_deepest.2.1 48 = .ok (.if_icmp .le 5, 3) := by decide +kernel
theorem dX10_deepest_51 : decode mX10_deepest.2.1 51 = .ok (.iload_n 3, 1) := by decide +kernel
theorem dX10_deepest_52 : decode mX10_deepest.2.1 52 = .ok (.istore_n 2, 1) := by decide +kernel
theorem dX10_deepest_53 : decode mX10_deepest.2.1 53 = .ok (.iinc 3 1, 3) := by decide +kernel
theorem dX10_deepest_56 : decode mX10_deepest.2.1 56 = .ok (.goto (-52), 3) := by decide +kernel
theorem dX10_deepest_59 : decode mX10_deepest.2.1 59 = .ok (.iload_n 2, 1) := by decide +kernel
theorem dX10_deepest_60 : decode mX10_deepest.2.1 60 = .ok (.ireturn, 1) := by decide +kernel
abbrev mX10_pick : aM := (yX10_pick, cX10_pick, 9, (some .int))
theorem dX10_pick_0 : decode mX10_pick.2.1 0 = .ok (.iconst (-1), 1) := by decide +kernel
theorem dX10_pick_1 : decode mX10_pick.2.1 1 = .ok (.istore_n 3, 1) := by decide +kernel
theorem dX10_pick_2 : decode mX10_pick.2.1 2 = .ok (.lconst 0, 1) := by decide +kernel
theorem dX10_pick_3 : decode mX10_pick.2.1 3 = .ok (.lstore 4, 2) := by decide +kernel
theorem dX10_pick_5 : decode mX10_pick.2.1 5 = .ok (.iconst 0, 1) := by decide +kernel
theorem dX10_pick_6 : decode mX10_pick.2.1 6 = .ok (.istore 6, 2) := by decide +kernel
theorem dX10_pick_8 : decode mX10_pick.2.1 8 = .ok (.iload 6, 2) := by decide +kernel
theorem dX10_pick_10 : decode mX10_pick.2.1 10 = .ok (.aload_n 0, 1) := by decide +kernel
theorem dX10_pick_11 : decode mX10_pick.2.1 11 = .ok (.getfield 54, 3) := by decide +kernel
theorem dX10_pick_14 : decode mX10_pick.2.1 14 = .ok (.aload_n 0, 1) := by decide +kernel
theorem dX10_pick_15 : decode mX10_pick.2.1 15 = .ok (.getfield 51, 3) := by decide +kernel
theorem dX10_pick_18 : decode mX10_pick.2.1 18 = .ok (.iaload, 1) := by decide +kernel
theorem dX10_pick_19 : decode mX10_pick.2.1 19 = .ok (.if_icmp .ge 59, 3) := by decide +kernel
theorem dX10_pick_22 : decode mX10_pick.2.1 22 = .ok (.aload_n 0, 1) := by decide +kernel
theorem dX10_pick_23 : decode mX10_pick.2.1 23 = .ok (.iload_n 1, 1) := by decide +kernel
theorem dX10_pick_24 : decode mX10_pick.2.1 24 = .ok (.iload 6, 2) := by decide +kernel
theorem dX10_pick_26 : decode mX10_pick.2.1 26 = .ok (.iload_n 2, 1) := by decide +kernel
theorem dX10_pick_27 : decode mX10_pick.2.1 27 = .ok (.invokevirtual 424, 3) := by decide +kernel
theorem dX10_pick_30 : decode mX10_pick.2.1 30 = .ok (.aload_n 0, 1) := by decide +kernel
theorem dX10_pick_31 : decode mX10_pick.2.1 31 = .ok (.iconst 4, 1) := by decide +kernel
theorem dX10_pick_32 : decode mX10_pick.2.1 32 = .ok (.invokevirtual 428, 3) := by decide +kernel
theorem dX10_pick_35 : decode mX10_pick.2.1 35 = .ok (.ifCond .eq 11, 3) := by decide +kernel
theorem dX10_pick_38 : decode mX10_pick.2.1 38 = .ok (.aload_n 0, 1) := by decide +kernel
theorem dX10_pick_39 : decode mX10_pick.2.1 39 = .ok (.iconst 4, 1) := by decide +kernel
theorem dX10_pick_40 : decode mX10_pick.2.1 40 = .ok (.invokevirtual 431, 3) := by decide +kernel
theorem dX10_pick_43 : decode mX10_pick.2.1 43 = .ok (.goto 4, 3) := by decide +kernel
theorem dX10_pick_46 : decode mX10_pick.2.1 46 = .ok (.lconst 0, 1) := by decide +kernel
theorem dX10_pick_47 : decode mX10_pick.2.1 47 = .ok (.lstore 7, 2) := by decide +kernel
theorem dX10_pick_49 : decode mX10_pick.2.1 49 = .ok (.iload_n 3, 1) := by decide +kernel
theorem dX10_pick_50 : decode mX10_pick.2.1 50 = .ok (.iconst (-1), 1) := by decide +kernel
theorem dX10_pick_51 : decode mX10_pick.2.1 51 = .ok (.if_icmp .eq 14, 3) := by decide +kernel
theorem dX10_pick_54 : decode mX10_pick.2.1 54 = .ok (.lload 7, 2) := by decide +kernel
theorem dX10_pick_56 : decode mX10_pick.2.1 56 = .ok (.lload 4, 2) := by decide +kernel
theorem dX10_pick_58 : decode mX10_pick.2.1 58 = .ok (.lcmp, 1) := by decide +kernel
theorem dX10_pick_59 : decode mX10_pick.2.1 59 = .ok (.ifCond .gt 6, 3) := by decide +kernel
theorem dX10_pick_62 : decode mX10_pick.2.1 62 = .ok (.goto 10, 3) := by decide +kernel
theorem dX10_pick_65 : decode mX10_pick.2.1 65 = .ok (.lload 7, 2) := by decide +kernel
theorem dX10_pick_67 : decode mX10_pick.2.1 67 = .ok (.lstore 4, 2) := by decide +kernel
theorem dX10_pick_69 : decode mX10_pick.2.1 69 = .ok (.iload 6, 2) := by decide +kernel
theorem dX10_pick_71 : decode mX10_pick.2.1 71 = .ok (.istore_n 3, 1) := by decide +kernel
theorem dX10_pick_72 : decode mX10_pick.2.1 72 = .ok (.iinc 6 1, 3) := by decide +kernel
theorem dX10_pick_75 : decode mX10_pick.2.1 75 = .ok (.goto (-67), 3) := by decide +kernel
theorem dX10_pick_78 : decode mX10_pick.2.1 78 = .ok (.iload_n 3, 1) := by decide +kernel
theorem dX10_pick_79 : decode mX10_pick.2.1 79 = .ok (.ireturn, 1) := by decide +kernel
abbrev mX10_passes : aM := (yX10_passes, cX10_passes, 8, (some .int))
theorem dX10_passes_0 : decode mX10_passes.2.1 0 = .ok (.aload_n 0, 1) := by decide +kernel
theorem dX10_passes_1 : decode mX10_passes.2.1 1 = .ok (.getfield 165, 3) := by decide +kernel
theorem dX10_passes_4 : decode mX10_passes.2.1 4 = .ok (.iload_n 1, 1) := by decide +kernel
theorem dX10_passes_5 : decode mX10_passes.2.1 5 = .ok (.iaload, 1) := by decide +kernel
theorem dX10_passes_6 : decode mX10_passes.2.1 6 = .ok (.istore_n 3, 1) := by decide +kernel
theorem dX10_passes_7 : decode mX10_passes.2.1 7 = .ok (.iload_n 2, 1) := by decide +kernel
theorem dX10_passes_8 : decode mX10_passes.2.1 8 = .ok (.ifCond .eq 7, 3) := by decide +kernel
theorem dX10_passes_11 : decode mX10_passes.2.1 11 = .ok (.iconst (-1), 1) := by decide +kernel
theorem dX10_passes_12 : decode mX10_passes.2.1 12 = .ok (.goto 8, 3) := by decide +kernel
theorem dX10_passes_15 : decode mX10_passes.2.1 15 = .ok (.aload_n 0, 1) := by decide +kernel
theorem dX10_passes_16 : decode mX10_passes.2.1 16 = .ok (.iload_n 1, 1) := by decide +kernel
theorem dX10_passes_17 : decode mX10_passes.2.1 17 = .ok (.invokevirtual 456, 3) := by decide +kernel
theorem dX10_passes_20 : decode mX10_passes.2.1 20 = .ok (.istore 4, 2) := by decide +kernel
theorem dX10_passes_22 : decode mX10_passes.2.1 22 = .ok (.iload 4, 2) := by decide +kernel
theorem dX10_passes_24 : decode mX10_passes.2.1 24 = .ok (.iconst (-1), 1) := by decide +kernel
theorem dX10_passes_25 : decode mX10_passes.2.1 25 = .ok (.if_icmp .ne 7, 3) := by decide +kernel
theorem dX10_passes_28 : decode mX10_passes.2.1 28 = .ok (.iconst (-1), 1) := by decide +kernel
theorem dX10_passes_29 : decode mX10_passes.2.1 29 = .ok (.goto 10, 3) := by decide +kernel
theorem dX10_passes_32 : decode mX10_passes.2.1 32 = .ok (.aload_n 0, 1) := by decide +kernel
theorem dX10_passes_33 : decode mX10_passes.2.1 33 = .ok (.iload_n 1, 1) := by decide +kernel
theorem dX10_passes_34 : decode mX10_passes.2.1 34 = .ok (.iload 4, 2) := by decide +kernel
theorem dX10_passes_36 : decode mX10_passes.2.1 36 = .ok (.invokevirtual 459, 3) := by decide +kernel
theorem dX10_passes_39 : decode mX10_passes.2.1 39 = .ok (.istore 5, 2) := by decide +kernel
theorem dX10_passes_41 : decode mX10_passes.2.1 41 = .ok (.iload 5, 2) := by decide +kernel
theorem dX10_passes_43 : decode mX10_passes.2.1 43 = .ok (.iconst (-1), 1) := by decide +kernel
theorem dX10_passes_44 : decode mX10_passes.2.1 44 = .ok (.if_icmp .ne 7, 3) := by decide +kernel
theorem dX10_passes_47 : decode mX10_passes.2.1 47 = .ok (.iconst 0, 1) := by decide +kernel
theorem dX10_passes_48 : decode mX10_passes.2.1 48 = .ok (.goto 26, 3) := by decide +kernel
theorem dX10_passes_51 : decode mX10_passes.2.1 51 = .ok (.aload_n 0, 1) := by decide +kernel
theorem dX10_passes_52 : decode mX10_passes.2.1 52 = .ok (.iload_n 1, 1) := by decide +kernel
theorem dX10_passes_53 : decode mX10_passes.2.1 53 = .ok (.iload 5, 2) := by decide +kernel
theorem dX10_passes_55 : decode mX10_passes.2.1 55 = .ok (.iload 4, 2) := by decide +kernel
theorem dX10_passes_57 : decode mX10_passes.2.1 57 = .ok (.aload_n 0, 1) := by decide +kernel
theorem dX10_passes_58 : decode mX10_passes.2.1 58 = .ok (.getfield 57, 3) := by decide +kernel
theorem dX10_passes_61 : decode mX10_passes.2.1 61 = .ok (.iconst 5, 1) := by decide +kernel
theorem dX10_passes_62 : decode mX10_passes.2.1 62 = .ok (.aload_n 0, 1) := by decide +kernel
theorem dX10_passes_63 : decode mX10_passes.2.1 63 = .ok (.getfield 51, 3) := by decide +kernel
theorem dX10_passes_66 : decode mX10_passes.2.1 66 = .ok (.imul, 1) := by decide +kernel
theorem dX10_passes_67 : decode mX10_passes.2.1 67 = .ok (.iload 5, 2) := by decide +kernel
theorem dX10_passes_69 : decode mX10_passes.2.1 69 = .ok (.iadd, 1) := by decide +kernel
theorem dX10_passes_70 : decode mX10_passes.2.1 70 = .ok (.iaload, 1) := by decide +kernel
theorem dX10_passes_71 : decode mX10_passes.2.1 71 = .ok (.invokevirtual 462, 3) := by decide +kernel
theorem dX10_passes_74 : decode mX10_passes.2.1 74 = .ok (.istore 6, 2) := by decide +kernel
theorem dX10_passes_76 : decode mX10_passes.2.1 76 = .ok (.iconst 0, 1) := by decide +kernel
theorem dX10_passes_77 : decode mX10_passes.2.1 77 = .ok (.istore 7, 2) := by decide +kernel
theorem dX10_passes_79 : decode mX10_passes.2.1 79 = .ok (.iload 7, 2) := by decide +kernel
theorem dX10_passes_81 : decode mX10_passes.2.1 81 = .ok (.aload_n 0, 1) := by decide +kernel
theorem dX10_passes_82 : decode mX10_passes.2.1 82 = .ok (.getfield 72, 3) := by decide +kernel
theorem dX10_passes_85 : decode mX10_passes.2.1 85 = .ok (.aload_n 0, 1) := by decide +kernel
theorem dX10_passes_86 : decode mX10_passes.2.1 86 = .ok (.getfield 51, 3) := by decide +kernel
theorem dX10_passes_89 : decode mX10_passes.2.1 89 = .ok (.iaload, 1) := by decide +kernel
theorem dX10_passes_90 : decode mX10_passes.2.1 90 = .ok (.if_icmp .ge 60, 3) := by decide +kernel
theorem dX10_passes_93 : decode mX10_passes.2.1 93 = .ok (.iload_n 3, 1) := by decide +kernel
theorem dX10_passes_94 : decode mX10_passes.2.1 94 = .ok (.iload 7, 2) := by decide +kernel
theorem dX10_passes_96 : decode mX10_passes.2.1 96 = .ok (.invokestatic 445, 3) := by decide +kernel
theorem dX10_passes_99 : decode mX10_passes.2.1 99 = .ok (.ifCond .eq 45, 3) := by decide +kernel
theorem dX10_passes_102 : decode mX10_passes.2.1 102 = .ok (.aload_n 0, 1) := by decide +kernel
theorem dX10_passes_103 : decode mX10_passes.2.1 103 = .ok (.iconst 3, 1) := by decide +kernel
theorem dX10_passes_104 : decode mX10_passes.2.1 104 = .ok (.iload_n 1, 1) := by decide +kernel
theorem dX10_passes_105 : decode mX10_passes.2.1 105 = .ok (.iload 5, 2) := by decide +kernel
theorem dX10_passes_107 : decode mX10_passes.2.1 107 = .ok (.iload 5, 2) := by decide +kernel
theorem dX10_passes_109 : decode mX10_passes.2.1 109 = .ok (.iconst (-1), 1) := by decide +kernel
theorem dX10_passes_110 : decode mX10_passes.2.1 110 = .ok (.if_icmp .ne 7, 3) := by decide +kernel
theorem dX10_passes_113 : decode mX10_passes.2.1 113 = .ok (.iconst (-1), 1) := by decide +kernel
theorem dX10_passes_114 : decode mX10_passes.2.1 114 = .ok (.goto 5, 3) := by decide +kernel
theorem dX10_passes_117 : decode mX10_passes.2.1 117 = .ok (.iload 4, 2) := by decide +kernel
theorem dX10_passes_119 : decode mX10_passes.2.1 119 = .ok (.iload 7, 2) := by decide +kernel
theorem dX10_passes_121 : decode mX10_passes.2.1 121 = .ok (.iload 6, 2) := by decide +kernel
theorem dX10_passes_123 : decode mX10_passes.2.1 123 = .ok (.invokevirtual 449, 3) := by decide +kernel
theorem dX10_passes_126 : decode mX10_passes.2.1 126 = .ok (.ifCond .eq 18, 3) := by decide +kernel
theorem dX10_passes_129 : decode mX10_passes.2.1 129 = .ok (.aload_n 0, 1) := by decide +kernel
theorem dX10_passes_130 : decode mX10_passes.2.1 130 = .ok (.getfield 165, 3) := by decide +kernel
theorem dX10_passes_133 : decode mX10_passes.2.1 133 = .ok (.iload_n 1, 1) := by decide +kernel
theorem dX10_passes_134 : decode mX10_passes.2.1 134 = .ok (.dup2, 1) := by decide +kernel
theorem dX10_passes_135 : decode mX10_passes.2.1 135 = .ok (.iaload, 1) := by decide +kernel
theorem dX10_passes_136 : decode mX10_passes.2.1 136 = .ok (.iconst 1, 1) := by decide +kernel
theorem dX10_passes_137 : decode mX10_passes.2.1 137 = .ok (.iload 7, 2) := by decide +kernel
theorem dX10_passes_139 : decode mX10_passes.2.1 139 = .ok (.ishl, 1) := by decide +kernel
theorem dX10_passes_140 : decode mX10_passes.2.1 140 = .ok (.iconst (-1), 1) := by decide +kernel
theorem dX10_passes_141 : decode mX10_passes.2.1 141 = .ok (.ixor, 1) := by decide +kernel
theorem dX10_passes_142 : decode mX10_passes.2.1 142 = .ok (.iand, 1) := by decide +kernel
theorem dX10_passes_143 : decode mX10_passes.2.1 143 = .ok (.iastore, 1) := by decide +kernel
theorem dX10_passes_144 : decode mX10_passes.2.1 144 = .ok (.iinc 7 1, 3) := by decide +kernel
theorem dX10_passes_147 : decode mX10_passes.2.1 147 = .ok (.goto (-68), 3) := by decide +kernel
theorem dX10_passes_150 : decode mX10_passes.2.1 150 = .ok (.aload_n 0, 1) := by decide +kernel
theorem dX10_passes_151 : decode mX10_passes.2.1 151 = .ok (.getfield 153, 3) := by decide +kernel
theorem dX10_passes_154 : decode mX10_passes.2.1 154 = .ok (.iload_n 1, 1) := by decide +kernel
theorem dX10_passes_155 : decode mX10_passes.2.1 155 = .ok (.dup2, 1) := by decide +kernel
theorem dX10_passes_156 : decode mX10_passes.2.1 156 = .ok (.iaload, 1) := by decide +kernel
theorem dX10_passes_157 : decode mX10_passes.2.1 157 = .ok (.iconst 1, 1) := by decide +kernel
theorem dX10_passes_158 : decode mX10_passes.2.1 158 = .ok (.iadd, 1) := by decide +kernel
theorem dX10_passes_159 : decode mX10_passes.2.1 159 = .ok (.iastore, 1) := by decide +kernel
theorem dX10_passes_160 : decode mX10_passes.2.1 160 = .ok (.iload 6, 2) := by decide +kernel
theorem dX10_passes_162 : decode mX10_passes.2.1 162 = .ok (.ireturn, 1) := by decide +kernel
abbrev mX10_isBoard : aM := (yX10_isBoard, cX10_isBoard, 2, (some .boolean))
theorem dX10_isBoard_0 : decode mX10_isBoard.2.1 0 = .ok (.iload_n 1, 1) := by decide +kernel
theorem dX10_isBoard_1 : decode mX10_isBoard.2.1 1 = .ok (.ifCond .lt 20, 3) := by decide +kernel
theorem dX10_isBoard_4 : decode mX10_isBoard.2.1 4 = .ok (.iload_n 1, 1) := by decide +kernel
theorem dX10_isBoard_5 : decode mX10_isBoard.2.1 5 = .ok (.aload_n 0, 1) := by decide +kernel
theorem dX10_isBoard_6 : decode mX10_isBoard.2.1 6 = .ok (.getfield 54, 3) := by decide +kernel
theorem dX10_isBoard_9 : decode mX10_isBoard.2.1 9 = .ok (.aload_n 0, 1) := by decide +kernel
theorem dX10_isBoard_10 : decode mX10_isBoard.2.1 10 = .ok (.getfield 51, 3) := by decide +kernel
theorem dX10_isBoard_13 : decode mX10_isBoard.2.1 13 = .ok (.iaload, 1) := by decide +kernel
theorem dX10_isBoard_14 : decode mX10_isBoard.2.1 14 = .ok (.if_icmp .ge 7, 3) := by decide +kernel
theorem dX10_isBoard_17 : decode mX10_isBoard.2.1 17 = .ok (.iconst 1, 1) := by decide +kernel
theorem dX10_isBoard_18 : decode mX10_isBoard.2.1 18 = .ok (.goto 4, 3) := by decide +kernel
theorem dX10_isBoard_21 : decode mX10_isBoard.2.1 21 = .ok (.iconst 0, 1) := by decide +kernel
theorem dX10_isBoard_22 : decode mX10_isBoard.2.1 22 = .ok (.ireturn, 1) := by decide +kernel
abbrev mX10_isStain : aM := (yX10_isStain, cX10_isStain, 2, (some .boolean))
theorem dX10_isStain_0 : decode mX10_isStain.2.1 0 = .ok (.iload_n 1, 1) := by decide +kernel
theorem dX10_isStain_1 : decode mX10_isStain.2.1 1 = .ok (.ifCond .lt 20, 3) := by decide +kernel
theorem dX10_isStain_4 : decode mX10_isStain.2.1 4 = .ok (.iload_n 1, 1) := by decide +kernel
theorem dX10_isStain_5 : decode mX10_isStain.2.1 5 = .ok (.aload_n 0, 1) := by decide +kernel
theorem dX10_isStain_6 : decode mX10_isStain.2.1 6 = .ok (.getfield 63, 3) := by decide +kernel
theorem dX10_isStain_9 : decode mX10_isStain.2.1 9 = .ok (.aload_n 0, 1) := by decide +kernel
theorem dX10_isStain_10 : decode mX10_isStain.2.1 10 = .ok (.getfield 51, 3) := by decide +kernel
theorem dX10_isStain_13 : decode mX10_isStain.2.1 13 = .ok (.iaload, 1) := by decide +kernel
theorem dX10_isStain_14 : decode mX10_isStain.2.1 14 = .ok (.if_icmp .ge 7, 3) := by decide +kernel
theorem dX10_isStain_17 : decode mX10_isStain.2.1 17 = .ok (.iconst 1, 1) := by decide +kernel
theorem dX10_isStain_18 : decode mX10_isStain.2.1 18 = .ok (.goto 4, 3) := by decide +kernel
theorem dX10_isStain_21 : decode mX10_isStain.2.1 21 = .ok (.iconst 0, 1) := by decide +kernel
theorem dX10_isStain_22 : decode mX10_isStain.2.1 22 = .ok (.ireturn, 1) := by decide +kernel
abbrev mX10_bits : aM := (yX10_bits, cX10_bits, 3, (some .int))
theorem dX10_bits_0 : decode mX10_bits.2.1 0 = .ok (.iconst 0, 1) := by decide +kernel
theorem dX10_bits_1 : decode mX10_bits.2.1 1 = .ok (.istore_n 1, 1) := by decide +kernel
theorem dX10_bits_2 : decode mX10_bits.2.1 2 = .ok (.iload_n 0, 1) := by decide +kernel
theorem dX10_bits_3 : decode mX10_bits.2.1 3 = .ok (.istore_n 2, 1) := by decide +kernel
theorem dX10_bits_4 : decode mX10_bits.2.1 4 = .ok (.iload_n 2, 1) := by decide +kernel
theorem dX10_bits_5 : decode mX10_bits.2.1 5 = .ok (.ifCond .eq 15, 3) := by decide +kernel
theorem dX10_bits_8 : decode mX10_bits.2.1 8 = .ok (.iinc 1 1, 3) := by decide +kernel
theorem dX10_bits_11 : decode mX10_bits.2.1 11 = .ok (.iload_n 2, 1) := by decide +kernel
theorem dX10_bits_12 : decode mX10_bits.2.1 12 = .ok (.iload_n 2, 1) := by decide +kernel
theorem dX10_bits_13 : decode mX10_bits.2.1 13 = .ok (.iconst 1, 1) := by decide +kernel
theorem dX10_bits_14 : decode mX10_bits.2.1 14 = .ok (.isub, 1) := by decide +kernel
theorem dX10_bits_15 : decode mX10_bits.2.1 15 = .ok (.iand, 1) := by decide +kernel
theorem dX10_bits_16 : decode mX10_bits.2.1 16 = .ok (.istore_n 2, 1) := by decide +kernel
theorem dX10_bits_17 : decode mX10_bits.2.1 17 = .ok (.goto (-13), 3) := by decide +kernel
theorem dX10_bits_20 : decode mX10_bits.2.1 20 = .ok (.iload_n 1, 1) := by decide +kernel
theorem dX10_bits_21 : decode mX10_bits.2.1 21 = .ok (.ireturn, 1) := by decide +kernel
abbrev mX10_has : aM := (yX10_has, cX10_has, 4, (some .int))
theorem dX10_has_0 : decode mX10_has.2.1 0 = .ok (.iconst 0, 1) := by decide +kernel
theorem dX10_has_1 : decode mX10_has.2.1 1 = .ok (.istore_n 2, 1) := by decide +kernel
theorem dX10_has_2 : decode mX10_has.2.1 2 = .ok (.iload_n 1, 1) := by decide +kernel
theorem dX10_has_3 : decode mX10_has.2.1 3 = .ok (.tableswitch 218 0 11 #[61, 71, 81, 91, 98, 105, 145, 185, 195, 202, 207, 212], 61) := by decide +kernel
theorem dX10_has_64 : decode mX10_has.2.1 64 = .ok (.aload_n 0, 1) := by decide +kernel
theorem dX10_has_65 : decode mX10_has.2.1 65 = .ok (.getfield 54, 3) := by decide +kernel
theorem dX10_has_68 : decode mX10_has.2.1 68 = .ok (.aload_n 0, 1) := by decide +kernel
theorem dX10_has_69 : decode mX10_has.2.1 69 = .ok (.getfield 51, 3) := by decide +kernel
theorem dX10_has_72 : decode mX10_has.2.1 72 = .ok (.iaload, 1) := by decide +kernel
theorem dX10_has_73 : decode mX10_has.2.1 73 = .ok (.ireturn, 1) := by decide +kernel
theorem dX10_has_74 : decode mX10_has.2.1 74 = .ok (.aload_n 0, 1) := by decide +kernel
theorem dX10_has_75 : decode mX10_has.2.1 75 = .ok (.getfield 63, 3) := by decide +kernel
theorem dX10_has_78 : decode mX10_has.2.1 78 = .ok (.aload_n 0, 1) := by decide +kernel
theorem dX10_has_79 : decode mX10_has.2.1 79 = .ok (.getfield 51, 3) := by decide +kernel
theorem dX10_has_82 : decode mX10_has.2.1 82 = .ok (.iaload, 1) := by decide +kernel
theorem dX10_has_83 : decode mX10_has.2.1 83 = .ok (.ireturn, 1) := by decide +kernel
theorem dX10_has_84 : decode mX10_has.2.1 84 = .ok (.aload_n 0, 1) := by decide +kernel
theorem dX10_has_85 : decode mX10_has.2.1 85 = .ok (.getfield 72, 3) := by decide +kernel
theorem dX10_has_88 : decode mX10_has.2.1 88 = .ok (.aload_n 0, 1) := by decide +kernel
theorem dX10_has_89 : decode mX10_has.2.1 89 = .ok (.getfield 51, 3) := by decide +kernel
theorem dX10_has_92 : decode mX10_has.2.1 92 = .ok (.iaload, 1) := by decide +kernel
theorem dX10_has_93 : decode mX10_has.2.1 93 = .ok (.ireturn, 1) := by decide +kernel
theorem dX10_has_94 : decode mX10_has.2.1 94 = .ok (.aload_n 0, 1) := by decide +kernel
theorem dX10_has_95 : decode mX10_has.2.1 95 = .ok (.getfield 153, 3) := by decide +kernel
theorem dX10_has_98 : decode mX10_has.2.1 98 = .ok (.iconst 0, 1) := by decide +kernel
theorem dX10_has_99 : decode mX10_has.2.1 99 = .ok (.iaload, 1) := by decide +kernel
theorem dX10_has_100 : decode mX10_has.2.1 100 = .ok (.ireturn, 1) := by decide +kernel
theorem dX10_has_101 : decode mX10_has.2.1 101 = .ok (.aload_n 0, 1) := by decide +kernel
theorem dX10_has_102 : decode mX10_has.2.1 102 = .ok (.getfield 156, 3) := by decide +kernel
theorem dX10_has_105 : decode mX10_has.2.1 105 = .ok (.iconst 0, 1) := by decide +kernel
theorem dX10_has_106 : decode mX10_has.2.1 106 = .ok (.iaload, 1) := by decide +kernel
theorem dX10_has_107 : decode mX10_has.2.1 107 = .ok (.ireturn, 1) := by decide +kernel
theorem dX10_has_108 : decode mX10_has.2.1 108 = .ok (.iconst 0, 1) := by decide +kernel
theorem dX10_has_109 : decode mX10_has.2.1 109 = .ok (.istore_n 3, 1) := by decide +kernel
theorem dX10_has_110 : decode mX10_has.2.1 110 = .ok (.iload_n 3, 1) := by decide +kernel
theorem dX10_has_111 : decode mX10_has.2.1 111 = .ok (.aload_n 0, 1) := by decide +kernel
theorem dX10_has_112 : decode mX10_has.2.1 112 = .ok (.getfield 63, 3) := by decide +kernel
theorem dX10_has_115 : decode mX10_has.2.1 115 = .ok (.aload_n 0, 1) := by decide +kernel
theorem dX10_has_116 : decode mX10_has.2.1 116 = .ok (.getfield 51, 3) := by decide +kernel
theorem dX10_has_119 : decode mX10_has.2.1 119 = .ok (.iaload, 1) := by decide +kernel
theorem dX10_has_120 : decode mX10_has.2.1 120 = .ok (.if_icmp .ge 26, 3) := by decide +kernel
theorem dX10_has_123 : decode mX10_has.2.1 123 = .ok (.iload_n 2, 1) := by decide +kernel
theorem dX10_has_124 : decode mX10_has.2.1 124 = .ok (.aload_n 0, 1) := by decide +kernel
theorem dX10_has_125 : decode mX10_has.2.1 125 = .ok (.getfield 162, 3) := by decide +kernel
theorem dX10_has_128 : decode mX10_has.2.1 128 = .ok (.iload_n 3, 1) := by decide +kernel
theorem dX10_has_129 : decode mX10_has.2.1 129 = .ok (.iaload, 1) := by decide +kernel
theorem dX10_has_130 : decode mX10_has.2.1 130 = .ok (.ifCond .le 7, 3) := by decide +kernel
theorem dX10_has_133 : decode mX10_has.2.1 133 = .ok (.iconst 1, 1) := by decide +kernel
theorem dX10_has_134 : decode mX10_has.2.1 134 = .ok (.goto 4, 3) := by decide +kernel
theorem dX10_has_137 : decode mX10_has.2.1 137 = .ok (.iconst 0, 1) := by decide +kernel
theorem dX10_has_138 : decode mX10_has.2.1 138 = .ok (.iadd, 1) := by decide +kernel
theorem dX10_has_139 : decode mX10_has.2.1 139 = .ok (.istore_n 2, 1) := by decide +kernel
theorem dX10_has_140 : decode mX10_has.2.1 140 = .ok (.iinc 3 1, 3) := by decide +kernel
theorem dX10_has_143 : decode mX10_has.2.1 143 = .ok (.goto (-33), 3) := by decide +kernel
theorem dX10_has_146 : decode mX10_has.2.1 146 = .ok (.iload_n 2, 1) := by decide +kernel
theorem dX10_has_147 : decode mX10_has.2.1 147 = .ok (.ireturn, 1) := by decide +kernel
theorem dX10_has_148 : decode mX10_has.2.1 148 = .ok (.iconst 0, 1) := by decide +kernel
theorem dX10_has_149 : decode mX10_has.2.1 149 = .ok (.istore_n 3, 1) := by decide +kernel
theorem dX10_has_150 : decode mX10_has.2.1 150 = .ok (.iload_n 3, 1) := by decide +kernel
theorem dX10_has_151 : decode mX10_has.2.1 151 = .ok (.aload_n 0, 1) := by decide +kernel
theorem dX10_has_152 : decode mX10_has.2.1 152 = .ok (.getfield 54, 3) := by decide +kernel
theorem dX10_has_155 : decode mX10_has.2.1 155 = .ok (.aload_n 0, 1) := by decide +kernel
theorem dX10_has_156 : decode mX10_has.2.1 156 = .ok (.getfield 51, 3) := by decide +kernel
theorem dX10_has_159 : decode mX10_has.2.1 159 = .ok (.iaload, 1) := by decide +kernel
theorem dX10_has_160 : decode mX10_has.2.1 160 = .ok (.if_icmp .ge 26, 3) := by decide +kernel
theorem dX10_has_163 : decode mX10_has.2.1 163 = .ok (.iload_n 2, 1) := by decide +kernel
theorem dX10_has_164 : decode mX10_has.2.1 164 = .ok (.aload_n 0, 1) := by decide +kernel
theorem dX10_has_165 : decode mX10_has.2.1 165 = .ok (.getfield 159, 3) := by decide +kernel
theorem dX10_has_168 : decode mX10_has.2.1 168 = .ok (.iload_n 3, 1) := by decide +kernel
theorem dX10_has_169 : decode mX10_has.2.1 169 = .ok (.iaload, 1) := by decide +kernel
theorem dX10_has_170 : decode mX10_has.2.1 170 = .ok (.ifCond .ne 7, 3) := by decide +kernel
theorem dX10_has_173 : decode mX10_has.2.1 173 = .ok (.iconst 1, 1) := by decide +kernel
theorem dX10_has_174 : decode mX10_has.2.1 174 = .ok (.goto 4, 3) := by decide +kernel
theorem dX10_has_177 : decode mX10_has.2.1 177 = .ok (.iconst 0, 1) := by decide +kernel
theorem dX10_has_178 : decode mX10_has.2.1 178 = .ok (.iadd, 1) := by decide +kernel
theorem dX10_has_179 : decode mX10_has.2.1 179 = .ok (.istore_n 2, 1) := by decide +kernel
theorem dX10_has_180 : decode mX10_has.2.1 180 = .ok (.iinc 3 1, 3) := by decide +kernel
theorem dX10_has_183 : decode mX10_has.2.1 183 = .ok (.goto (-33), 3) := by decide +kernel
theorem dX10_has_186 : decode mX10_has.2.1 186 = .ok (.iload_n 2, 1) := by decide +kernel
theorem dX10_has_187 : decode mX10_has.2.1 187 = .ok (.ireturn, 1) := by decide +kernel
theorem dX10_has_188 : decode mX10_has.2.1 188 = .ok (.aload_n 0, 1) := by decide +kernel
theorem dX10_has_189 : decode mX10_has.2.1 189 = .ok (.getfield 165, 3) := by decide +kernel
theorem dX10_has_192 : decode mX10_has.2.1 192 = .ok (.iconst 0, 1) := by decide +kernel
theorem dX10_has_193 : decode mX10_has.2.1 193 = .ok (.iaload, 1) := by decide +kernel
theorem dX10_has_194 : decode mX10_has.2.1 194 = .ok (.invokestatic 465, 3) := by decide +kernel
theorem dX10_has_197 : decode mX10_has.2.1 197 = .ok (.ireturn, 1) := by decide +kernel
theorem dX10_has_198 : decode mX10_has.2.1 198 = .ok (.aload_n 0, 1) := by decide +kernel
theorem dX10_has_199 : decode mX10_has.2.1 199 = .ok (.getfield 168, 3) := by decide +kernel
theorem dX10_has_202 : decode mX10_has.2.1 202 = .ok (.iconst 0, 1) := by decide +kernel
theorem dX10_has_203 : decode mX10_has.2.1 203 = .ok (.iaload, 1) := by decide +kernel
theorem dX10_has_204 : decode mX10_has.2.1 204 = .ok (.ireturn, 1) := by decide +kernel
theorem dX10_has_205 : decode mX10_has.2.1 205 = .ok (.aload_n 0, 1) := by decide +kernel
theorem dX10_has_206 : decode mX10_has.2.1 206 = .ok (.getfield 201, 3) := by decide +kernel
theorem dX10_has_209 : decode mX10_has.2.1 209 = .ok (.ireturn, 1) := by decide +kernel
theorem dX10_has_210 : decode mX10_has.2.1 210 = .ok (.aload_n 0, 1) := by decide +kernel
theorem dX10_has_211 : decode mX10_has.2.1 211 = .ok (.getfield 177, 3) := by decide +kernel
theorem dX10_has_214 : decode mX10_has.2.1 214 = .ok (.ireturn, 1) := by decide +kernel
theorem dX10_has_215 : decode mX10_has.2.1 215 = .ok (.aload_n 0, 1) := by decide +kernel
theorem dX10_has_216 : decode mX10_has.2.1 216 = .ok (.getfield 180, 3) := by decide +kernel
theorem dX10_has_219 : decode mX10_has.2.1 219 = .ok (.l2i, 1) := by decide +kernel
theorem dX10_has_220 : decode mX10_has.2.1 220 = .ok (.ireturn, 1) := by decide +kernel
theorem dX10_has_221 : decode mX10_has.2.1 221 = .ok (.iconst (-1), 1) := by decide +kernel
theorem dX10_has_222 : decode mX10_has.2.1 222 = .ok (.ireturn, 1) := by decide +kernel
abbrev mX10_letter : aM := (yX10_letter, cX10_letter, 9, (some .int))
theorem dX10_letter_0 : decode mX10_letter.2.1 0 = .ok (.iload_n 1, 1) := by decide +kernel
theorem dX10_letter_1 : decode mX10_letter.2.1 1 = .ok (.iconst 0, 1) := by decide +kernel
theorem dX10_letter_2 : decode mX10_letter.2.1 2 = .ok (.iconst 2, 1) := by decide +kernel
theorem dX10_letter_3 : decode mX10_letter.2.1 3 = .ok (.invokestatic 312, 3) := by decide +kernel
theorem dX10_letter_6 : decode mX10_letter.2.1 6 = .ok (.ifCond .eq 31, 3) := by decide +kernel
theorem dX10_letter_9 : decode mX10_letter.2.1 9 = .ok (.iload_n 2, 1) := by decide +kernel
theorem dX10_letter_10 : decode mX10_letter.2.1 10 = .ok (.iconst 0, 1) := by decide +kernel
theorem dX10_letter_11 : decode mX10_letter.2.1 11 = .ok (.aload_n 0, 1) := by decide +kernel
theorem dX10_letter_12 : decode mX10_letter.2.1 12 = .ok (.aload_n 0, 1) := by decide +kernel
theorem dX10_letter_13 : decode mX10_letter.2.1 13 = .ok (.getfield 51, 3) := by decide +kernel
theorem dX10_letter_16 : decode mX10_letter.2.1 16 = .ok (.iload_n 1, 1) := by decide +kernel
theorem dX10_letter_17 : decode mX10_letter.2.1 17 = .ok (.invokevirtual 304, 3) := by decide +kernel
theorem dX10_letter_20 : decode mX10_letter.2.1 20 = .ok (.iconst 1, 1) := by decide +kernel
theorem dX10_letter_21 : decode mX10_letter.2.1 21 = .ok (.isub, 1) := by decide +kernel
theorem dX10_letter_22 : decode mX10_letter.2.1 22 = .ok (.invokestatic 312, 3) := by decide +kernel
theorem dX10_letter_25 : decode mX10_letter.2.1 25 = .ok (.ifCond .eq 12, 3) := by decide +kernel
theorem dX10_letter_28 : decode mX10_letter.2.1 28 = .ok (.iload_n 3, 1) := by decide +kernel
theorem dX10_letter_29 : decode mX10_letter.2.1 29 = .ok (.iconst 0, 1) := by decide +kernel
theorem dX10_letter_30 : decode mX10_letter.2.1 30 = .ok (.iconst 5, 1) := by decide +kernel
theorem dX10_letter_31 : decode mX10_letter.2.1 31 = .ok (.invokestatic 312, 3) := by decide +kernel
theorem dX10_letter_34 : decode mX10_letter.2.1 34 = .ok (.ifCond .ne 5, 3) := by decide +kernel
theorem dX10_letter_37 : decode mX10_letter.2.1 37 = .ok (.iconst (-1), 1) := by decide +kernel
theorem dX10_letter_38 : decode mX10_letter.2.1 38 = .ok (.ireturn, 1) := by decide +kernel
theorem dX10_letter_39 : decode mX10_letter.2.1 39 = .ok (.aload_n 0, 1) := by decide +kernel
theorem dX10_letter_40 : decode mX10_letter.2.1 40 = .ok (.aload_n 0, 1) := by decide +kernel
theorem dX10_letter_41 : decode mX10_letter.2.1 41 = .ok (.getfield 51, 3) := by decide +kernel
theorem dX10_letter_44 : decode mX10_letter.2.1 44 = .ok (.iload_n 1, 1) := by decide +kernel
theorem dX10_letter_45 : decode mX10_letter.2.1 45 = .ok (.iload_n 2, 1) := by decide +kernel
theorem dX10_letter_46 : decode mX10_letter.2.1 46 = .ok (.invokevirtual 308, 3) := by decide +kernel
theorem dX10_letter_49 : decode mX10_letter.2.1 49 = .ok (.lstore 4, 2) := by decide +kernel
theorem dX10_letter_51 : decode mX10_letter.2.1 51 = .ok (.iconst 0, 1) := by decide +kernel
theorem dX10_letter_52 : decode mX10_letter.2.1 52 = .ok (.istore 6, 2) := by decide +kernel
theorem dX10_letter_54 : decode mX10_letter.2.1 54 = .ok (.lload 4, 2) := by decide +kernel
theorem dX10_letter_56 : decode mX10_letter.2.1 56 = .ok (.lstore 7, 2) := by decide +kernel
theorem dX10_letter_58 : decode mX10_letter.2.1 58 = .ok (.lload 7, 2) := by decide +kernel
theorem dX10_letter_60 : decode mX10_letter.2.1 60 = .ok (.lconst 0, 1) := by decide +kernel
theorem dX10_letter_61 : decode mX10_letter.2.1 61 = .ok (.lcmp, 1) := by decide +kernel
theorem dX10_letter_62 : decode mX10_letter.2.1 62 = .ok (.ifCond .le 16, 3) := by decide +kernel
theorem dX10_letter_65 : decode mX10_letter.2.1 65 = .ok (.iinc 6 1, 3) := by decide +kernel
theorem dX10_letter_68 : decode mX10_letter.2.1 68 = .ok (.lload 7, 2) := by decide +kernel
theorem dX10_letter_70 : decode mX10_letter.2.1 70 = .ok (.bipush 8, 2) := by decide +kernel
theorem dX10_letter_72 : decode mX10_letter.2.1 72 = .ok (.lshr, 1) := by decide +kernel
theorem dX10_letter_73 : decode mX10_letter.2.1 73 = .ok (.lstore 7, 2) := by decide +kernel
theorem dX10_letter_75 : decode mX10_letter.2.1 75 = .ok (.goto (-17), 3) := by decide +kernel
theorem dX10_letter_78 : decode mX10_letter.2.1 78 = .ok (.iload_n 3, 1) := by decide +kernel
theorem dX10_letter_79 : decode mX10_letter.2.1 79 = .ok (.iload 6, 2) := by decide +kernel
theorem dX10_letter_81 : decode mX10_letter.2.1 81 = .ok (.if_icmp .lt 7, 3) := by decide +kernel
theorem dX10_letter_84 : decode mX10_letter.2.1 84 = .ok (.iconst 0, 1) := by decide +kernel
theorem dX10_letter_85 : decode mX10_letter.2.1 85 = .ok (.goto 25, 3) := by decide +kernel
theorem dX10_letter_88 : decode mX10_letter.2.1 88 = .ok (.lload 4, 2) := by decide +kernel
theorem dX10_letter_90 : decode mX10_letter.2.1 90 = .ok (.bipush 8, 2) := by decide +kernel
theorem dX10_letter_92 : decode mX10_letter.2.1 92 = .ok (.iload 6, 2) := by decide +kernel
theorem dX10_letter_94 : decode mX10_letter.2.1 94 = .ok (.iconst 1, 1) := by decide +kernel
theorem dX10_letter_95 : decode mX10_letter.2.1 95 = .ok (.isub, 1) := by decide +kernel
theorem dX10_letter_96 : decode mX10_letter.2.1 96 = .ok (.iload_n 3, 1) := by decide +kernel
theorem dX10_letter_97 : decode mX10_letter.2.1 97 = .ok (.isub, 1) := by decide +kernel
theorem dX10_letter_98 : decode mX10_letter.2.1 98 = .ok (.imul, 1) := by decide +kernel
theorem dX10_letter_99 : decode mX10_letter.2.1 99 = .ok (.lshr, 1) := by decide +kernel
theorem dX10_letter_100 : decode mX10_letter.2.1 100 = .ok (.ldc2_w 468, 3) := by decide +kernel
theorem dX10_letter_103 : decode mX10_letter.2.1 103 = .ok (.land, 1) := by decide +kernel
theorem dX10_letter_104 : decode mX10_letter.2.1 104 = .ok (.l2i, 1) := by decide +kernel
theorem dX10_letter_105 : decode mX10_letter.2.1 105 = .ok (.bipush 97, 2) := by decide +kernel
theorem dX10_letter_107 : decode mX10_letter.2.1 107 = .ok (.isub, 1) := by decide +kernel
theorem dX10_letter_108 : decode mX10_letter.2.1 108 = .ok (.iconst 1, 1) := by decide +kernel
theorem dX10_letter_109 : decode mX10_letter.2.1 109 = .ok (.iadd, 1) := by decide +kernel
theorem dX10_letter_110 : decode mX10_letter.2.1 110 = .ok (.ireturn, 1) := by decide +kernel
abbrev mX10_board : aM := (yX10_board, cX10_board, 3, (some .int))
theorem dX10_board_0 : decode mX10_board.2.1 0 = .ok (.aload_n 0, 1) := by decide +kernel
theorem dX10_board_1 : decode mX10_board.2.1 1 = .ok (.iload_n 1, 1) := by decide +kernel
theorem dX10_board_2 : decode mX10_board.2.1 2 = .ok (.invokevirtual 470, 3) := by decide +kernel
theorem dX10_board_5 : decode mX10_board.2.1 5 = .ok (.ifCond .ne 7, 3) := by decide +kernel
theorem dX10_board_8 : decode mX10_board.2.1 8 = .ok (.iconst (-1), 1) := by decide +kernel
theorem dX10_board_9 : decode mX10_board.2.1 9 = .ok (.goto 38, 3) := by decide +kernel
theorem dX10_board_12 : decode mX10_board.2.1 12 = .ok (.iload_n 2, 1) := by decide +kernel
theorem dX10_board_13 : decode mX10_board.2.1 13 = .ok (.ifCond .ne 19, 3) := by decide +kernel
theorem dX10_board_16 : decode mX10_board.2.1 16 = .ok (.aload_n 0, 1) := by decide +kernel
theorem dX10_board_17 : decode mX10_board.2.1 17 = .ok (.getfield 57, 3) := by decide +kernel
theorem dX10_board_20 : decode mX10_board.2.1 20 = .ok (.iconst 5, 1) := by decide +kernel
theorem dX10_board_21 : decode mX10_board.2.1 21 = .ok (.aload_n 0, 1) := by decide +kernel
theorem dX10_board_22 : decode mX10_board.2.1 22 = .ok (.getfield 51, 3) := by decide +kernel
theorem dX10_board_25 : decode mX10_board.2.1 25 = .ok (.imul, 1) := by decide +kernel
theorem dX10_board_26 : decode mX10_board.2.1 26 = .ok (.iload_n 1, 1) := by decide +kernel
theorem dX10_board_27 : decode mX10_board.2.1 27 = .ok (.iadd, 1) := by decide +kernel
theorem dX10_board_28 : decode mX10_board.2.1 28 = .ok (.iaload, 1) := by decide +kernel
theorem dX10_board_29 : decode mX10_board.2.1 29 = .ok (.goto 18, 3) := by decide +kernel
theorem dX10_board_32 : decode mX10_board.2.1 32 = .ok (.iload_n 2, 1) := by decide +kernel
theorem dX10_board_33 : decode mX10_board.2.1 33 = .ok (.iconst 1, 1) := by decide +kernel
theorem dX10_board_34 : decode mX10_board.2.1 34 = .ok (.if_icmp .ne 12, 3) := by decide +kernel
theorem dX10_board_37 : decode mX10_board.2.1 37 = .ok (.aload_n 0, 1) := by decide +kernel
theorem dX10_board_38 : decode mX10_board.2.1 38 = .ok (.getfield 159, 3) := by decide +kernel
theorem dX10_board_41 : decode mX10_board.2.1 41 = .ok (.iload_n 1, 1) := by decide +kernel
theorem dX10_board_42 : decode mX10_board.2.1 42 = .ok (.iaload, 1) := by decide +kernel
theorem dX10_board_43 : decode mX10_board.2.1 43 = .ok (.goto 4, 3) := by decide +kernel
theorem dX10_board_46 : decode mX10_board.2.1 46 = .ok (.iconst (-1), 1) := by decide +kernel
theorem dX10_board_47 : decode mX10_board.2.1 47 = .ok (.ireturn, 1) := by decide +kernel
abbrev mX10_stain : aM := (yX10_stain, cX10_stain, 3, (some .int))
theorem dX10_stain_0 : decode mX10_stain.2.1 0 = .ok (.aload_n 0, 1) := by decide +kernel
theorem dX10_stain_1 : decode mX10_stain.2.1 1 = .ok (.iload_n 1, 1) := by decide +kernel
theorem dX10_stain_2 : decode mX10_stain.2.1 2 = .ok (.invokevirtual 473, 3) := by decide +kernel
theorem dX10_stain_5 : decode mX10_stain.2.1 5 = .ok (.ifCond .ne 7, 3) := by decide +kernel
theorem dX10_stain_8 : decode mX10_stain.2.1 8 = .ok (.iconst (-1), 1) := by decide +kernel
theorem dX10_stain_9 : decode mX10_stain.2.1 9 = .ok (.goto 39, 3) := by decide +kernel
theorem dX10_stain_12 : decode mX10_stain.2.1 12 = .ok (.iload_n 2, 1) := by decide +kernel
theorem dX10_stain_13 : decode mX10_stain.2.1 13 = .ok (.ifCond .ne 12, 3) := by decide +kernel
theorem dX10_stain_16 : decode mX10_stain.2.1 16 = .ok (.aload_n 0, 1) := by decide +kernel
theorem dX10_stain_17 : decode mX10_stain.2.1 17 = .ok (.getfield 162, 3) := by decide +kernel
theorem dX10_stain_20 : decode mX10_stain.2.1 20 = .ok (.iload_n 1, 1) := by decide +kernel
theorem dX10_stain_21 : decode mX10_stain.2.1 21 = .ok (.iaload, 1) := by decide +kernel
theorem dX10_stain_22 : decode mX10_stain.2.1 22 = .ok (.goto 26, 3) := by decide +kernel
theorem dX10_stain_25 : decode mX10_stain.2.1 25 = .ok (.iload_n 2, 1) := by decide +kernel
theorem dX10_stain_26 : decode mX10_stain.2.1 26 = .ok (.iconst 1, 1) := by decide +kernel
theorem dX10_stain_27 : decode mX10_stain.2.1 27 = .ok (.if_icmp .ne 20, 3) := by decide +kernel
theorem dX10_stain_30 : decode mX10_stain.2.1 30 = .ok (.aload_n 0, 1) := by decide +kernel
theorem dX10_stain_31 : decode mX10_stain.2.1 31 = .ok (.getfield 69, 3) := by decide +kernel
theorem dX10_stain_34 : decode mX10_stain.2.1 34 = .ok (.bipush 6, 2) := by decide +kernel
theorem dX10_stain_36 : decode mX10_stain.2.1 36 = .ok (.aload_n 0, 1) := by decide +kernel
theorem dX10_stain_37 : decode mX10_stain.2.1 37 = .ok (.getfield 51, 3) := by decide +kernel
theorem dX10_stain_40 : decode mX10_stain.2.1 40 = .ok (.imul, 1) := by decide +kernel
theorem dX10_stain_41 : decode mX10_stain.2.1 41 = .ok (.iload_n 1, 1) := by decide +kernel
theorem dX10_stain_42 : decode mX10_stain.2.1 42 = .ok (.iadd, 1) := by decide +kernel
theorem dX10_stain_43 : decode mX10_stain.2.1 43 = .ok (.iaload, 1) := by decide +kernel
theorem dX10_stain_44 : decode mX10_stain.2.1 44 = .ok (.goto 4, 3) := by decide +kernel
theorem dX10_stain_47 : decode mX10_stain.2.1 47 = .ok (.iconst (-1), 1) := by decide +kernel
theorem dX10_stain_48 : decode mX10_stain.2.1 48 = .ok (.ireturn, 1) := by decide +kernel
abbrev mX10_hearer : aM := (yX10_hearer, cX10_hearer, 4, (some .int))
theorem dX10_hearer_0 : decode mX10_hearer.2.1 0 = .ok (.iload_n 1, 1) := by decide +kernel
theorem dX10_hearer_1 : decode mX10_hearer.2.1 1 = .ok (.iconst 0, 1) := by decide +kernel
theorem dX10_hearer_2 : decode mX10_hearer.2.1 2 = .ok (.aload_n 0, 1) := by decide +kernel
theorem dX10_hearer_3 : decode mX10_hearer.2.1 3 = .ok (.getfield 72, 3) := by decide +kernel
theorem dX10_hearer_6 : decode mX10_hearer.2.1 6 = .ok (.aload_n 0, 1) := by decide +kernel
theorem dX10_hearer_7 : decode mX10_hearer.2.1 7 = .ok (.getfield 51, 3) := by decide +kernel
theorem dX10_hearer_10 : decode mX10_hearer.2.1 10 = .ok (.iaload, 1) := by decide +kernel
theorem dX10_hearer_11 : decode mX10_hearer.2.1 11 = .ok (.iconst 1, 1) := by decide +kernel
theorem dX10_hearer_12 : decode mX10_hearer.2.1 12 = .ok (.isub, 1) := by decide +kernel
theorem dX10_hearer_13 : decode mX10_hearer.2.1 13 = .ok (.invokestatic 312, 3) := by decide +kernel
theorem dX10_hearer_16 : decode mX10_hearer.2.1 16 = .ok (.ifCond .ne 5, 3) := by decide +kernel
theorem dX10_hearer_19 : decode mX10_hearer.2.1 19 = .ok (.iconst (-1), 1) := by decide +kernel
theorem dX10_hearer_20 : decode mX10_hearer.2.1 20 = .ok (.ireturn, 1) := by decide +kernel
theorem dX10_hearer_21 : decode mX10_hearer.2.1 21 = .ok (.bipush 6, 2) := by decide +kernel
theorem dX10_hearer_23 : decode mX10_hearer.2.1 23 = .ok (.aload_n 0, 1) := by decide +kernel
theorem dX10_hearer_24 : decode mX10_hearer.2.1 24 = .ok (.getfield 51, 3) := by decide +kernel
theorem dX10_hearer_27 : decode mX10_hearer.2.1 27 = .ok (.imul, 1) := by decide +kernel
theorem dX10_hearer_28 : decode mX10_hearer.2.1 28 = .ok (.iload_n 1, 1) := by decide +kernel
theorem dX10_hearer_29 : decode mX10_hearer.2.1 29 = .ok (.iadd, 1) := by decide +kernel
theorem dX10_hearer_30 : decode mX10_hearer.2.1 30 = .ok (.istore_n 3, 1) := by decide +kernel
theorem dX10_hearer_31 : decode mX10_hearer.2.1 31 = .ok (.iload_n 2, 1) := by decide +kernel
theorem dX10_hearer_32 : decode mX10_hearer.2.1 32 = .ok (.ifCond .ne 12, 3) := by decide +kernel
theorem dX10_hearer_35 : decode mX10_hearer.2.1 35 = .ok (.aload_n 0, 1) := by decide +kernel
theorem dX10_hearer_36 : decode mX10_hearer.2.1 36 = .ok (.getfield 75, 3) := by decide +kernel
theorem dX10_hearer_39 : decode mX10_hearer.2.1 39 = .ok (.iload_n 3, 1) := by decide +kernel
theorem dX10_hearer_40 : decode mX10_hearer.2.1 40 = .ok (.iaload, 1) := by decide +kernel
theorem dX10_hearer_41 : decode mX10_hearer.2.1 41 = .ok (.goto 44, 3) := by decide +kernel
theorem dX10_hearer_44 : decode mX10_hearer.2.1 44 = .ok (.iload_n 2, 1) := by decide +kernel
theorem dX10_hearer_45 : decode mX10_hearer.2.1 45 = .ok (.iconst 1, 1) := by decide +kernel
theorem dX10_hearer_46 : decode mX10_hearer.2.1 46 = .ok (.if_icmp .ne 12, 3) := by decide +kernel
theorem dX10_hearer_49 : decode mX10_hearer.2.1 49 = .ok (.aload_n 0, 1) := by decide +kernel
theorem dX10_hearer_50 : decode mX10_hearer.2.1 50 = .ok (.getfield 78, 3) := by decide +kernel
theorem dX10_hearer_53 : decode mX10_hearer.2.1 53 = .ok (.iload_n 3, 1) := by decide +kernel
theorem dX10_hearer_54 : decode mX10_hearer.2.1 54 = .ok (.iaload, 1) := by decide +kernel
theorem dX10_hearer_55 : decode mX10_hearer.2.1 55 = .ok (.goto 30, 3) := by decide +kernel
theorem dX10_hearer_58 : decode mX10_hearer.2.1 58 = .ok (.iload_n 2, 1) := by decide +kernel
theorem dX10_hearer_59 : decode mX10_hearer.2.1 59 = .ok (.iconst 2, 1) := by decide +kernel
theorem dX10_hearer_60 : decode mX10_hearer.2.1 60 = .ok (.if_icmp .ne 24, 3) := by decide +kernel
theorem dX10_hearer_63 : decode mX10_hearer.2.1 63 = .ok (.aload_n 0, 1) := by decide +kernel
theorem dX10_hearer_64 : decode mX10_hearer.2.1 64 = .ok (.getfield 165, 3) := by decide +kernel
theorem dX10_hearer_67 : decode mX10_hearer.2.1 67 = .ok (.iconst 0, 1) := by decide +kernel
theorem dX10_hearer_68 : decode mX10_hearer.2.1 68 = .ok (.iaload, 1) := by decide +kernel
theorem dX10_hearer_69 : decode mX10_hearer.2.1 69 = .ok (.iload_n 1, 1) := by decide +kernel
theorem dX10_hearer_70 : decode mX10_hearer.2.1 70 = .ok (.invokestatic 445, 3) := by decide +kernel
theorem dX10_hearer_73 : decode mX10_hearer.2.1 73 = .ok (.ifCond .eq 7, 3) := by decide +kernel
theorem dX10_hearer_76 : decode mX10_hearer.2.1 76 = .ok (.iconst 1, 1) := by decide +kernel
theorem dX10_hearer_77 : decode mX10_hearer.2.1 77 = .ok (.goto 8, 3) := by decide +kernel
theorem dX10_hearer_80 : decode mX10_hearer.2.1 80 = .ok (.iconst 0, 1) := by decide +kernel
theorem dX10_hearer_81 : decode mX10_hearer.2.1 81 = .ok (.goto 4, 3) := by decide +kernel
theorem dX10_hearer_84 : decode mX10_hearer.2.1 84 = .ok (.iconst (-1), 1) := by decide +kernel
theorem dX10_hearer_85 : decode mX10_hearer.2.1 85 = .ok (.ireturn, 1) := by decide +kernel
abbrev mX10_strokes : aM := (yX10_strokes, cX10_strokes, 4, (some .int))
theorem dX10_strokes_0 : decode mX10_strokes.2.1 0 = .ok (.aload_n 0, 1) := by decide +kernel
theorem dX10_strokes_1 : decode mX10_strokes.2.1 1 = .ok (.iload_n 1, 1) := by decide +kernel
theorem dX10_strokes_2 : decode mX10_strokes.2.1 2 = .ok (.invokevirtual 470, 3) := by decide +kernel
theorem dX10_strokes_5 : decode mX10_strokes.2.1 5 = .ok (.ifCond .eq 21, 3) := by decide +kernel
theorem dX10_strokes_8 : decode mX10_strokes.2.1 8 = .ok (.aload_n 0, 1) := by decide +kernel
theorem dX10_strokes_9 : decode mX10_strokes.2.1 9 = .ok (.iload_n 2, 1) := by decide +kernel
theorem dX10_strokes_10 : decode mX10_strokes.2.1 10 = .ok (.invokevirtual 473, 3) := by decide +kernel
theorem dX10_strokes_13 : decode mX10_strokes.2.1 13 = .ok (.ifCond .eq 13, 3) := by decide +kernel
theorem dX10_strokes_16 : decode mX10_strokes.2.1 16 = .ok (.iload_n 3, 1) := by decide +kernel
theorem dX10_strokes_17 : decode mX10_strokes.2.1 17 = .ok (.iconst 0, 1) := by decide +kernel
theorem dX10_strokes_18 : decode mX10_strokes.2.1 18 = .ok (.bipush 40, 2) := by decide +kernel
theorem dX10_strokes_20 : decode mX10_strokes.2.1 20 = .ok (.invokestatic 312, 3) := by decide +kernel
theorem dX10_strokes_23 : decode mX10_strokes.2.1 23 = .ok (.ifCond .ne 5, 3) := by decide +kernel
theorem dX10_strokes_26 : decode mX10_strokes.2.1 26 = .ok (.iconst (-1), 1) := by decide +kernel
theorem dX10_strokes_27 : decode mX10_strokes.2.1 27 = .ok (.ireturn, 1) := by decide +kernel
theorem dX10_strokes_28 : decode mX10_strokes.2.1 28 = .ok (.aload_n 0, 1) := by decide +kernel
theorem dX10_strokes_29 : decode mX10_strokes.2.1 29 = .ok (.iconst 1, 1) := by decide +kernel
theorem dX10_strokes_30 : decode mX10_strokes.2.1 30 = .ok (.iconst 0, 1) := by decide +kernel
theorem dX10_strokes_31 : decode mX10_strokes.2.1 31 = .ok (.invokevirtual 405, 3) := by decide +kernel
theorem dX10_strokes_34 : decode mX10_strokes.2.1 34 = .ok (.aload_n 0, 1) := by decide +kernel
theorem dX10_strokes_35 : decode mX10_strokes.2.1 35 = .ok (.iconst 1, 1) := by decide +kernel
theorem dX10_strokes_36 : decode mX10_strokes.2.1 36 = .ok (.iload_n 1, 1) := by decide +kernel
theorem dX10_strokes_37 : decode mX10_strokes.2.1 37 = .ok (.iload_n 2, 1) := by decide +kernel
theorem dX10_strokes_38 : decode mX10_strokes.2.1 38 = .ok (.iload_n 3, 1) := by decide +kernel
theorem dX10_strokes_39 : decode mX10_strokes.2.1 39 = .ok (.invokevirtual 441, 3) := by decide +kernel
theorem dX10_strokes_42 : decode mX10_strokes.2.1 42 = .ok (.pop, 1) := by decide +kernel
theorem dX10_strokes_43 : decode mX10_strokes.2.1 43 = .ok (.aload_n 0, 1) := by decide +kernel
theorem dX10_strokes_44 : decode mX10_strokes.2.1 44 = .ok (.getfield 162, 3) := by decide +kernel
theorem dX10_strokes_47 : decode mX10_strokes.2.1 47 = .ok (.bipush 6, 2) := by decide +kernel
theorem dX10_strokes_49 : decode mX10_strokes.2.1 49 = .ok (.iload_n 2, 1) := by decide +kernel
theorem dX10_strokes_50 : decode mX10_strokes.2.1 50 = .ok (.iadd, 1) := by decide +kernel
theorem dX10_strokes_51 : decode mX10_strokes.2.1 51 = .ok (.iaload, 1) := by decide +kernel
theorem dX10_strokes_52 : decode mX10_strokes.2.1 52 = .ok (.ireturn, 1) := by decide +kernel
abbrev mX10_brings : aM := (yX10_brings, cX10_brings, 4, (some .int))
theorem dX10_brings_0 : decode mX10_brings.2.1 0 = .ok (.aload_n 0, 1) := by decide +kernel
theorem dX10_brings_1 : decode mX10_brings.2.1 1 = .ok (.iconst 1, 1) := by decide +kernel
theorem dX10_brings_2 : decode mX10_brings.2.1 2 = .ok (.iload_n 1, 1) := by decide +kernel
theorem dX10_brings_3 : decode mX10_brings.2.1 3 = .ok (.iload_n 2, 1) := by decide +kernel
theorem dX10_brings_4 : decode mX10_brings.2.1 4 = .ok (.bipush 99, 2) := by decide +kernel
theorem dX10_brings_6 : decode mX10_brings.2.1 6 = .ok (.invokevirtual 441, 3) := by decide +kernel
theorem dX10_brings_9 : decode mX10_brings.2.1 9 = .ok (.istore_n 3, 1) := by decide +kernel
theorem dX10_brings_10 : decode mX10_brings.2.1 10 = .ok (.aload_n 0, 1) := by decide +kernel
theorem dX10_brings_11 : decode mX10_brings.2.1 11 = .ok (.getfield 162, 3) := by decide +kernel
theorem dX10_brings_14 : decode mX10_brings.2.1 14 = .ok (.bipush 6, 2) := by decide +kernel
theorem dX10_brings_16 : decode mX10_brings.2.1 16 = .ok (.iload_n 2, 1) := by decide +kernel
theorem dX10_brings_17 : decode mX10_brings.2.1 17 = .ok (.iadd, 1) := by decide +kernel
theorem dX10_brings_18 : decode mX10_brings.2.1 18 = .ok (.iaload, 1) := by decide +kernel
theorem dX10_brings_19 : decode mX10_brings.2.1 19 = .ok (.ifCond .ne 7, 3) := by decide +kernel
theorem dX10_brings_22 : decode mX10_brings.2.1 22 = .ok (.iload_n 3, 1) := by decide +kernel
theorem dX10_brings_23 : decode mX10_brings.2.1 23 = .ok (.goto 4, 3) := by decide +kernel
theorem dX10_brings_26 : decode mX10_brings.2.1 26 = .ok (.iconst (-1), 1) := by decide +kernel
theorem dX10_brings_27 : decode mX10_brings.2.1 27 = .ok (.ireturn, 1) := by decide +kernel
abbrev mX10_needs : aM := (yX10_needs, cX10_needs, 3, (some .int))
theorem dX10_needs_0 : decode mX10_needs.2.1 0 = .ok (.aload_n 0, 1) := by decide +kernel
theorem dX10_needs_1 : decode mX10_needs.2.1 1 = .ok (.iconst 1, 1) := by decide +kernel
theorem dX10_needs_2 : decode mX10_needs.2.1 2 = .ok (.iconst 0, 1) := by decide +kernel
theorem dX10_needs_3 : decode mX10_needs.2.1 3 = .ok (.invokevirtual 405, 3) := by decide +kernel
theorem dX10_needs_6 : decode mX10_needs.2.1 6 = .ok (.aload_n 0, 1) := by decide +kernel
theorem dX10_needs_7 : decode mX10_needs.2.1 7 = .ok (.iload_n 1, 1) := by decide +kernel
theorem dX10_needs_8 : decode mX10_needs.2.1 8 = .ok (.iload_n 2, 1) := by decide +kernel
theorem dX10_needs_9 : decode mX10_needs.2.1 9 = .ok (.invokevirtual 476, 3) := by decide +kernel
theorem dX10_needs_12 : decode mX10_needs.2.1 12 = .ok (.ireturn, 1) := by decide +kernel
abbrev mX10_needed : aM := (yX10_needed, cX10_needed, 5, (some .int))
theorem dX10_needed_0 : decode mX10_needed.2.1 0 = .ok (.aload_n 0, 1) := by decide +kernel
theorem dX10_needed_1 : decode mX10_needed.2.1 1 = .ok (.iload_n 1, 1) := by decide +kernel
theorem dX10_needed_2 : decode mX10_needed.2.1 2 = .ok (.invokevirtual 470, 3) := by decide +kernel
theorem dX10_needed_5 : decode mX10_needed.2.1 5 = .ok (.ifCond .eq 20, 3) := by decide +kernel
theorem dX10_needed_8 : decode mX10_needed.2.1 8 = .ok (.aload_n 0, 1) := by decide +kernel
theorem dX10_needed_9 : decode mX10_needed.2.1 9 = .ok (.iload_n 2, 1) := by decide +kernel
theorem dX10_needed_10 : decode mX10_needed.2.1 10 = .ok (.invokevirtual 473, 3) := by decide +kernel
theorem dX10_needed_13 : decode mX10_needed.2.1 13 = .ok (.ifCond .eq 12, 3) := by decide +kernel
theorem dX10_needed_16 : decode mX10_needed.2.1 16 = .ok (.iload_n 3, 1) := by decide +kernel
theorem dX10_needed_17 : decode mX10_needed.2.1 17 = .ok (.iconst 0, 1) := by decide +kernel
theorem dX10_needed_18 : decode mX10_needed.2.1 18 = .ok (.iconst 1, 1) := by decide +kernel
theorem dX10_needed_19 : decode mX10_needed.2.1 19 = .ok (.invokestatic 312, 3) := by decide +kernel
theorem dX10_needed_22 : decode mX10_needed.2.1 22 = .ok (.ifCond .ne 5, 3) := by decide +kernel
theorem dX10_needed_25 : decode mX10_needed.2.1 25 = .ok (.iconst (-1), 1) := by decide +kernel
theorem dX10_needed_26 : decode mX10_needed.2.1 26 = .ok (.ireturn, 1) := by decide +kernel
theorem dX10_needed_27 : decode mX10_needed.2.1 27 = .ok (.aload_n 0, 1) := by decide +kernel
theorem dX10_needed_28 : decode mX10_needed.2.1 28 = .ok (.iload_n 1, 1) := by decide +kernel
theorem dX10_needed_29 : decode mX10_needed.2.1 29 = .ok (.iload_n 2, 1) := by decide +kernel
theorem dX10_needed_30 : decode mX10_needed.2.1 30 = .ok (.invokevirtual 479, 3) := by decide +kernel
theorem dX10_needed_33 : decode mX10_needed.2.1 33 = .ok (.istore 4, 2) := by decide +kernel
theorem dX10_needed_35 : decode mX10_needed.2.1 35 = .ok (.iload 4, 2) := by decide +kernel
theorem dX10_needed_37 : decode mX10_needed.2.1 37 = .ok (.iconst (-1), 1) := by decide +kernel
theorem dX10_needed_38 : decode mX10_needed.2.1 38 = .ok (.if_icmp .eq 7, 3) := by decide +kernel
theorem dX10_needed_41 : decode mX10_needed.2.1 41 = .ok (.iload_n 3, 1) := by decide +kernel
theorem dX10_needed_42 : decode mX10_needed.2.1 42 = .ok (.ifCond .ne 8, 3) := by decide +kernel
theorem dX10_needed_45 : decode mX10_needed.2.1 45 = .ok (.iload 4, 2) := by decide +kernel
theorem dX10_needed_47 : decode mX10_needed.2.1 47 = .ok (.goto 19, 3) := by decide +kernel
theorem dX10_needed_50 : decode mX10_needed.2.1 50 = .ok (.aload_n 0, 1) := by decide +kernel
theorem dX10_needed_51 : decode mX10_needed.2.1 51 = .ok (.getfield 159, 3) := by decide +kernel
theorem dX10_needed_54 : decode mX10_needed.2.1 54 = .ok (.iconst 5, 1) := by decide +kernel
theorem dX10_needed_55 : decode mX10_needed.2.1 55 = .ok (.iload_n 1, 1) := by decide +kernel
theorem dX10_needed_56 : decode mX10_needed.2.1 56 = .ok (.iadd, 1) := by decide +kernel
theorem dX10_needed_57 : decode mX10_needed.2.1 57 = .ok (.iaload, 1) := by decide +kernel
theorem dX10_needed_58 : decode mX10_needed.2.1 58 = .ok (.ifCond .le 7, 3) := by decide +kernel
theorem dX10_needed_61 : decode mX10_needed.2.1 61 = .ok (.iconst 1, 1) := by decide +kernel
theorem dX10_needed_62 : decode mX10_needed.2.1 62 = .ok (.goto 4, 3) := by decide +kernel
theorem dX10_needed_65 : decode mX10_needed.2.1 65 = .ok (.iconst 0, 1) := by decide +kernel
theorem dX10_needed_66 : decode mX10_needed.2.1 66 = .ok (.ireturn, 1) := by decide +kernel
abbrev mX10_best : aM := (yX10_best, cX10_best, 6, (some .int))
theorem dX10_best_0 : decode mX10_best.2.1 0 = .ok (.aload_n 0, 1) := by decide +kernel
theorem dX10_best_1 : decode mX10_best.2.1 1 = .ok (.iload_n 1, 1) := by decide +kernel
theorem dX10_best_2 : decode mX10_best.2.1 2 = .ok (.invokevirtual 473, 3) := by decide +kernel
theorem dX10_best_5 : decode mX10_best.2.1 5 = .ok (.ifCond .ne 5, 3) := by decide +kernel
theorem dX10_best_8 : decode mX10_best.2.1 8 = .ok (.iconst (-1), 1) := by decide +kernel
theorem dX10_best_9 : decode mX10_best.2.1 9 = .ok (.ireturn, 1) := by decide +kernel
theorem dX10_best_10 : decode mX10_best.2.1 10 = .ok (.iconst (-1), 1) := by decide +kernel
theorem dX10_best_11 : decode mX10_best.2.1 11 = .ok (.istore_n 2, 1) := by decide +kernel
theorem dX10_best_12 : decode mX10_best.2.1 12 = .ok (.ldc_w 482, 3) := by decide +kernel
theorem dX10_best_15 : decode mX10_best.2.1 15 = .ok (.istore_n 3, 1) := by decide +kernel
theorem dX10_best_16 : decode mX10_best.2.1 16 = .ok (.iconst 0, 1) := by decide +kernel
theorem dX10_best_17 : decode mX10_best.2.1 17 = .ok (.istore 4, 2) := by decide +kernel
theorem dX10_best_19 : decode mX10_best.2.1 19 = .ok (.iload 4, 2) := by decide +kernel
theorem dX10_best_21 : decode mX10_best.2.1 21 = .ok (.aload_n 0, 1) := by decide +kernel
theorem dX10_best_22 : decode mX10_best.2.1 22 = .ok (.getfield 54, 3) := by decide +kernel
theorem dX10_best_25 : decode mX10_best.2.1 25 = .ok (.aload_n 0, 1) := by decide +kernel
theorem dX10_best_26 : decode mX10_best.2.1 26 = .ok (.getfield 51, 3) := by decide +kernel
theorem dX10_best_29 : decode mX10_best.2.1 29 = .ok (.iaload, 1) := by decide +kernel
theorem dX10_best_30 : decode mX10_best.2.1 30 = .ok (.if_icmp .ge 39, 3) := by decide +kernel
theorem dX10_best_33 : decode mX10_best.2.1 33 = .ok (.aload_n 0, 1) := by decide +kernel
theorem dX10_best_34 : decode mX10_best.2.1 34 = .ok (.iload 4, 2) := by decide +kernel
theorem dX10_best_36 : decode mX10_best.2.1 36 = .ok (.iload_n 1, 1) := by decide +kernel
theorem dX10_best_37 : decode mX10_best.2.1 37 = .ok (.invokevirtual 479, 3) := by decide +kernel
theorem dX10_best_40 : decode mX10_best.2.1 40 = .ok (.istore 5, 2) := by decide +kernel
theorem dX10_best_42 : decode mX10_best.2.1 42 = .ok (.iload 5, 2) := by decide +kernel
theorem dX10_best_44 : decode mX10_best.2.1 44 = .ok (.iconst (-1), 1) := by decide +kernel
theorem dX10_best_45 : decode mX10_best.2.1 45 = .ok (.if_icmp .eq 18, 3) := by decide +kernel
theorem dX10_best_48 : decode mX10_best.2.1 48 = .ok (.iload 5, 2) := by decide +kernel
theorem dX10_best_50 : decode mX10_best.2.1 50 = .ok (.iload_n 3, 1) := by decide +kernel
theorem dX10_best_51 : decode mX10_best.2.1 51 = .ok (.if_icmp .lt 6, 3) := by decide +kernel
theorem dX10_best_54 : decode mX10_best.2.1 54 = .ok (.goto 9, 3) := by decide +kernel
theorem dX10_best_57 : decode mX10_best.2.1 57 = .ok (.iload 5, 2) := by decide +kernel
theorem dX10_best_59 : decode mX10_best.2.1 59 = .ok (.istore_n 3, 1) := by decide +kernel
theorem dX10_best_60 : decode mX10_best.2.1 60 = .ok (.iload 4, 2) := by decide +kernel
theorem dX10_best_62 : decode mX10_best.2.1 62 = .ok (.istore_n 2, 1) := by decide +kernel
theorem dX10_best_63 : decode mX10_best.2.1 63 = .ok (.iinc 4 1, 3) := by decide +kernel
theorem dX10_best_66 : decode mX10_best.2.1 66 = .ok (.goto (-47), 3) := by decide +kernel
theorem dX10_best_69 : decode mX10_best.2.1 69 = .ok (.iload_n 2, 1) := by decide +kernel
theorem dX10_best_70 : decode mX10_best.2.1 70 = .ok (.ireturn, 1) := by decide +kernel
abbrev mX10_findsLefts : aM := (yX10_findsLefts, cX10_findsLefts, 3, (some .int))
theorem dX10_findsLefts_0 : decode mX10_findsLefts.2.1 0 = .ok (.iconst 0, 1) := by decide +kernel
theorem dX10_findsLefts_1 : decode mX10_findsLefts.2.1 1 = .ok (.istore_n 1, 1) := by decide +kernel
theorem dX10_findsLefts_2 : decode mX10_findsLefts.2.1 2 = .ok (.iconst 0, 1) := by decide +kernel
theorem dX10_findsLefts_3 : decode mX10_findsLefts.2.1 3 = .ok (.istore_n 2, 1) := by decide +kernel
theorem dX10_findsLefts_4 : decode mX10_findsLefts.2.1 4 = .ok (.iload_n 2, 1) := by decide +kernel
theorem dX10_findsLefts_5 : decode mX10_findsLefts.2.1 5 = .ok (.aload_n 0, 1) := by decide +kernel
theorem dX10_findsLefts_6 : decode mX10_findsLefts.2.1 6 = .ok (.getfield 63, 3) := by decide +kernel
theorem dX10_findsLefts_9 : decode mX10_findsLefts.2.1 9 = .ok (.aload_n 0, 1) := by decide +kernel
theorem dX10_findsLefts_10 : decode mX10_findsLefts.2.1 10 = .ok (.getfield 51, 3) := by decide +kernel
theorem dX10_findsLefts_13 : decode mX10_findsLefts.2.1 13 = .ok (.iaload, 1) := by decide +kernel
theorem dX10_findsLefts_14 : decode mX10_findsLefts.2.1 14 = .ok (.if_icmp .ge 31, 3) := by decide +kernel
theorem dX10_findsLefts_17 : decode mX10_findsLefts.2.1 17 = .ok (.aload_n 0, 1) := by decide +kernel
theorem dX10_findsLefts_18 : decode mX10_findsLefts.2.1 18 = .ok (.getfield 162, 3) := by decide +kernel
theorem dX10_findsLefts_21 : decode mX10_findsLefts.2.1 21 = .ok (.iload_n 2, 1) := by decide +kernel
theorem dX10_findsLefts_22 : decode mX10_findsLefts.2.1 22 = .ok (.iaload, 1) := by decide +kernel
theorem dX10_findsLefts_23 : decode mX10_findsLefts.2.1 23 = .ok (.ifCond .ne 6, 3) := by decide +kernel
theorem dX10_findsLefts_26 : decode mX10_findsLefts.2.1 26 = .ok (.goto 13, 3) := by decide +kernel
theorem dX10_findsLefts_29 : decode mX10_findsLefts.2.1 29 = .ok (.aload_n 0, 1) := by decide +kernel
theorem dX10_findsLefts_30 : decode mX10_findsLefts.2.1 30 = .ok (.getfield 189, 3) := by decide +kernel
theorem dX10_findsLefts_33 : decode mX10_findsLefts.2.1 33 = .ok (.iload_n 1, 1) := by decide +kernel
theorem dX10_findsLefts_34 : decode mX10_findsLefts.2.1 34 = .ok (.iload_n 2, 1) := by decide +kernel
theorem dX10_findsLefts_35 : decode mX10_findsLefts.2.1 35 = .ok (.iastore, 1) := by decide +kernel
theorem dX10_findsLefts_36 : decode mX10_findsLefts.2.1 36 = .ok (.iinc 1 1, 3) := by decide +kernel
theorem dX10_findsLefts_39 : decode mX10_findsLefts.2.1 39 = .ok (.iinc 2 1, 3) := by decide +kernel
theorem dX10_findsLefts_42 : decode mX10_findsLefts.2.1 42 = .ok (.goto (-38), 3) := by decide +kernel
theorem dX10_findsLefts_45 : decode mX10_findsLefts.2.1 45 = .ok (.iload_n 1, 1) := by decide +kernel
theorem dX10_findsLefts_46 : decode mX10_findsLefts.2.1 46 = .ok (.ireturn, 1) := by decide +kernel
abbrev mX10_isNextRow : aM := (yX10_isNextRow, cX10_isNextRow, 6, (some .boolean))
theorem dX10_isNextRow_0 : decode mX10_isNextRow.2.1 0 = .ok (.iload_n 1, 1) := by decide +kernel
theorem dX10_isNextRow_1 : decode mX10_isNextRow.2.1 1 = .ok (.iconst 1, 1) := by decide +kernel
theorem dX10_isNextRow_2 : decode mX10_isNextRow.2.1 2 = .ok (.isub, 1) := by decide +kernel
theorem dX10_isNextRow_3 : decode mX10_isNextRow.2.1 3 = .ok (.istore_n 3, 1) := by decide +kernel
theorem dX10_isNextRow_4 : decode mX10_isNextRow.2.1 4 = .ok (.iload_n 3, 1) := by decide +kernel
theorem dX10_isNextRow_5 : decode mX10_isNextRow.2.1 5 = .ok (.ifCond .lt 148, 3) := by decide +kernel
theorem dX10_isNextRow_8 : decode mX10_isNextRow.2.1 8 = .ok (.aload_n 0, 1) := by decide +kernel
theorem dX10_isNextRow_9 : decode mX10_isNextRow.2.1 9 = .ok (.getfield 192, 3) := by decide +kernel
theorem dX10_isNextRow_12 : decode mX10_isNextRow.2.1 12 = .ok (.iload_n 3, 1) := by decide +kernel
theorem dX10_isNextRow_13 : decode mX10_isNextRow.2.1 13 = .ok (.dup2, 1) := by decide +kernel
theorem dX10_isNextRow_14 : decode mX10_isNextRow.2.1 14 = .ok (.iaload, 1) := by decide +kernel
theorem dX10_isNextRow_15 : decode mX10_isNextRow.2.1 15 = .ok (.iconst 1, 1) := by decide +kernel
theorem dX10_isNextRow_16 : decode mX10_isNextRow.2.1 16 = .ok (.iadd, 1) := by decide +kernel
theorem dX10_isNextRow_17 : decode mX10_isNextRow.2.1 17 = .ok (.iastore, 1) := by decide +kernel
theorem dX10_isNextRow_18 : decode mX10_isNextRow.2.1 18 = .ok (.aload_n 0, 1) := by decide +kernel
theorem dX10_isNextRow_19 : decode mX10_isNextRow.2.1 19 = .ok (.getfield 192, 3) := by decide +kernel
theorem dX10_isNextRow_22 : decode mX10_isNextRow.2.1 22 = .ok (.iload_n 3, 1) := by decide +kernel
theorem dX10_isNextRow_23 : decode mX10_isNextRow.2.1 23 = .ok (.iaload, 1) := by decide +kernel
theorem dX10_isNextRow_24 : decode mX10_isNextRow.2.1 24 = .ok (.iload_n 2, 1) := by decide +kernel
theorem dX10_isNextRow_25 : decode mX10_isNextRow.2.1 25 = .ok (.if_icmp .ge 24, 3) := by decide +kernel
theorem dX10_isNextRow_28 : decode mX10_isNextRow.2.1 28 = .ok (.aload_n 0, 1) := by decide +kernel
theorem dX10_isNextRow_29 : decode mX10_isNextRow.2.1 29 = .ok (.iload_n 3, 1) := by decide +kernel
theorem dX10_isNextRow_30 : decode mX10_isNextRow.2.1 30 = .ok (.invokevirtual 483, 3) := by decide +kernel
theorem dX10_isNextRow_33 : decode mX10_isNextRow.2.1 33 = .ok (.ifCond .eq 16, 3) := by decide +kernel
theorem dX10_isNextRow_36 : decode mX10_isNextRow.2.1 36 = .ok (.aload_n 0, 1) := by decide +kernel
theorem dX10_isNextRow_37 : decode mX10_isNextRow.2.1 37 = .ok (.getfield 192, 3) := by decide +kernel
theorem dX10_isNextRow_40 : decode mX10_isNextRow.2.1 40 = .ok (.iload_n 3, 1) := by decide +kernel
theorem dX10_isNextRow_41 : decode mX10_isNextRow.2.1 41 = .ok (.dup2, 1) := by decide +kernel
theorem dX10_isNextRow_42 : decode mX10_isNextRow.2.1 42 = .ok (.iaload, 1) := by decide +kernel
theorem dX10_isNextRow_43 : decode mX10_isNextRow.2.1 43 = .ok (.iconst 1, 1) := by decide +kernel
theorem dX10_isNextRow_44 : decode mX10_isNextRow.2.1 44 = .ok (.iadd, 1) := by decide +kernel
theorem dX10_isNextRow_45 : decode mX10_isNextRow.2.1 45 = .ok (.iastore, 1) := by decide +kernel
theorem dX10_isNextRow_46 : decode mX10_isNextRow.2.1 46 = .ok (.goto (-28), 3) := by decide +kernel
theorem dX10_isNextRow_49 : decode mX10_isNextRow.2.1 49 = .ok (.aload_n 0, 1) := by decide +kernel
theorem dX10_isNextRow_50 : decode mX10_isNextRow.2.1 50 = .ok (.getfield 192, 3) := by decide +kernel
theorem dX10_isNextRow_53 : decode mX10_isNextRow.2.1 53 = .ok (.iload_n 3, 1) := by decide +kernel
theorem dX10_isNextRow_54 : decode mX10_isNextRow.2.1 54 = .ok (.iaload, 1) := by decide +kernel
theorem dX10_isNextRow_55 : decode mX10_isNextRow.2.1 55 = .ok (.iload_n 2, 1) := by decide +kernel
theorem dX10_isNextRow_56 : decode mX10_isNextRow.2.1 56 = .ok (.if_icmp .ge 91, 3) := by decide +kernel
theorem dX10_isNextRow_59 : decode mX10_isNextRow.2.1 59 = .ok (.iconst 1, 1) := by decide +kernel
theorem dX10_isNextRow_60 : decode mX10_isNextRow.2.1 60 = .ok (.istore 4, 2) := by decide +kernel
theorem dX10_isNextRow_62 : decode mX10_isNextRow.2.1 62 = .ok (.iload_n 3, 1) := by decide +kernel
theorem dX10_isNextRow_63 : decode mX10_isNextRow.2.1 63 = .ok (.iconst 1, 1) := by decide +kernel
theorem dX10_isNextRow_64 : decode mX10_isNextRow.2.1 64 = .ok (.iadd, 1) := by decide +kernel
theorem dX10_isNextRow_65 : decode mX10_isNextRow.2.1 65 = .ok (.istore 5, 2) := by decide +kernel
theorem dX10_isNextRow_67 : decode mX10_isNextRow.2.1 67 = .ok (.iload 5, 2) := by decide +kernel
theorem dX10_isNextRow_69 : decode mX10_isNextRow.2.1 69 = .ok (.iload_n 1, 1) := by decide +kernel
theorem dX10_isNextRow_70 : decode mX10_isNextRow.2.1 70 = .ok (.if_icmp .ge 74, 3) := by decide +kernel
theorem dX10_isNextRow_73 : decode mX10_isNextRow.2.1 73 = .ok (.iload 4, 2) := by decide +kernel
theorem dX10_isNextRow_75 : decode mX10_isNextRow.2.1 75 = .ok (.ifCond .eq 69, 3) := by decide +kernel
theorem dX10_isNextRow_78 : decode mX10_isNextRow.2.1 78 = .ok (.aload_n 0, 1) := by decide +kernel
theorem dX10_isNextRow_79 : decode mX10_isNextRow.2.1 79 = .ok (.getfield 192, 3) := by decide +kernel
theorem dX10_isNextRow_82 : decode mX10_isNextRow.2.1 82 = .ok (.iload 5, 2) := by decide +kernel
theorem dX10_isNextRow_84 : decode mX10_isNextRow.2.1 84 = .ok (.iconst 0, 1) := by decide +kernel
theorem dX10_isNextRow_85 : decode mX10_isNextRow.2.1 85 = .ok (.iastore, 1) := by decide +kernel
theorem dX10_isNextRow_86 : decode mX10_isNextRow.2.1 86 = .ok (.aload_n 0, 1) := by decide +kernel
theorem dX10_isNextRow_87 : decode mX10_isNextRow.2.1 87 = .ok (.getfield 192, 3) := by decide +kernel
theorem dX10_isNextRow_90 : decode mX10_isNextRow.2.1 90 = .ok (.iload 5, 2) := by decide +kernel
theorem dX10_isNextRow_92 : decode mX10_isNextRow.2.1 92 = .ok (.iaload, 1) := by decide +kernel
theorem dX10_isNextRow_93 : decode mX10_isNextRow.2.1 93 = .ok (.iload_n 2, 1) := by decide +kernel
theorem dX10_isNextRow_94 : decode mX10_isNextRow.2.1 94 = .ok (.if_icmp .ge 26, 3) := by decide +kernel
theorem dX10_isNextRow_97 : decode mX10_isNextRow.2.1 97 = .ok (.aload_n 0, 1) := by decide +kernel
theorem dX10_isNextRow_98 : decode mX10_isNextRow.2.1 98 = .ok (.iload 5, 2) := by decide +kernel
theorem dX10_isNextRow_100 : decode mX10_isNextRow.2.1 100 = .ok (.invokevirtual 483, 3) := by decide +kernel
theorem dX10_isNextRow_103 : decode mX10_isNextRow.2.1 103 = .ok (.ifCond .eq 17, 3) := by decide +kernel
theorem dX10_isNextRow_106 : decode mX10_isNextRow.2.1 106 = .ok (.aload_n 0, 1) := by decide +kernel
theorem dX10_isNextRow_107 : decode mX10_isNextRow.2.1 107 = .ok (.getfield 192, 3) := by decide +kernel
theorem dX10_isNextRow_110 : decode mX10_isNextRow.2.1 110 = .ok (.iload 5, 2) := by decide +kernel
theorem dX10_isNextRow_112 : decode mX10_isNextRow.2.1 112 = .ok (.dup2, 1) := by decide +kernel
theorem dX10_isNextRow_113 : decode mX10_isNextRow.2.1 113 = .ok (.iaload, 1) := by decide +kernel
theorem dX10_isNextRow_114 : decode mX10_isNextRow.2.1 114 = .ok (.iconst 1, 1) := by decide +kernel
theorem dX10_isNextRow_115 : decode mX10_isNextRow.2.1 115 = .ok (.iadd, 1) := by decide +kernel
theorem dX10_isNextRow_116 : decode mX10_isNextRow.2.1 116 = .ok (.iastore, 1) := by decide +kernel
theorem dX10_isNextRow_117 : decode mX10_isNextRow.2.1 117 = .ok (.goto (-31), 3) := by decide +kernel
theorem dX10_isNextRow_120 : decode mX10_isNextRow.2.1 120 = .ok (.aload_n 0, 1) := by decide +kernel
theorem dX10_isNextRow_121 : decode mX10_isNextRow.2.1 121 = .ok (.getfield 192, 3) := by decide +kernel
theorem dX10_isNextRow_124 : decode mX10_isNextRow.2.1 124 = .ok (.iload 5, 2) := by decide +kernel
theorem dX10_isNextRow_126 : decode mX10_isNextRow.2.1 126 = .ok (.iaload, 1) := by decide +kernel
theorem dX10_isNextRow_127 : decode mX10_isNextRow.2.1 127 = .ok (.iload_n 2, 1) := by decide +kernel
theorem dX10_isNextRow_128 : decode mX10_isNextRow.2.1 128 = .ok (.if_icmp .ge 7, 3) := by decide +kernel
theorem dX10_isNextRow_131 : decode mX10_isNextRow.2.1 131 = .ok (.iconst 1, 1) := by decide +kernel
theorem dX10_isNextRow_132 : decode mX10_isNextRow.2.1 132 = .ok (.goto 4, 3) := by decide +kernel
theorem dX10_isNextRow_135 : decode mX10_isNextRow.2.1 135 = .ok (.iconst 0, 1) := by decide +kernel
theorem dX10_isNextRow_136 : decode mX10_isNextRow.2.1 136 = .ok (.istore 4, 2) := by decide +kernel
theorem dX10_isNextRow_138 : decode mX10_isNextRow.2.1 138 = .ok (.iinc 5 1, 3) := by decide +kernel
theorem dX10_isNextRow_141 : decode mX10_isNextRow.2.1 141 = .ok (.goto (-74), 3) := by decide +kernel
theorem dX10_isNextRow_144 : decode mX10_isNextRow.2.1 144 = .ok (.iload 4, 2) := by decide +kernel
theorem dX10_isNextRow_146 : decode mX10_isNextRow.2.1 146 = .ok (.ireturn, 1) := by decide +kernel
theorem dX10_isNextRow_147 : decode mX10_isNextRow.2.1 147 = .ok (.iinc 3 (-1), 3) := by decide +kernel
theorem dX10_isNextRow_150 : decode mX10_isNextRow.2.1 150 = .ok (.goto (-146), 3) := by decide +kernel
theorem dX10_isNextRow_153 : decode mX10_isNextRow.2.1 153 = .ok (.iconst 0, 1) := by decide +kernel
theorem dX10_isNextRow_154 : decode mX10_isNextRow.2.1 154 = .ok (.ireturn, 1) := by decide +kernel
abbrev mX10_isIn : aM := (yX10_isIn, cX10_isIn, 3, (some .boolean))
theorem dX10_isIn_0 : decode mX10_isIn.2.1 0 = .ok (.iconst 0, 1) := by decide +kernel
theorem dX10_isIn_1 : decode mX10_isIn.2.1 1 = .ok (.istore_n 2, 1) := by decide +kernel
theorem dX10_isIn_2 : decode mX10_isIn.2.1 2 = .ok (.iload_n 2, 1) := by decide +kernel
theorem dX10_isIn_3 : decode mX10_isIn.2.1 3 = .ok (.iload_n 1, 1) := by decide +kernel
theorem dX10_isIn_4 : decode mX10_isIn.2.1 4 = .ok (.if_icmp .ge 26, 3) := by decide +kernel
theorem dX10_isIn_7 : decode mX10_isIn.2.1 7 = .ok (.aload_n 0, 1) := by decide +kernel
theorem dX10_isIn_8 : decode mX10_isIn.2.1 8 = .ok (.getfield 192, 3) := by decide +kernel
theorem dX10_isIn_11 : decode mX10_isIn.2.1 11 = .ok (.iload_n 2, 1) := by decide +kernel
theorem dX10_isIn_12 : decode mX10_isIn.2.1 12 = .ok (.iaload, 1) := by decide +kernel
theorem dX10_isIn_13 : decode mX10_isIn.2.1 13 = .ok (.aload_n 0, 1) := by decide +kernel
theorem dX10_isIn_14 : decode mX10_isIn.2.1 14 = .ok (.getfield 192, 3) := by decide +kernel
theorem dX10_isIn_17 : decode mX10_isIn.2.1 17 = .ok (.iload_n 1, 1) := by decide +kernel
theorem dX10_isIn_18 : decode mX10_isIn.2.1 18 = .ok (.iaload, 1) := by decide +kernel
theorem dX10_isIn_19 : decode mX10_isIn.2.1 19 = .ok (.if_icmp .ne 5, 3) := by decide +kernel
theorem dX10_isIn_22 : decode mX10_isIn.2.1 22 = .ok (.iconst 1, 1) := by decide +kernel
theorem dX10_isIn_23 : decode mX10_isIn.2.1 23 = .ok (.ireturn, 1) := by decide +kernel
theorem dX10_isIn_24 : decode mX10_isIn.2.1 24 = .ok (.iinc 2 1, 3) := by decide +kernel
theorem dX10_isIn_27 : decode mX10_isIn.2.1 27 = .ok (.goto (-25), 3) := by decide +kernel
theorem dX10_isIn_30 : decode mX10_isIn.2.1 30 = .ok (.iconst 0, 1) := by decide +kernel
theorem dX10_isIn_31 : decode mX10_isIn.2.1 31 = .ok (.ireturn, 1) := by decide +kernel
abbrev mX10_isFirstRow : aM := (yX10_isFirstRow, cX10_isFirstRow, 4, (some .boolean))
theorem dX10_isFirstRow_0 : decode mX10_isFirstRow.2.1 0 = .ok (.iconst 0, 1) := by decide +kernel
theorem dX10_isFirstRow_1 : decode mX10_isFirstRow.2.1 1 = .ok (.istore_n 3, 1) := by decide +kernel
theorem dX10_isFirstRow_2 : decode mX10_isFirstRow.2.1 2 = .ok (.iload_n 3, 1) := by decide +kernel
theorem dX10_isFirstRow_3 : decode mX10_isFirstRow.2.1 3 = .ok (.iload_n 1, 1) := by decide +kernel
theorem dX10_isFirstRow_4 : decode mX10_isFirstRow.2.1 4 = .ok (.if_icmp .ge 16, 3) := by decide +kernel
theorem dX10_isFirstRow_7 : decode mX10_isFirstRow.2.1 7 = .ok (.aload_n 0, 1) := by decide +kernel
theorem dX10_isFirstRow_8 : decode mX10_isFirstRow.2.1 8 = .ok (.getfield 192, 3) := by decide +kernel
theorem dX10_isFirstRow_11 : decode mX10_isFirstRow.2.1 11 = .ok (.iload_n 3, 1) := by decide +kernel
theorem dX10_isFirstRow_12 : decode mX10_isFirstRow.2.1 12 = .ok (.iload_n 3, 1) := by decide +kernel
theorem dX10_isFirstRow_13 : decode mX10_isFirstRow.2.1 13 = .ok (.iastore, 1) := by decide +kernel
theorem dX10_isFirstRow_14 : decode mX10_isFirstRow.2.1 14 = .ok (.iinc 3 1, 3) := by decide +kernel
theorem dX10_isFirstRow_17 : decode mX10_isFirstRow.2.1 17 = .ok (.goto (-15), 3) := by decide +kernel
theorem dX10_isFirstRow_20 : decode mX10_isFirstRow.2.1 20 = .ok (.iload_n 1, 1) := by decide +kernel
theorem dX10_isFirstRow_21 : decode mX10_isFirstRow.2.1 21 = .ok (.iload_n 2, 1) := by decide +kernel
theorem dX10_isFirstRow_22 : decode mX10_isFirstRow.2.1 22 = .ok (.if_icmp .gt 7, 3) := by decide +kernel
theorem dX10_isFirstRow_25 : decode mX10_isFirstRow.2.1 25 = .ok (.iconst 1, 1) := by decide +kernel
theorem dX10_isFirstRow_26 : decode mX10_isFirstRow.2.1 26 = .ok (.goto 4, 3) := by decide +kernel
theorem dX10_isFirstRow_29 : decode mX10_isFirstRow.2.1 29 = .ok (.iconst 0, 1) := by decide +kernel
theorem dX10_isFirstRow_30 : decode mX10_isFirstRow.2.1 30 = .ok (.ireturn, 1) := by decide +kernel
abbrev mX10_matches : aM := (yX10_matches, cX10_matches, 6, (some .int))
theorem dX10_matches_0 : decode mX10_matches.2.1 0 = .ok (.iconst 0, 1) := by decide +kernel
theorem dX10_matches_1 : decode mX10_matches.2.1 1 = .ok (.istore_n 2, 1) := by decide +kernel
theorem dX10_matches_2 : decode mX10_matches.2.1 2 = .ok (.iload_n 2, 1) := by decide +kernel
theorem dX10_matches_3 : decode mX10_matches.2.1 3 = .ok (.iload_n 1, 1) := by decide +kernel
theorem dX10_matches_4 : decode mX10_matches.2.1 4 = .ok (.if_icmp .ge 78, 3) := by decide +kernel
theorem dX10_matches_7 : decode mX10_matches.2.1 7 = .ok (.iconst 0, 1) := by decide +kernel
theorem dX10_matches_8 : decode mX10_matches.2.1 8 = .ok (.istore_n 3, 1) := by decide +kernel
theorem dX10_matches_9 : decode mX10_matches.2.1 9 = .ok (.iload_n 3, 1) := by decide +kernel
theorem dX10_matches_10 : decode mX10_matches.2.1 10 = .ok (.aload_n 0, 1) := by decide +kernel
theorem dX10_matches_11 : decode mX10_matches.2.1 11 = .ok (.getfield 54, 3) := by decide +kernel
theorem dX10_matches_14 : decode mX10_matches.2.1 14 = .ok (.aload_n 0, 1) := by decide +kernel
theorem dX10_matches_15 : decode mX10_matches.2.1 15 = .ok (.getfield 51, 3) := by decide +kernel
theorem dX10_matches_18 : decode mX10_matches.2.1 18 = .ok (.iaload, 1) := by decide +kernel
theorem dX10_matches_19 : decode mX10_matches.2.1 19 = .ok (.if_icmp .ge 57, 3) := by decide +kernel
theorem dX10_matches_22 : decode mX10_matches.2.1 22 = .ok (.aload_n 0, 1) := by decide +kernel
theorem dX10_matches_23 : decode mX10_matches.2.1 23 = .ok (.iload_n 3, 1) := by decide +kernel
theorem dX10_matches_24 : decode mX10_matches.2.1 24 = .ok (.aload_n 0, 1) := by decide +kernel
theorem dX10_matches_25 : decode mX10_matches.2.1 25 = .ok (.getfield 189, 3) := by decide +kernel
theorem dX10_matches_28 : decode mX10_matches.2.1 28 = .ok (.iload_n 2, 1) := by decide +kernel
theorem dX10_matches_29 : decode mX10_matches.2.1 29 = .ok (.iaload, 1) := by decide +kernel
theorem dX10_matches_30 : decode mX10_matches.2.1 30 = .ok (.invokevirtual 479, 3) := by decide +kernel
theorem dX10_matches_33 : decode mX10_matches.2.1 33 = .ok (.istore 4, 2) := by decide +kernel
theorem dX10_matches_35 : decode mX10_matches.2.1 35 = .ok (.aload_n 0, 1) := by decide +kernel
theorem dX10_matches_36 : decode mX10_matches.2.1 36 = .ok (.getfield 198, 3) := by decide +kernel
theorem dX10_matches_39 : decode mX10_matches.2.1 39 = .ok (.iconst 5, 1) := by decide +kernel
theorem dX10_matches_40 : decode mX10_matches.2.1 40 = .ok (.iload_n 2, 1) := by decide +kernel
theorem dX10_matches_41 : decode mX10_matches.2.1 41 = .ok (.imul, 1) := by decide +kernel
theorem dX10_matches_42 : decode mX10_matches.2.1 42 = .ok (.iload_n 3, 1) := by decide +kernel
theorem dX10_matches_43 : decode mX10_matches.2.1 43 = .ok (.iadd, 1) := by decide +kernel
theorem dX10_matches_44 : decode mX10_matches.2.1 44 = .ok (.iload 4, 2) := by decide +kernel
theorem dX10_matches_46 : decode mX10_matches.2.1 46 = .ok (.iconst (-1), 1) := by decide +kernel
theorem dX10_matches_47 : decode mX10_matches.2.1 47 = .ok (.if_icmp .eq 14, 3) := by decide +kernel
theorem dX10_matches_50 : decode mX10_matches.2.1 50 = .ok (.aload_n 0, 1) := by decide +kernel
theorem dX10_matches_51 : decode mX10_matches.2.1 51 = .ok (.getfield 159, 3) := by decide +kernel
theorem dX10_matches_54 : decode mX10_matches.2.1 54 = .ok (.iconst 5, 1) := by decide +kernel
theorem dX10_matches_55 : decode mX10_matches.2.1 55 = .ok (.iload_n 3, 1) := by decide +kernel
theorem dX10_matches_56 : decode mX10_matches.2.1 56 = .ok (.iadd, 1) := by decide +kernel
theorem dX10_matches_57 : decode mX10_matches.2.1 57 = .ok (.iaload, 1) := by decide +kernel
theorem dX10_matches_58 : decode mX10_matches.2.1 58 = .ok (.ifCond .ne 9, 3) := by decide +kernel
theorem dX10_matches_61 : decode mX10_matches.2.1 61 = .ok (.ldc_w 482, 3) := by decide +kernel
theorem dX10_matches_64 : decode mX10_matches.2.1 64 = .ok (.goto 5, 3) := by decide +kernel
theorem dX10_matches_67 : decode mX10_matches.2.1 67 = .ok (.iload 4, 2) := by decide +kernel
theorem dX10_matches_69 : decode mX10_matches.2.1 69 = .ok (.iastore, 1) := by decide +kernel
theorem dX10_matches_70 : decode mX10_matches.2.1 70 = .ok (.iinc 3 1, 3) := by decide +kernel
theorem dX10_matches_73 : decode mX10_matches.2.1 73 = .ok (.goto (-64), 3) := by decide +kernel
theorem dX10_matches_76 : decode mX10_matches.2.1 76 = .ok (.iinc 2 1, 3) := by decide +kernel
theorem dX10_matches_79 : decode mX10_matches.2.1 79 = .ok (.goto (-77), 3) := by decide +kernel
theorem dX10_matches_82 : decode mX10_matches.2.1 82 = .ok (.ldc_w 482, 3) := by decide +kernel
theorem dX10_matches_85 : decode mX10_matches.2.1 85 = .ok (.istore_n 2, 1) := by decide +kernel
theorem dX10_matches_86 : decode mX10_matches.2.1 86 = .ok (.aload_n 0, 1) := by decide +kernel
theorem dX10_matches_87 : decode mX10_matches.2.1 87 = .ok (.iload_n 1, 1) := by decide +kernel
theorem dX10_matches_88 : decode mX10_matches.2.1 88 = .ok (.aload_n 0, 1) := by decide +kernel
theorem dX10_matches_89 : decode mX10_matches.2.1 89 = .ok (.getfield 54, 3) := by decide +kernel
theorem dX10_matches_92 : decode mX10_matches.2.1 92 = .ok (.aload_n 0, 1) := by decide +kernel
theorem dX10_matches_93 : decode mX10_matches.2.1 93 = .ok (.getfield 51, 3) := by decide +kernel
theorem dX10_matches_96 : decode mX10_matches.2.1 96 = .ok (.iaload, 1) := by decide +kernel
theorem dX10_matches_97 : decode mX10_matches.2.1 97 = .ok (.invokevirtual 486, 3) := by decide +kernel
theorem dX10_matches_100 : decode mX10_matches.2.1 100 = .ok (.istore_n 3, 1) := by decide +kernel
theorem dX10_matches_101 : decode mX10_matches.2.1 101 = .ok (.iload_n 3, 1) := by decide +kernel
theorem dX10_matches_102 : decode mX10_matches.2.1 102 = .ok (.ifCond .eq 107, 3) := by decide +kernel
theorem dX10_matches_105 : decode mX10_matches.2.1 105 = .ok (.iconst 0, 1) := by decide +kernel
theorem dX10_matches_106 : decode mX10_matches.2.1 106 = .ok (.istore 4, 2) := by decide +kernel
theorem dX10_matches_108 : decode mX10_matches.2.1 108 = .ok (.iconst 0, 1) := by decide +kernel
theorem dX10_matches_109 : decode mX10_matches.2.1 109 = .ok (.istore 5, 2) := by decide +kernel
theorem dX10_matches_111 : decode mX10_matches.2.1 111 = .ok (.iload 5, 2) := by decide +kernel
theorem dX10_matches_113 : decode mX10_matches.2.1 113 = .ok (.iload_n 1, 1) := by decide +kernel
theorem dX10_matches_114 : decode mX10_matches.2.1 114 = .ok (.if_icmp .ge 39, 3) := by decide +kernel
theorem dX10_matches_117 : decode mX10_matches.2.1 117 = .ok (.iload 4, 2) := by decide +kernel
theorem dX10_matches_119 : decode mX10_matches.2.1 119 = .ok (.ldc_w 482, 3) := by decide +kernel
theorem dX10_matches_122 : decode mX10_matches.2.1 122 = .ok (.if_icmp .ge 31, 3) := by decide +kernel
theorem dX10_matches_125 : decode mX10_matches.2.1 125 = .ok (.iload 4, 2) := by decide +kernel
theorem dX10_matches_127 : decode mX10_matches.2.1 127 = .ok (.aload_n 0, 1) := by decide +kernel
theorem dX10_matches_128 : decode mX10_matches.2.1 128 = .ok (.getfield 198, 3) := by decide +kernel
theorem dX10_matches_131 : decode mX10_matches.2.1 131 = .ok (.iconst 5, 1) := by decide +kernel
theorem dX10_matches_132 : decode mX10_matches.2.1 132 = .ok (.iload 5, 2) := by decide +kernel
theorem dX10_matches_134 : decode mX10_matches.2.1 134 = .ok (.imul, 1) := by decide +kernel
theorem dX10_matches_135 : decode mX10_matches.2.1 135 = .ok (.aload_n 0, 1) := by decide +kernel
theorem dX10_matches_136 : decode mX10_matches.2.1 136 = .ok (.getfield 192, 3) := by decide +kernel
theorem dX10_matches_139 : decode mX10_matches.2.1 139 = .ok (.iload 5, 2) := by decide +kernel
theorem dX10_matches_141 : decode mX10_matches.2.1 141 = .ok (.iaload, 1) := by decide +kernel
theorem dX10_matches_142 : decode mX10_matches.2.1 142 = .ok (.iadd, 1) := by decide +kernel
theorem dX10_matches_143 : decode mX10_matches.2.1 143 = .ok (.iaload, 1) := by decide +kernel
theorem dX10_matches_144 : decode mX10_matches.2.1 144 = .ok (.iadd, 1) := by decide +kernel
theorem dX10_matches_145 : decode mX10_matches.2.1 145 = .ok (.istore 4, 2) := by decide +kernel
theorem dX10_matches_147 : decode mX10_matches.2.1 147 = .ok (.iinc 5 1, 3) := by decide +kernel
theorem dX10_matches_150 : decode mX10_matches.2.1 150 = .ok (.goto (-39), 3) := by decide +kernel
theorem dX10_matches_153 : decode mX10_matches.2.1 153 = .ok (.iload 4, 2) := by decide +kernel
theorem dX10_matches_155 : decode mX10_matches.2.1 155 = .ok (.iload_n 2, 1) := by decide +kernel
theorem dX10_matches_156 : decode mX10_matches.2.1 156 = .ok (.if_icmp .ge 35, 3) := by decide +kernel
theorem dX10_matches_159 : decode mX10_matches.2.1 159 = .ok (.iload 4, 2) := by decide +kernel
theorem dX10_matches_161 : decode mX10_matches.2.1 161 = .ok (.istore_n 2, 1) := by decide +kernel
theorem dX10_matches_162 : decode mX10_matches.2.1 162 = .ok (.iconst 0, 1) := by decide +kernel
theorem dX10_matches_163 : decode mX10_matches.2.1 163 = .ok (.istore 5, 2) := by decide +kernel
theorem dX10_matches_165 : decode mX10_matches.2.1 165 = .ok (.iload 5, 2) := by decide +kernel
theorem dX10_matches_167 : decode mX10_matches.2.1 167 = .ok (.iload_n 1, 1) := by decide +kernel
theorem dX10_matches_168 : decode mX10_matches.2.1 168 = .ok (.if_icmp .ge 23, 3) := by decide +kernel
theorem dX10_matches_171 : decode mX10_matches.2.1 171 = .ok (.aload_n 0, 1) := by decide +kernel
theorem dX10_matches_172 : decode mX10_matches.2.1 172 = .ok (.getfield 195, 3) := by decide +kernel
theorem dX10_matches_175 : decode mX10_matches.2.1 175 = .ok (.iload 5, 2) := by decide +kernel
theorem dX10_matches_177 : decode mX10_matches.2.1 177 = .ok (.aload_n 0, 1) := by decide +kernel
theorem dX10_matches_178 : decode mX10_matches.2.1 178 = .ok (.getfield 192, 3) := by decide +kernel
theorem dX10_matches_181 : decode mX10_matches.2.1 181 = .ok (.iload 5, 2) := by decide +kernel
theorem dX10_matches_183 : decode mX10_matches.2.1 183 = .ok (.iaload, 1) := by decide +kernel
theorem dX10_matches_184 : decode mX10_matches.2.1 184 = .ok (.iastore, 1) := by decide +kernel
theorem dX10_matches_185 : decode mX10_matches.2.1 185 = .ok (.iinc 5 1, 3) := by decide +kernel
theorem dX10_matches_188 : decode mX10_matches.2.1 188 = .ok (.goto (-23), 3) := by decide +kernel
theorem dX10_matches_191 : decode mX10_matches.2.1 191 = .ok (.aload_n 0, 1) := by decide +kernel
theorem dX10_matches_192 : decode mX10_matches.2.1 192 = .ok (.iload_n 1, 1) := by decide +kernel
theorem dX10_matches_193 : decode mX10_matches.2.1 193 = .ok (.aload_n 0, 1) := by decide +kernel
theorem dX10_matches_194 : decode mX10_matches.2.1 194 = .ok (.getfield 54, 3) := by decide +kernel
theorem dX10_matches_197 : decode mX10_matches.2.1 197 = .ok (.aload_n 0, 1) := by decide +kernel
theorem dX10_matches_198 : decode mX10_matches.2.1 198 = .ok (.getfield 51, 3) := by decide +kernel
theorem dX10_matches_201 : decode mX10_matches.2.1 201 = .ok (.iaload, 1) := by decide +kernel
theorem dX10_matches_202 : decode mX10_matches.2.1 202 = .ok (.invokevirtual 489, 3) := by decide +kernel
theorem dX10_matches_205 : decode mX10_matches.2.1 205 = .ok (.istore_n 3, 1) := by decide +kernel
theorem dX10_matches_206 : decode mX10_matches.2.1 206 = .ok (.goto (-105), 3) := by decide +kernel
theorem dX10_matches_209 : decode mX10_matches.2.1 209 = .ok (.iload_n 2, 1) := by decide +kernel
theorem dX10_matches_210 : decode mX10_matches.2.1 210 = .ok (.ldc_w 482, 3) := by decide +kernel
theorem dX10_matches_213 : decode mX10_matches.2.1 213 = .ok (.if_icmp .ne 7, 3) := by decide +kernel
theorem dX10_matches_216 : decode mX10_matches.2.1 216 = .ok (.iconst (-1), 1) := by decide +kernel
theorem dX10_matches_217 : decode mX10_matches.2.1 217 = .ok (.goto 4, 3) := by decide +kernel
theorem dX10_matches_220 : decode mX10_matches.2.1 220 = .ok (.iload_n 2, 1) := by decide +kernel
theorem dX10_matches_221 : decode mX10_matches.2.1 221 = .ok (.ireturn, 1) := by decide +kernel
abbrev mX10_match : aM := (yX10_match, cX10_match, 5, (some .int))
theorem dX10_match_0 : decode mX10_match.2.1 0 = .ok (.iload_n 1, 1) := by decide +kernel
theorem dX10_match_1 : decode mX10_match.2.1 1 = .ok (.iconst (-1), 1) := by decide +kernel
theorem dX10_match_2 : decode mX10_match.2.1 2 = .ok (.if_icmp .eq 13, 3) := by decide +kernel
theorem dX10_match_5 : decode mX10_match.2.1 5 = .ok (.aload_n 0, 1) := by decide +kernel
theorem dX10_match_6 : decode mX10_match.2.1 6 = .ok (.iload_n 1, 1) := by decide +kernel
theorem dX10_match_7 : decode mX10_match.2.1 7 = .ok (.invokevirtual 473, 3) := by decide +kernel
theorem dX10_match_10 : decode mX10_match.2.1 10 = .ok (.ifCond .ne 5, 3) := by decide +kernel
theorem dX10_match_13 : decode mX10_match.2.1 13 = .ok (.iconst (-1), 1) := by decide +kernel
theorem dX10_match_14 : decode mX10_match.2.1 14 = .ok (.ireturn, 1) := by decide +kernel
theorem dX10_match_15 : decode mX10_match.2.1 15 = .ok (.aload_n 0, 1) := by decide +kernel
theorem dX10_match_16 : decode mX10_match.2.1 16 = .ok (.invokevirtual 492, 3) := by decide +kernel
theorem dX10_match_19 : decode mX10_match.2.1 19 = .ok (.istore_n 2, 1) := by decide +kernel
theorem dX10_match_20 : decode mX10_match.2.1 20 = .ok (.aload_n 0, 1) := by decide +kernel
theorem dX10_match_21 : decode mX10_match.2.1 21 = .ok (.iload_n 2, 1) := by decide +kernel
theorem dX10_match_22 : decode mX10_match.2.1 22 = .ok (.invokevirtual 496, 3) := by decide +kernel
theorem dX10_match_25 : decode mX10_match.2.1 25 = .ok (.istore_n 3, 1) := by decide +kernel
theorem dX10_match_26 : decode mX10_match.2.1 26 = .ok (.iload_n 1, 1) := by decide +kernel
theorem dX10_match_27 : decode mX10_match.2.1 27 = .ok (.iconst (-1), 1) := by decide +kernel
theorem dX10_match_28 : decode mX10_match.2.1 28 = .ok (.if_icmp .eq 8, 3) := by decide +kernel
theorem dX10_match_31 : decode mX10_match.2.1 31 = .ok (.iload_n 3, 1) := by decide +kernel
theorem dX10_match_32 : decode mX10_match.2.1 32 = .ok (.iconst (-1), 1) := by decide +kernel
theorem dX10_match_33 : decode mX10_match.2.1 33 = .ok (.if_icmp .ne 5, 3) := by decide +kernel
theorem dX10_match_36 : decode mX10_match.2.1 36 = .ok (.iload_n 3, 1) := by decide +kernel
theorem dX10_match_37 : decode mX10_match.2.1 37 = .ok (.ireturn, 1) := by decide +kernel
theorem dX10_match_38 : decode mX10_match.2.1 38 = .ok (.iconst 0, 1) := by decide +kernel
theorem dX10_match_39 : decode mX10_match.2.1 39 = .ok (.istore 4, 2) := by decide +kernel
theorem dX10_match_41 : decode mX10_match.2.1 41 = .ok (.iload 4, 2) := by decide +kernel
theorem dX10_match_43 : decode mX10_match.2.1 43 = .ok (.iload_n 2, 1) := by decide +kernel
theorem dX10_match_44 : decode mX10_match.2.1 44 = .ok (.if_icmp .ge 28, 3) := by decide +kernel
theorem dX10_match_47 : decode mX10_match.2.1 47 = .ok (.aload_n 0, 1) := by decide +kernel
theorem dX10_match_48 : decode mX10_match.2.1 48 = .ok (.getfield 189, 3) := by decide +kernel
theorem dX10_match_51 : decode mX10_match.2.1 51 = .ok (.iload 4, 2) := by decide +kernel
theorem dX10_match_53 : decode mX10_match.2.1 53 = .ok (.iaload, 1) := by decide +kernel
theorem dX10_match_54 : decode mX10_match.2.1 54 = .ok (.iload_n 1, 1) := by decide +kernel
theorem dX10_match_55 : decode mX10_match.2.1 55 = .ok (.if_icmp .ne 11, 3) := by decide +kernel
theorem dX10_match_58 : decode mX10_match.2.1 58 = .ok (.aload_n 0, 1) := by decide +kernel
theorem dX10_match_59 : decode mX10_match.2.1 59 = .ok (.getfield 195, 3) := by decide +kernel
theorem dX10_match_62 : decode mX10_match.2.1 62 = .ok (.iload 4, 2) := by decide +kernel
theorem dX10_match_64 : decode mX10_match.2.1 64 = .ok (.iaload, 1) := by decide +kernel
theorem dX10_match_65 : decode mX10_match.2.1 65 = .ok (.ireturn, 1) := by decide +kernel
theorem dX10_match_66 : decode mX10_match.2.1 66 = .ok (.iinc 4 1, 3) := by decide +kernel
theorem dX10_match_69 : decode mX10_match.2.1 69 = .ok (.goto (-28), 3) := by decide +kernel
theorem dX10_match_72 : decode mX10_match.2.1 72 = .ok (.iconst (-1), 1) := by decide +kernel
theorem dX10_match_73 : decode mX10_match.2.1 73 = .ok (.ireturn, 1) := by decide +kernel
abbrev mX10_headStrokes : aM := (yX10_headStrokes, cX10_headStrokes, 6, (some .int))
theorem dX10_headStrokes_0 : decode mX10_headStrokes.2.1 0 = .ok (.aload_n 0, 1) := by decide +kernel
theorem dX10_headStrokes_1 : decode mX10_headStrokes.2.1 1 = .ok (.iconst 1, 1) := by decide +kernel
theorem dX10_headStrokes_2 : decode mX10_headStrokes.2.1 2 = .ok (.iconst 0, 1) := by decide +kernel
theorem dX10_headStrokes_3 : decode mX10_headStrokes.2.1 3 = .ok (.invokevirtual 405, 3) := by decide +kernel
theorem dX10_headStrokes_6 : decode mX10_headStrokes.2.1 6 = .ok (.iconst 0, 1) := by decide +kernel
theorem dX10_headStrokes_7 : decode mX10_headStrokes.2.1 7 = .ok (.istore_n 3, 1) := by decide +kernel
theorem dX10_headStrokes_8 : decode mX10_headStrokes.2.1 8 = .ok (.iconst 0, 1) := by decide +kernel
theorem dX10_headStrokes_9 : decode mX10_headStrokes.2.1 9 = .ok (.istore 4, 2) := by decide +kernel
theorem dX10_headStrokes_11 : decode mX10_headStrokes.2.1 11 = .ok (.iload 4, 2) := by decide +kernel
theorem dX10_headStrokes_13 : decode mX10_headStrokes.2.1 13 = .ok (.iload_n 2, 1) := by decide +kernel
theorem dX10_headStrokes_14 : decode mX10_headStrokes.2.1 14 = .ok (.if_icmp .ge 52, 3) := by decide +kernel
theorem dX10_headStrokes_17 : decode mX10_headStrokes.2.1 17 = .ok (.aload_n 0, 1) := by decide +kernel
theorem dX10_headStrokes_18 : decode mX10_headStrokes.2.1 18 = .ok (.iload_n 1, 1) := by decide +kernel
theorem dX10_headStrokes_19 : decode mX10_headStrokes.2.1 19 = .ok (.aload_n 0, 1) := by decide +kernel
theorem dX10_headStrokes_20 : decode mX10_headStrokes.2.1 20 = .ok (.getfield 189, 3) := by decide +kernel
theorem dX10_headStrokes_23 : decode mX10_headStrokes.2.1 23 = .ok (.aload_n 0, 1) := by decide +kernel
theorem dX10_headStrokes_24 : decode mX10_headStrokes.2.1 24 = .ok (.getfield 192, 3) := by decide +kernel
theorem dX10_headStrokes_27 : decode mX10_headStrokes.2.1 27 = .ok (.iload 4, 2) := by decide +kernel
theorem dX10_headStrokes_29 : decode mX10_headStrokes.2.1 29 = .ok (.iaload, 1) := by decide +kernel
theorem dX10_headStrokes_30 : decode mX10_headStrokes.2.1 30 = .ok (.iaload, 1) := by decide +kernel
theorem dX10_headStrokes_31 : decode mX10_headStrokes.2.1 31 = .ok (.invokevirtual 476, 3) := by decide +kernel
theorem dX10_headStrokes_34 : decode mX10_headStrokes.2.1 34 = .ok (.istore 5, 2) := by decide +kernel
theorem dX10_headStrokes_36 : decode mX10_headStrokes.2.1 36 = .ok (.iload 5, 2) := by decide +kernel
theorem dX10_headStrokes_38 : decode mX10_headStrokes.2.1 38 = .ok (.iconst (-1), 1) := by decide +kernel
theorem dX10_headStrokes_39 : decode mX10_headStrokes.2.1 39 = .ok (.if_icmp .eq 14, 3) := by decide +kernel
theorem dX10_headStrokes_42 : decode mX10_headStrokes.2.1 42 = .ok (.aload_n 0, 1) := by decide +kernel
theorem dX10_headStrokes_43 : decode mX10_headStrokes.2.1 43 = .ok (.getfield 159, 3) := by decide +kernel
theorem dX10_headStrokes_46 : decode mX10_headStrokes.2.1 46 = .ok (.iconst 5, 1) := by decide +kernel
theorem dX10_headStrokes_47 : decode mX10_headStrokes.2.1 47 = .ok (.iload_n 1, 1) := by decide +kernel
theorem dX10_headStrokes_48 : decode mX10_headStrokes.2.1 48 = .ok (.iadd, 1) := by decide +kernel
theorem dX10_headStrokes_49 : decode mX10_headStrokes.2.1 49 = .ok (.iaload, 1) := by decide +kernel
theorem dX10_headStrokes_50 : decode mX10_headStrokes.2.1 50 = .ok (.ifCond .ne 5, 3) := by decide +kernel
theorem dX10_headStrokes_53 : decode mX10_headStrokes.2.1 53 = .ok (.iconst (-1), 1) := by decide +kernel
theorem dX10_headStrokes_54 : decode mX10_headStrokes.2.1 54 = .ok (.ireturn, 1) := by decide +kernel
theorem dX10_headStrokes_55 : decode mX10_headStrokes.2.1 55 = .ok (.iload_n 3, 1) := by decide +kernel
theorem dX10_headStrokes_56 : decode mX10_headStrokes.2.1 56 = .ok (.iload 5, 2) := by decide +kernel
theorem dX10_headStrokes_58 : decode mX10_headStrokes.2.1 58 = .ok (.iadd, 1) := by decide +kernel
theorem dX10_headStrokes_59 : decode mX10_headStrokes.2.1 59 = .ok (.istore_n 3, 1) := by decide +kernel
theorem dX10_headStrokes_60 : decode mX10_headStrokes.2.1 60 = .ok (.iinc 4 1, 3) := by decide +kernel
theorem dX10_headStrokes_63 : decode mX10_headStrokes.2.1 63 = .ok (.goto (-52), 3) := by decide +kernel
theorem dX10_headStrokes_66 : decode mX10_headStrokes.2.1 66 = .ok (.iload_n 3, 1) := by decide +kernel
theorem dX10_headStrokes_67 : decode mX10_headStrokes.2.1 67 = .ok (.ireturn, 1) := by decide +kernel
abbrev mX10_heads : aM := (yX10_heads, cX10_heads, 10, (some .int))
theorem dX10_heads_0 : decode mX10_heads.2.1 0 = .ok (.aload_n 0, 1) := by decide +kernel
theorem dX10_heads_1 : decode mX10_heads.2.1 1 = .ok (.iload_n 1, 1) := by decide +kernel
theorem dX10_heads_2 : decode mX10_heads.2.1 2 = .ok (.invokevirtual 470, 3) := by decide +kernel
theorem dX10_heads_5 : decode mX10_heads.2.1 5 = .ok (.ifCond .eq 7, 3) := by decide +kernel
theorem dX10_heads_8 : decode mX10_heads.2.1 8 = .ok (.iload_n 2, 1) := by decide +kernel
theorem dX10_heads_9 : decode mX10_heads.2.1 9 = .ok (.ifCond .ge 5, 3) := by decide +kernel
theorem dX10_heads_12 : decode mX10_heads.2.1 12 = .ok (.iconst (-1), 1) := by decide +kernel
theorem dX10_heads_13 : decode mX10_heads.2.1 13 = .ok (.ireturn, 1) := by decide +kernel
theorem dX10_heads_14 : decode mX10_heads.2.1 14 = .ok (.aload_n 0, 1) := by decide +kernel
theorem dX10_heads_15 : decode mX10_heads.2.1 15 = .ok (.invokevirtual 492, 3) := by decide +kernel
theorem dX10_heads_18 : decode mX10_heads.2.1 18 = .ok (.istore_n 3, 1) := by decide +kernel
theorem dX10_heads_19 : decode mX10_heads.2.1 19 = .ok (.iconst 0, 1) := by decide +kernel
theorem dX10_heads_20 : decode mX10_heads.2.1 20 = .ok (.istore 4, 2) := by decide +kernel
theorem dX10_heads_22 : decode mX10_heads.2.1 22 = .ok (.iconst 0, 1) := by decide +kernel
theorem dX10_heads_23 : decode mX10_heads.2.1 23 = .ok (.istore 5, 2) := by decide +kernel
theorem dX10_heads_25 : decode mX10_heads.2.1 25 = .ok (.iload_n 3, 1) := by decide +kernel
theorem dX10_heads_26 : decode mX10_heads.2.1 26 = .ok (.istore 6, 2) := by decide +kernel
theorem dX10_heads_28 : decode mX10_heads.2.1 28 = .ok (.iload 6, 2) := by decide +kernel
theorem dX10_heads_30 : decode mX10_heads.2.1 30 = .ok (.ifCond .le 110, 3) := by decide +kernel
theorem dX10_heads_33 : decode mX10_heads.2.1 33 = .ok (.iload 4, 2) := by decide +kernel
theorem dX10_heads_35 : decode mX10_heads.2.1 35 = .ok (.ifCond .ne 105, 3) := by decide +kernel
theorem dX10_heads_38 : decode mX10_heads.2.1 38 = .ok (.aload_n 0, 1) := by decide +kernel
theorem dX10_heads_39 : decode mX10_heads.2.1 39 = .ok (.iload 6, 2) := by decide +kernel
theorem dX10_heads_41 : decode mX10_heads.2.1 41 = .ok (.iload_n 3, 1) := by decide +kernel
theorem dX10_heads_42 : decode mX10_heads.2.1 42 = .ok (.invokevirtual 486, 3) := by decide +kernel
theorem dX10_heads_45 : decode mX10_heads.2.1 45 = .ok (.istore 7, 2) := by decide +kernel
theorem dX10_heads_47 : decode mX10_heads.2.1 47 = .ok (.iload 7, 2) := by decide +kernel
theorem dX10_heads_49 : decode mX10_heads.2.1 49 = .ok (.ifCond .eq 85, 3) := by decide +kernel
theorem dX10_heads_52 : decode mX10_heads.2.1 52 = .ok (.aload_n 0, 1) := by decide +kernel
theorem dX10_heads_53 : decode mX10_heads.2.1 53 = .ok (.iload_n 1, 1) := by decide +kernel
theorem dX10_heads_54 : decode mX10_heads.2.1 54 = .ok (.iload 6, 2) := by decide +kernel
theorem dX10_heads_56 : decode mX10_heads.2.1 56 = .ok (.invokevirtual 499, 3) := by decide +kernel
theorem dX10_heads_59 : decode mX10_heads.2.1 59 = .ok (.istore 8, 2) := by decide +kernel
theorem dX10_heads_61 : decode mX10_heads.2.1 61 = .ok (.iload 8, 2) := by decide +kernel
theorem dX10_heads_63 : decode mX10_heads.2.1 63 = .ok (.iconst (-1), 1) := by decide +kernel
theorem dX10_heads_64 : decode mX10_heads.2.1 64 = .ok (.if_icmp .eq 58, 3) := by decide +kernel
theorem dX10_heads_67 : decode mX10_heads.2.1 67 = .ok (.iload 4, 2) := by decide +kernel
theorem dX10_heads_69 : decode mX10_heads.2.1 69 = .ok (.ifCond .eq 10, 3) := by decide +kernel
theorem dX10_heads_72 : decode mX10_heads.2.1 72 = .ok (.iload 8, 2) := by decide +kernel
theorem dX10_heads_74 : decode mX10_heads.2.1 74 = .ok (.iload 5, 2) := by decide +kernel
theorem dX10_heads_76 : decode mX10_heads.2.1 76 = .ok (.if_icmp .ge 46, 3) := by decide +kernel
theorem dX10_heads_79 : decode mX10_heads.2.1 79 = .ok (.iload 6, 2) := by decide +kernel
theorem dX10_heads_81 : decode mX10_heads.2.1 81 = .ok (.istore 4, 2) := by decide +kernel
theorem dX10_heads_83 : decode mX10_heads.2.1 83 = .ok (.iload 8, 2) := by decide +kernel
theorem dX10_heads_85 : decode mX10_heads.2.1 85 = .ok (.istore 5, 2) := by decide +kernel
theorem dX10_heads_87 : decode mX10_heads.2.1 87 = .ok (.iconst 0, 1) := by decide +kernel
theorem dX10_heads_88 : decode mX10_heads.2.1 88 = .ok (.istore 9, 2) := by decide +kernel
theorem dX10_heads_90 : decode mX10_heads.2.1 90 = .ok (.iload 9, 2) := by decide +kernel
theorem dX10_heads_92 : decode mX10_heads.2.1 92 = .ok (.iload 6, 2) := by decide +kernel
theorem dX10_heads_94 : decode mX10_heads.2.1 94 = .ok (.if_icmp .ge 28, 3) := by decide +kernel
theorem dX10_heads_97 : decode mX10_heads.2.1 97 = .ok (.aload_n 0, 1) := by decide +kernel
theorem dX10_heads_98 : decode mX10_heads.2.1 98 = .ok (.getfield 195, 3) := by decide +kernel
theorem dX10_heads_101 : decode mX10_heads.2.1 101 = .ok (.iload 9, 2) := by decide +kernel
theorem dX10_heads_103 : decode mX10_heads.2.1 103 = .ok (.aload_n 0, 1) := by decide +kernel
theorem dX10_heads_104 : decode mX10_heads.2.1 104 = .ok (.getfield 189, 3) := by decide +kernel
theorem dX10_heads_107 : decode mX10_heads.2.1 107 = .ok (.aload_n 0, 1) := by decide +kernel
theorem dX10_heads_108 : decode mX10_heads.2.1 108 = .ok (.getfield 192, 3) := by decide +kernel
theorem dX10_heads_111 : decode mX10_heads.2.1 111 = .ok (.iload 9, 2) := by decide +kernel
theorem dX10_heads_113 : decode mX10_heads.2.1 113 = .ok (.iaload, 1) := by decide +kernel
theorem dX10_heads_114 : decode mX10_heads.2.1 114 = .ok (.iaload, 1) := by decide +kernel
theorem dX10_heads_115 : decode mX10_heads.2.1 115 = .ok (.iastore, 1) := by decide +kernel
theorem dX10_heads_116 : decode mX10_heads.2.1 116 = .ok (.iinc 9 1, 3) := by decide +kernel
theorem dX10_heads_119 : decode mX10_heads.2.1 119 = .ok (.goto (-29), 3) := by decide +kernel
theorem dX10_heads_122 : decode mX10_heads.2.1 122 = .ok (.aload_n 0, 1) := by decide +kernel
theorem dX10_heads_123 : decode mX10_heads.2.1 123 = .ok (.iload 6, 2) := by decide +kernel
theorem dX10_heads_125 : decode mX10_heads.2.1 125 = .ok (.iload_n 3, 1) := by decide +kernel
theorem dX10_heads_126 : decode mX10_heads.2.1 126 = .ok (.invokevirtual 489, 3) := by decide +kernel
theorem dX10_heads_129 : decode mX10_heads.2.1 129 = .ok (.istore 7, 2) := by decide +kernel
theorem dX10_heads_131 : decode mX10_heads.2.1 131 = .ok (.goto (-84), 3) := by decide +kernel
theorem dX10_heads_134 : decode mX10_heads.2.1 134 = .ok (.iinc 6 (-1), 3) := by decide +kernel
theorem dX10_heads_137 : decode mX10_heads.2.1 137 = .ok (.goto (-109), 3) := by decide +kernel
theorem dX10_heads_140 : decode mX10_heads.2.1 140 = .ok (.iload_n 2, 1) := by decide +kernel
theorem dX10_heads_141 : decode mX10_heads.2.1 141 = .ok (.ifCond .ne 8, 3) := by decide +kernel
theorem dX10_heads_144 : decode mX10_heads.2.1 144 = .ok (.iload 4, 2) := by decide +kernel
theorem dX10_heads_146 : decode mX10_heads.2.1 146 = .ok (.goto 33, 3) := by decide +kernel
theorem dX10_heads_149 : decode mX10_heads.2.1 149 = .ok (.iload_n 2, 1) := by decide +kernel
theorem dX10_heads_150 : decode mX10_heads.2.1 150 = .ok (.iconst 1, 1) := by decide +kernel
theorem dX10_heads_151 : decode mX10_heads.2.1 151 = .ok (.if_icmp .ne 8, 3) := by decide +kernel
theorem dX10_heads_154 : decode mX10_heads.2.1 154 = .ok (.iload 5, 2) := by decide +kernel
theorem dX10_heads_156 : decode mX10_heads.2.1 156 = .ok (.goto 23, 3) := by decide +kernel
theorem dX10_heads_159 : decode mX10_heads.2.1 159 = .ok (.iload_n 2, 1) := by decide +kernel
theorem dX10_heads_160 : decode mX10_heads.2.1 160 = .ok (.iconst 2, 1) := by decide +kernel
theorem dX10_heads_161 : decode mX10_heads.2.1 161 = .ok (.isub, 1) := by decide +kernel
theorem dX10_heads_162 : decode mX10_heads.2.1 162 = .ok (.iload 4, 2) := by decide +kernel
theorem dX10_heads_164 : decode mX10_heads.2.1 164 = .ok (.if_icmp .ge 14, 3) := by decide +kernel
theorem dX10_heads_167 : decode mX10_heads.2.1 167 = .ok (.aload_n 0, 1) := by decide +kernel
theorem dX10_heads_168 : decode mX10_heads.2.1 168 = .ok (.getfield 195, 3) := by decide +kernel
theorem dX10_heads_171 : decode mX10_heads.2.1 171 = .ok (.iload_n 2, 1) := by decide +kernel
theorem dX10_heads_172 : decode mX10_heads.2.1 172 = .ok (.iconst 2, 1) := by decide +kernel
theorem dX10_heads_173 : decode mX10_heads.2.1 173 = .ok (.isub, 1) := by decide +kernel
theorem dX10_heads_174 : decode mX10_heads.2.1 174 = .ok (.iaload, 1) := by decide +kernel
theorem dX10_heads_175 : decode mX10_heads.2.1 175 = .ok (.goto 4, 3) := by decide +kernel
theorem dX10_heads_178 : decode mX10_heads.2.1 178 = .ok (.iconst (-1), 1) := by decide +kernel
theorem dX10_heads_179 : decode mX10_heads.2.1 179 = .ok (.ireturn, 1) := by decide +kernel
abbrev mX10_isAhead : aM := (yX10_isAhead, cX10_isAhead, 4, (some .boolean))
theorem dX10_isAhead_0 : decode mX10_isAhead.2.1 0 = .ok (.iload_n 1, 1) := by decide +kernel
theorem dX10_isAhead_1 : decode mX10_isAhead.2.1 1 = .ok (.iload_n 2, 1) := by decide +kernel
theorem dX10_isAhead_2 : decode mX10_isAhead.2.1 2 = .ok (.iload_n 3, 1) := by decide +kernel
theorem dX10_isAhead_3 : decode mX10_isAhead.2.1 3 = .ok (.invokestatic 312, 3) := by decide +kernel
theorem dX10_isAhead_6 : decode mX10_isAhead.2.1 6 = .ok (.ifCond .eq 21, 3) := by decide +kernel
theorem dX10_isAhead_9 : decode mX10_isAhead.2.1 9 = .ok (.aload_n 0, 1) := by decide +kernel
theorem dX10_isAhead_10 : decode mX10_isAhead.2.1 10 = .ok (.getfield 153, 3) := by decide +kernel
theorem dX10_isAhead_13 : decode mX10_isAhead.2.1 13 = .ok (.iconst 0, 1) := by decide +kernel
theorem dX10_isAhead_14 : decode mX10_isAhead.2.1 14 = .ok (.iaload, 1) := by decide +kernel
theorem dX10_isAhead_15 : decode mX10_isAhead.2.1 15 = .ok (.sipush 999, 3) := by decide +kernel
theorem dX10_isAhead_18 : decode mX10_isAhead.2.1 18 = .ok (.iload_n 1, 1) := by decide +kernel
theorem dX10_isAhead_19 : decode mX10_isAhead.2.1 19 = .ok (.isub, 1) := by decide +kernel
theorem dX10_isAhead_20 : decode mX10_isAhead.2.1 20 = .ok (.if_icmp .gt 7, 3) := by decide +kernel
theorem dX10_isAhead_23 : decode mX10_isAhead.2.1 23 = .ok (.iconst 1, 1) := by decide +kernel
theorem dX10_isAhead_24 : decode mX10_isAhead.2.1 24 = .ok (.goto 4, 3) := by decide +kernel
theorem dX10_isAhead_27 : decode mX10_isAhead.2.1 27 = .ok (.iconst 0, 1) := by decide +kernel
theorem dX10_isAhead_28 : decode mX10_isAhead.2.1 28 = .ok (.ireturn, 1) := by decide +kernel
abbrev mX10_tries : aM := (yX10_tries, cX10_tries, 3, none)
theorem dX10_tries_0 : decode mX10_tries.2.1 0 = .ok (.aload_n 0, 1) := by decide +kernel
theorem dX10_tries_1 : decode mX10_tries.2.1 1 = .ok (.iconst 1, 1) := by decide +kernel
theorem dX10_tries_2 : decode mX10_tries.2.1 2 = .ok (.iconst 0, 1) := by decide +kernel
theorem dX10_tries_3 : decode mX10_tries.2.1 3 = .ok (.invokevirtual 405, 3) := by decide +kernel
theorem dX10_tries_6 : decode mX10_tries.2.1 6 = .ok (.iconst 0, 1) := by decide +kernel
theorem dX10_tries_7 : decode mX10_tries.2.1 7 = .ok (.istore_n 2, 1) := by decide +kernel
theorem dX10_tries_8 : decode mX10_tries.2.1 8 = .ok (.iload_n 2, 1) := by decide +kernel
theorem dX10_tries_9 : decode mX10_tries.2.1 9 = .ok (.iload_n 1, 1) := by decide +kernel
theorem dX10_tries_10 : decode mX10_tries.2.1 10 = .ok (.if_icmp .ge 16, 3) := by decide +kernel
theorem dX10_tries_13 : decode mX10_tries.2.1 13 = .ok (.aload_n 0, 1) := by decide +kernel
theorem dX10_tries_14 : decode mX10_tries.2.1 14 = .ok (.iconst 1, 1) := by decide +kernel
theorem dX10_tries_15 : decode mX10_tries.2.1 15 = .ok (.iconst 0, 1) := by decide +kernel
theorem dX10_tries_16 : decode mX10_tries.2.1 16 = .ok (.invokevirtual 502, 3) := by decide +kernel
theorem dX10_tries_19 : decode mX10_tries.2.1 19 = .ok (.pop, 1) := by decide +kernel
theorem dX10_tries_20 : decode mX10_tries.2.1 20 = .ok (.iinc 2 1, 3) := by decide +kernel
theorem dX10_tries_23 : decode mX10_tries.2.1 23 = .ok (.goto (-15), 3) := by decide +kernel
theorem dX10_tries_26 : decode mX10_tries.2.1 26 = .ok (.return_, 1) := by decide +kernel
abbrev mX10_later : aM := (yX10_later, cX10_later, 3, (some .int))
theorem dX10_later_0 : decode mX10_later.2.1 0 = .ok (.aload_n 0, 1) := by decide +kernel
theorem dX10_later_1 : decode mX10_later.2.1 1 = .ok (.iload_n 1, 1) := by decide +kernel
theorem dX10_later_2 : decode mX10_later.2.1 2 = .ok (.invokevirtual 473, 3) := by decide +kernel
theorem dX10_later_5 : decode mX10_later.2.1 5 = .ok (.ifCond .eq 14, 3) := by decide +kernel
theorem dX10_later_8 : decode mX10_later.2.1 8 = .ok (.aload_n 0, 1) := by decide +kernel
theorem dX10_later_9 : decode mX10_later.2.1 9 = .ok (.iload_n 2, 1) := by decide +kernel
theorem dX10_later_10 : decode mX10_later.2.1 10 = .ok (.iconst 0, 1) := by decide +kernel
theorem dX10_later_11 : decode mX10_later.2.1 11 = .ok (.bipush 40, 2) := by decide +kernel
theorem dX10_later_13 : decode mX10_later.2.1 13 = .ok (.invokevirtual 506, 3) := by decide +kernel
theorem dX10_later_16 : decode mX10_later.2.1 16 = .ok (.ifCond .ne 5, 3) := by decide +kernel
theorem dX10_later_19 : decode mX10_later.2.1 19 = .ok (.iconst (-1), 1) := by decide +kernel
theorem dX10_later_20 : decode mX10_later.2.1 20 = .ok (.ireturn, 1) := by decide +kernel
theorem dX10_later_21 : decode mX10_later.2.1 21 = .ok (.aload_n 0, 1) := by decide +kernel
theorem dX10_later_22 : decode mX10_later.2.1 22 = .ok (.iload_n 2, 1) := by decide +kernel
theorem dX10_later_23 : decode mX10_later.2.1 23 = .ok (.invokevirtual 509, 3) := by decide +kernel
theorem dX10_later_26 : decode mX10_later.2.1 26 = .ok (.aload_n 0, 1) := by decide +kernel
theorem dX10_later_27 : decode mX10_later.2.1 27 = .ok (.getfield 162, 3) := by decide +kernel
theorem dX10_later_30 : decode mX10_later.2.1 30 = .ok (.bipush 6, 2) := by decide +kernel
theorem dX10_later_32 : decode mX10_later.2.1 32 = .ok (.iload_n 1, 1) := by decide +kernel
theorem dX10_later_33 : decode mX10_later.2.1 33 = .ok (.iadd, 1) := by decide +kernel
theorem dX10_later_34 : decode mX10_later.2.1 34 = .ok (.iaload, 1) := by decide +kernel
theorem dX10_later_35 : decode mX10_later.2.1 35 = .ok (.ireturn, 1) := by decide +kernel
abbrev mX10_worn : aM := (yX10_worn, cX10_worn, 3, (some .int))
theorem dX10_worn_0 : decode mX10_worn.2.1 0 = .ok (.aload_n 0, 1) := by decide +kernel
theorem dX10_worn_1 : decode mX10_worn.2.1 1 = .ok (.iload_n 1, 1) := by decide +kernel
theorem dX10_worn_2 : decode mX10_worn.2.1 2 = .ok (.invokevirtual 470, 3) := by decide +kernel
theorem dX10_worn_5 : decode mX10_worn.2.1 5 = .ok (.ifCond .eq 14, 3) := by decide +kernel
theorem dX10_worn_8 : decode mX10_worn.2.1 8 = .ok (.aload_n 0, 1) := by decide +kernel
theorem dX10_worn_9 : decode mX10_worn.2.1 9 = .ok (.iload_n 2, 1) := by decide +kernel
theorem dX10_worn_10 : decode mX10_worn.2.1 10 = .ok (.iconst 0, 1) := by decide +kernel
theorem dX10_worn_11 : decode mX10_worn.2.1 11 = .ok (.bipush 40, 2) := by decide +kernel
theorem dX10_worn_13 : decode mX10_worn.2.1 13 = .ok (.invokevirtual 506, 3) := by decide +kernel
theorem dX10_worn_16 : decode mX10_worn.2.1 16 = .ok (.ifCond .ne 5, 3) := by decide +kernel
theorem dX10_worn_19 : decode mX10_worn.2.1 19 = .ok (.iconst (-1), 1) := by decide +kernel
theorem dX10_worn_20 : decode mX10_worn.2.1 20 = .ok (.ireturn, 1) := by decide +kernel
theorem dX10_worn_21 : decode mX10_worn.2.1 21 = .ok (.aload_n 0, 1) := by decide +kernel
theorem dX10_worn_22 : decode mX10_worn.2.1 22 = .ok (.iload_n 2, 1) := by decide +kernel
theorem dX10_worn_23 : decode mX10_worn.2.1 23 = .ok (.invokevirtual 509, 3) := by decide +kernel
theorem dX10_worn_26 : decode mX10_worn.2.1 26 = .ok (.aload_n 0, 1) := by decide +kernel
theorem dX10_worn_27 : decode mX10_worn.2.1 27 = .ok (.getfield 159, 3) := by decide +kernel
theorem dX10_worn_30 : decode mX10_worn.2.1 30 = .ok (.iconst 5, 1) := by decide +kernel
theorem dX10_worn_31 : decode mX10_worn.2.1 31 = .ok (.iload_n 1, 1) := by decide +kernel
theorem dX10_worn_32 : decode mX10_worn.2.1 32 = .ok (.iadd, 1) := by decide +kernel
theorem dX10_worn_33 : decode mX10_worn.2.1 33 = .ok (.iaload, 1) := by decide +kernel
theorem dX10_worn_34 : decode mX10_worn.2.1 34 = .ok (.ireturn, 1) := by decide +kernel
abbrev mX10_saved : aM := (yX10_saved, cX10_saved, 2, (some .int))
theorem dX10_saved_0 : decode mX10_saved.2.1 0 = .ok (.aload_n 0, 1) := by decide +kernel
theorem dX10_saved_1 : decode mX10_saved.2.1 1 = .ok (.iload_n 1, 1) := by decide +kernel
theorem dX10_saved_2 : decode mX10_saved.2.1 2 = .ok (.iconst 0, 1) := by decide +kernel
theorem dX10_saved_3 : decode mX10_saved.2.1 3 = .ok (.bipush 40, 2) := by decide +kernel
theorem dX10_saved_5 : decode mX10_saved.2.1 5 = .ok (.invokevirtual 506, 3) := by decide +kernel
theorem dX10_saved_8 : decode mX10_saved.2.1 8 = .ok (.ifCond .ne 5, 3) := by decide +kernel
theorem dX10_saved_11 : decode mX10_saved.2.1 11 = .ok (.iconst (-1), 1) := by decide +kernel
theorem dX10_saved_12 : decode mX10_saved.2.1 12 = .ok (.ireturn, 1) := by decide +kernel
theorem dX10_saved_13 : decode mX10_saved.2.1 13 = .ok (.aload_n 0, 1) := by decide +kernel
theorem dX10_saved_14 : decode mX10_saved.2.1 14 = .ok (.iload_n 1, 1) := by decide +kernel
theorem dX10_saved_15 : decode mX10_saved.2.1 15 = .ok (.invokevirtual 509, 3) := by decide +kernel
theorem dX10_saved_18 : decode mX10_saved.2.1 18 = .ok (.aload_n 0, 1) := by decide +kernel
theorem dX10_saved_19 : decode mX10_saved.2.1 19 = .ok (.getfield 165, 3) := by decide +kernel
theorem dX10_saved_22 : decode mX10_saved.2.1 22 = .ok (.iconst 1, 1) := by decide +kernel
theorem dX10_saved_23 : decode mX10_saved.2.1 23 = .ok (.iaload, 1) := by decide +kernel
theorem dX10_saved_24 : decode mX10_saved.2.1 24 = .ok (.ireturn, 1) := by decide +kernel
abbrev mX10_clean : aM := (yX10_clean, cX10_clean, 2, (some .int))
theorem dX10_clean_0 : decode mX10_clean.2.1 0 = .ok (.aload_n 0, 1) := by decide +kernel
theorem dX10_clean_1 : decode mX10_clean.2.1 1 = .ok (.iconst 1, 1) := by decide +kernel
theorem dX10_clean_2 : decode mX10_clean.2.1 2 = .ok (.iconst 0, 1) := by decide +kernel
theorem dX10_clean_3 : decode mX10_clean.2.1 3 = .ok (.invokevirtual 405, 3) := by decide +kernel
theorem dX10_clean_6 : decode mX10_clean.2.1 6 = .ok (.iconst 0, 1) := by decide +kernel
theorem dX10_clean_7 : decode mX10_clean.2.1 7 = .ok (.istore_n 1, 1) := by decide +kernel
theorem dX10_clean_8 : decode mX10_clean.2.1 8 = .ok (.aload_n 0, 1) := by decide +kernel
theorem dX10_clean_9 : decode mX10_clean.2.1 9 = .ok (.iload_n 1, 1) := by decide +kernel
theorem dX10_clean_10 : decode mX10_clean.2.1 10 = .ok (.iconst 0, 1) := by decide +kernel
theorem dX10_clean_11 : decode mX10_clean.2.1 11 = .ok (.bipush 40, 2) := by decide +kernel
theorem dX10_clean_13 : decode mX10_clean.2.1 13 = .ok (.invokevirtual 506, 3) := by decide +kernel
theorem dX10_clean_16 : decode mX10_clean.2.1 16 = .ok (.ifCond .eq 27, 3) := by decide +kernel
theorem dX10_clean_19 : decode mX10_clean.2.1 19 = .ok (.aload_n 0, 1) := by decide +kernel
theorem dX10_clean_20 : decode mX10_clean.2.1 20 = .ok (.iconst 1, 1) := by decide +kernel
theorem dX10_clean_21 : decode mX10_clean.2.1 21 = .ok (.invokevirtual 456, 3) := by decide +kernel
theorem dX10_clean_24 : decode mX10_clean.2.1 24 = .ok (.iconst (-1), 1) := by decide +kernel
theorem dX10_clean_25 : decode mX10_clean.2.1 25 = .ok (.if_icmp .ne 5, 3) := by decide +kernel
theorem dX10_clean_28 : decode mX10_clean.2.1 28 = .ok (.iload_n 1, 1) := by decide +kernel
theorem dX10_clean_29 : decode mX10_clean.2.1 29 = .ok (.ireturn, 1) := by decide +kernel
theorem dX10_clean_30 : decode mX10_clean.2.1 30 = .ok (.aload_n 0, 1) := by decide +kernel
theorem dX10_clean_31 : decode mX10_clean.2.1 31 = .ok (.iconst 1, 1) := by decide +kernel
theorem dX10_clean_32 : decode mX10_clean.2.1 32 = .ok (.iconst 0, 1) := by decide +kernel
theorem dX10_clean_33 : decode mX10_clean.2.1 33 = .ok (.invokevirtual 502, 3) := by decide +kernel
theorem dX10_clean_36 : decode mX10_clean.2.1 36 = .ok (.pop, 1) := by decide +kernel
theorem dX10_clean_37 : decode mX10_clean.2.1 37 = .ok (.iinc 1 1, 3) := by decide +kernel
theorem dX10_clean_40 : decode mX10_clean.2.1 40 = .ok (.goto (-32), 3) := by decide +kernel
theorem dX10_clean_43 : decode mX10_clean.2.1 43 = .ok (.iconst (-1), 1) := by decide +kernel
theorem dX10_clean_44 : decode mX10_clean.2.1 44 = .ok (.ireturn, 1) := by decide +kernel
abbrev mX10_see : aM := (yX10_see, cX10_see, 4, (some .int))
theorem dX10_see_0 : decode mX10_see.2.1 0 = .ok (.aload_n 0, 1) := by decide +kernel
theorem dX10_see_1 : decode mX10_see.2.1 1 = .ok (.getfield 13, 3) := by decide +kernel
theorem dX10_see_4 : decode mX10_see.2.1 4 = .ok (.istore_n 1, 1) := by decide +kernel
theorem dX10_see_5 : decode mX10_see.2.1 5 = .ok (.aload_n 0, 1) := by decide +kernel
theorem dX10_see_6 : decode mX10_see.2.1 6 = .ok (.iconst 0, 1) := by decide +kernel
theorem dX10_see_7 : decode mX10_see.2.1 7 = .ok (.putfield 13, 3) := by decide +kernel
theorem dX10_see_10 : decode mX10_see.2.1 10 = .ok (.iload_n 1, 1) := by decide +kernel
theorem dX10_see_11 : decode mX10_see.2.1 11 = .ok (.ifCond .le 19, 3) := by decide +kernel
theorem dX10_see_14 : decode mX10_see.2.1 14 = .ok (.iload_n 1, 1) := by decide +kernel
theorem dX10_see_15 : decode mX10_see.2.1 15 = .ok (.iconst 3, 1) := by decide +kernel
theorem dX10_see_16 : decode mX10_see.2.1 16 = .ok (.irem, 1) := by decide +kernel
theorem dX10_see_17 : decode mX10_see.2.1 17 = .ok (.ifCond .ne 13, 3) := by decide +kernel
theorem dX10_see_20 : decode mX10_see.2.1 20 = .ok (.iload_n 1, 1) := by decide +kernel
theorem dX10_see_21 : decode mX10_see.2.1 21 = .ok (.bipush 48, 2) := by decide +kernel
theorem dX10_see_23 : decode mX10_see.2.1 23 = .ok (.if_icmp .gt 7, 3) := by decide +kernel
theorem dX10_see_26 : decode mX10_see.2.1 26 = .ok (.iconst 1, 1) := by decide +kernel
theorem dX10_see_27 : decode mX10_see.2.1 27 = .ok (.goto 4, 3) := by decide +kernel
theorem dX10_see_30 : decode mX10_see.2.1 30 = .ok (.iconst 0, 1) := by decide +kernel
theorem dX10_see_31 : decode mX10_see.2.1 31 = .ok (.istore_n 2, 1) := by decide +kernel
theorem dX10_see_32 : decode mX10_see.2.1 32 = .ok (.iconst 0, 1) := by decide +kernel
theorem dX10_see_33 : decode mX10_see.2.1 33 = .ok (.istore_n 3, 1) := by decide +kernel
theorem dX10_see_34 : decode mX10_see.2.1 34 = .ok (.iload_n 3, 1) := by decide +kernel
theorem dX10_see_35 : decode mX10_see.2.1 35 = .ok (.iload_n 1, 1) := by decide +kernel
theorem dX10_see_36 : decode mX10_see.2.1 36 = .ok (.if_icmp .ge 62, 3) := by decide +kernel
theorem dX10_see_39 : decode mX10_see.2.1 39 = .ok (.iload_n 2, 1) := by decide +kernel
theorem dX10_see_40 : decode mX10_see.2.1 40 = .ok (.ifCond .eq 58, 3) := by decide +kernel
theorem dX10_see_43 : decode mX10_see.2.1 43 = .ok (.aload_n 0, 1) := by decide +kernel
theorem dX10_see_44 : decode mX10_see.2.1 44 = .ok (.aload_n 0, 1) := by decide +kernel
theorem dX10_see_45 : decode mX10_see.2.1 45 = .ok (.getfield 7, 3) := by decide +kernel
theorem dX10_see_48 : decode mX10_see.2.1 48 = .ok (.iload_n 3, 1) := by decide +kernel
theorem dX10_see_49 : decode mX10_see.2.1 49 = .ok (.iaload, 1) := by decide +kernel
theorem dX10_see_50 : decode mX10_see.2.1 50 = .ok (.invokevirtual 470, 3) := by decide +kernel
theorem dX10_see_53 : decode mX10_see.2.1 53 = .ok (.ifCond .eq 37, 3) := by decide +kernel
theorem dX10_see_56 : decode mX10_see.2.1 56 = .ok (.aload_n 0, 1) := by decide +kernel
theorem dX10_see_57 : decode mX10_see.2.1 57 = .ok (.getfield 7, 3) := by decide +kernel
theorem dX10_see_60 : decode mX10_see.2.1 60 = .ok (.iload_n 3, 1) := by decide +kernel
theorem dX10_see_61 : decode mX10_see.2.1 61 = .ok (.iconst 1, 1) := by decide +kernel
theorem dX10_see_62 : decode mX10_see.2.1 62 = .ok (.iadd, 1) := by decide +kernel
theorem dX10_see_63 : decode mX10_see.2.1 63 = .ok (.iaload, 1) := by decide +kernel
theorem dX10_see_64 : decode mX10_see.2.1 64 = .ok (.iconst 1, 1) := by decide +kernel
theorem dX10_see_65 : decode mX10_see.2.1 65 = .ok (.bipush 40, 2) := by decide +kernel
theorem dX10_see_67 : decode mX10_see.2.1 67 = .ok (.invokestatic 312, 3) := by decide +kernel
theorem dX10_see_70 : decode mX10_see.2.1 70 = .ok (.ifCond .eq 20, 3) := by decide +kernel
theorem dX10_see_73 : decode mX10_see.2.1 73 = .ok (.aload_n 0, 1) := by decide +kernel
theorem dX10_see_74 : decode mX10_see.2.1 74 = .ok (.getfield 7, 3) := by decide +kernel
theorem dX10_see_77 : decode mX10_see.2.1 77 = .ok (.iload_n 3, 1) := by decide +kernel
theorem dX10_see_78 : decode mX10_see.2.1 78 = .ok (.iconst 2, 1) := by decide +kernel
theorem dX10_see_79 : decode mX10_see.2.1 79 = .ok (.iadd, 1) := by decide +kernel
theorem dX10_see_80 : decode mX10_see.2.1 80 = .ok (.iaload, 1) := by decide +kernel
theorem dX10_see_81 : decode mX10_see.2.1 81 = .ok (.bipush 99, 2) := by decide +kernel
theorem dX10_see_83 : decode mX10_see.2.1 83 = .ok (.if_icmp .gt 7, 3) := by decide +kernel
theorem dX10_see_86 : decode mX10_see.2.1 86 = .ok (.iconst 1, 1) := by decide +kernel
theorem dX10_see_87 : decode mX10_see.2.1 87 = .ok (.goto 4, 3) := by decide +kernel
theorem dX10_see_90 : decode mX10_see.2.1 90 = .ok (.iconst 0, 1) := by decide +kernel
theorem dX10_see_91 : decode mX10_see.2.1 91 = .ok (.istore_n 2, 1) := by decide +kernel
theorem dX10_see_92 : decode mX10_see.2.1 92 = .ok (.iinc 3 3, 3) := by decide +kernel
theorem dX10_see_95 : decode mX10_see.2.1 95 = .ok (.goto (-61), 3) := by decide +kernel
theorem dX10_see_98 : decode mX10_see.2.1 98 = .ok (.iload_n 2, 1) := by decide +kernel
theorem dX10_see_99 : decode mX10_see.2.1 99 = .ok (.ifCond .ne 9, 3) := by decide +kernel
theorem dX10_see_102 : decode mX10_see.2.1 102 = .ok (.aload_n 0, 1) := by decide +kernel
theorem dX10_see_103 : decode mX10_see.2.1 103 = .ok (.iconst 5, 1) := by decide +kernel
theorem dX10_see_104 : decode mX10_see.2.1 104 = .ok (.invokevirtual 222, 3) := by decide +kernel
theorem dX10_see_107 : decode mX10_see.2.1 107 = .ok (.ireturn, 1) := by decide +kernel
theorem dX10_see_108 : decode mX10_see.2.1 108 = .ok (.aload_n 0, 1) := by decide +kernel
theorem dX10_see_109 : decode mX10_see.2.1 109 = .ok (.iload_n 1, 1) := by decide +kernel
theorem dX10_see_110 : decode mX10_see.2.1 110 = .ok (.iconst 3, 1) := by decide +kernel
theorem dX10_see_111 : decode mX10_see.2.1 111 = .ok (.idiv, 1) := by decide +kernel
theorem dX10_see_112 : decode mX10_see.2.1 112 = .ok (.putfield 201, 3) := by decide +kernel
theorem dX10_see_115 : decode mX10_see.2.1 115 = .ok (.iconst 0, 1) := by decide +kernel
theorem dX10_see_116 : decode mX10_see.2.1 116 = .ok (.istore_n 3, 1) := by decide +kernel
theorem dX10_see_117 : decode mX10_see.2.1 117 = .ok (.iload_n 3, 1) := by decide +kernel
theorem dX10_see_118 : decode mX10_see.2.1 118 = .ok (.aload_n 0, 1) := by decide +kernel
theorem dX10_see_119 : decode mX10_see.2.1 119 = .ok (.getfield 201, 3) := by decide +kernel
theorem dX10_see_122 : decode mX10_see.2.1 122 = .ok (.if_icmp .ge 55, 3) := by decide +kernel
theorem dX10_see_125 : decode mX10_see.2.1 125 = .ok (.aload_n 0, 1) := by decide +kernel
theorem dX10_see_126 : decode mX10_see.2.1 126 = .ok (.getfield 204, 3) := by decide +kernel
theorem dX10_see_129 : decode mX10_see.2.1 129 = .ok (.iload_n 3, 1) := by decide +kernel
theorem dX10_see_130 : decode mX10_see.2.1 130 = .ok (.aload_n 0, 1) := by decide +kernel
theorem dX10_see_131 : decode mX10_see.2.1 131 = .ok (.getfield 7, 3) := by decide +kernel
theorem dX10_see_134 : decode mX10_see.2.1 134 = .ok (.iconst 3, 1) := by decide +kernel
theorem dX10_see_135 : decode mX10_see.2.1 135 = .ok (.iload_n 3, 1) := by decide +kernel
theorem dX10_see_136 : decode mX10_see.2.1 136 = .ok (.imul, 1) := by decide +kernel
theorem dX10_see_137 : decode mX10_see.2.1 137 = .ok (.iaload, 1) := by decide +kernel
theorem dX10_see_138 : decode mX10_see.2.1 138 = .ok (.iastore, 1) := by decide +kernel
theorem dX10_see_139 : decode mX10_see.2.1 139 = .ok (.aload_n 0, 1) := by decide +kernel
theorem dX10_see_140 : decode mX10_see.2.1 140 = .ok (.getfield 207, 3) := by decide +kernel
theorem dX10_see_143 : decode mX10_see.2.1 143 = .ok (.iload_n 3, 1) := by decide +kernel
theorem dX10_see_144 : decode mX10_see.2.1 144 = .ok (.aload_n 0, 1) := by decide +kernel
theorem dX10_see_145 : decode mX10_see.2.1 145 = .ok (.getfield 7, 3) := by decide +kernel
theorem dX10_see_148 : decode mX10_see.2.1 148 = .ok (.iconst 3, 1) := by decide +kernel
theorem dX10_see_149 : decode mX10_see.2.1 149 = .ok (.iload_n 3, 1) := by decide +kernel
theorem dX10_see_150 : decode mX10_see.2.1 150 = .ok (.imul, 1) := by decide +kernel
theorem dX10_see_151 : decode mX10_see.2.1 151 = .ok (.iconst 1, 1) := by decide +kernel
theorem dX10_see_152 : decode mX10_see.2.1 152 = .ok (.iadd, 1) := by decide +kernel
theorem dX10_see_153 : decode mX10_see.2.1 153 = .ok (.iaload, 1) := by decide +kernel
theorem dX10_see_154 : decode mX10_see.2.1 154 = .ok (.iastore, 1) := by decide +kernel
theorem dX10_see_155 : decode mX10_see.2.1 155 = .ok (.aload_n 0, 1) := by decide +kernel
theorem dX10_see_156 : decode mX10_see.2.1 156 = .ok (.getfield 210, 3) := by decide +kernel
theorem dX10_see_159 : decode mX10_see.2.1 159 = .ok (.iload_n 3, 1) := by decide +kernel
theorem dX10_see_160 : decode mX10_see.2.1 160 = .ok (.aload_n 0, 1) := by decide +kernel
theorem dX10_see_161 : decode mX10_see.2.1 161 = .ok (.getfield 7, 3) := by decide +kernel
theorem dX10_see_164 : decode mX10_see.2.1 164 = .ok (.iconst 3, 1) := by decide +kernel
theorem dX10_see_165 : decode mX10_see.2.1 165 = .ok (.iload_n 3, 1) := by decide +kernel
theorem dX10_see_166 : decode mX10_see.2.1 166 = .ok (.imul, 1) := by decide +kernel
theorem dX10_see_167 : decode mX10_see.2.1 167 = .ok (.iconst 2, 1) := by decide +kernel
theorem dX10_see_168 : decode mX10_see.2.1 168 = .ok (.iadd, 1) := by decide +kernel
theorem dX10_see_169 : decode mX10_see.2.1 169 = .ok (.iaload, 1) := by decide +kernel
theorem dX10_see_170 : decode mX10_see.2.1 170 = .ok (.iastore, 1) := by decide +kernel
theorem dX10_see_171 : decode mX10_see.2.1 171 = .ok (.iinc 3 1, 3) := by decide +kernel
theorem dX10_see_174 : decode mX10_see.2.1 174 = .ok (.goto (-57), 3) := by decide +kernel
theorem dX10_see_177 : decode mX10_see.2.1 177 = .ok (.aload_n 0, 1) := by decide +kernel
theorem dX10_see_178 : decode mX10_see.2.1 178 = .ok (.getfield 201, 3) := by decide +kernel
theorem dX10_see_181 : decode mX10_see.2.1 181 = .ok (.ireturn, 1) := by decide +kernel
abbrev mX10_leftBy : aM := (yX10_leftBy, cX10_leftBy, 4, (some .int))
theorem dX10_leftBy_0 : decode mX10_leftBy.2.1 0 = .ok (.aload_n 0, 1) := by decide +kernel
theorem dX10_leftBy_1 : decode mX10_leftBy.2.1 1 = .ok (.iconst 1, 1) := by decide +kernel
theorem dX10_leftBy_2 : decode mX10_leftBy.2.1 2 = .ok (.iconst 0, 1) := by decide +kernel
theorem dX10_leftBy_3 : decode mX10_leftBy.2.1 3 = .ok (.invokevirtual 405, 3) := by decide +kernel
theorem dX10_leftBy_6 : decode mX10_leftBy.2.1 6 = .ok (.aload_n 0, 1) := by decide +kernel
theorem dX10_leftBy_7 : decode mX10_leftBy.2.1 7 = .ok (.iconst 1, 1) := by decide +kernel
theorem dX10_leftBy_8 : decode mX10_leftBy.2.1 8 = .ok (.iload_n 1, 1) := by decide +kernel
theorem dX10_leftBy_9 : decode mX10_leftBy.2.1 9 = .ok (.iload_n 2, 1) := by decide +kernel
theorem dX10_leftBy_10 : decode mX10_leftBy.2.1 10 = .ok (.iload_n 3, 1) := by decide +kernel
theorem dX10_leftBy_11 : decode mX10_leftBy.2.1 11 = .ok (.invokevirtual 441, 3) := by decide +kernel
theorem dX10_leftBy_14 : decode mX10_leftBy.2.1 14 = .ok (.pop, 1) := by decide +kernel
theorem dX10_leftBy_15 : decode mX10_leftBy.2.1 15 = .ok (.aload_n 0, 1) := by decide +kernel
theorem dX10_leftBy_16 : decode mX10_leftBy.2.1 16 = .ok (.getfield 162, 3) := by decide +kernel
theorem dX10_leftBy_19 : decode mX10_leftBy.2.1 19 = .ok (.bipush 6, 2) := by decide +kernel
theorem dX10_leftBy_21 : decode mX10_leftBy.2.1 21 = .ok (.iload_n 2, 1) := by decide +kernel
theorem dX10_leftBy_22 : decode mX10_leftBy.2.1 22 = .ok (.iadd, 1) := by decide +kernel
theorem dX10_leftBy_23 : decode mX10_leftBy.2.1 23 = .ok (.iaload, 1) := by decide +kernel
theorem dX10_leftBy_24 : decode mX10_leftBy.2.1 24 = .ok (.ireturn, 1) := by decide +kernel
abbrev mX10_which : aM := (yX10_which, cX10_which, 5, (some .int))
theorem dX10_which_0 : decode mX10_which.2.1 0 = .ok (.iconst 0, 1) := by decide +kernel
theorem dX10_which_1 : decode mX10_which.2.1 1 = .ok (.istore_n 1, 1) := by decide +kernel
theorem dX10_which_2 : decode mX10_which.2.1 2 = .ok (.iconst 0, 1) := by decide +kernel
theorem dX10_which_3 : decode mX10_which.2.1 3 = .ok (.istore_n 2, 1) := by decide +kernel
theorem dX10_which_4 : decode mX10_which.2.1 4 = .ok (.iload_n 2, 1) := by decide +kernel
theorem dX10_which_5 : decode mX10_which.2.1 5 = .ok (.aload_n 0, 1) := by decide +kernel
theorem dX10_which_6 : decode mX10_which.2.1 6 = .ok (.getfield 63, 3) := by decide +kernel
theorem dX10_which_9 : decode mX10_which.2.1 9 = .ok (.aload_n 0, 1) := by decide +kernel
theorem dX10_which_10 : decode mX10_which.2.1 10 = .ok (.getfield 51, 3) := by decide +kernel
theorem dX10_which_13 : decode mX10_which.2.1 13 = .ok (.iaload, 1) := by decide +kernel
theorem dX10_which_14 : decode mX10_which.2.1 14 = .ok (.if_icmp .ge 82, 3) := by decide +kernel
theorem dX10_which_17 : decode mX10_which.2.1 17 = .ok (.iconst 1, 1) := by decide +kernel
theorem dX10_which_18 : decode mX10_which.2.1 18 = .ok (.istore_n 3, 1) := by decide +kernel
theorem dX10_which_19 : decode mX10_which.2.1 19 = .ok (.iconst 0, 1) := by decide +kernel
theorem dX10_which_20 : decode mX10_which.2.1 20 = .ok (.istore 4, 2) := by decide +kernel
theorem dX10_which_22 : decode mX10_which.2.1 22 = .ok (.iload 4, 2) := by decide +kernel
theorem dX10_which_24 : decode mX10_which.2.1 24 = .ok (.aload_n 0, 1) := by decide +kernel
theorem dX10_which_25 : decode mX10_which.2.1 25 = .ok (.getfield 201, 3) := by decide +kernel
theorem dX10_which_28 : decode mX10_which.2.1 28 = .ok (.if_icmp .ge 48, 3) := by decide +kernel
theorem dX10_which_31 : decode mX10_which.2.1 31 = .ok (.iload_n 3, 1) := by decide +kernel
theorem dX10_which_32 : decode mX10_which.2.1 32 = .ok (.ifCond .eq 36, 3) := by decide +kernel
theorem dX10_which_35 : decode mX10_which.2.1 35 = .ok (.aload_n 0, 1) := by decide +kernel
theorem dX10_which_36 : decode mX10_which.2.1 36 = .ok (.aload_n 0, 1) := by decide +kernel
theorem dX10_which_37 : decode mX10_which.2.1 37 = .ok (.getfield 204, 3) := by decide +kernel
theorem dX10_which_40 : decode mX10_which.2.1 40 = .ok (.iload 4, 2) := by decide +kernel
theorem dX10_which_42 : decode mX10_which.2.1 42 = .ok (.iaload, 1) := by decide +kernel
theorem dX10_which_43 : decode mX10_which.2.1 43 = .ok (.iload_n 2, 1) := by decide +kernel
theorem dX10_which_44 : decode mX10_which.2.1 44 = .ok (.aload_n 0, 1) := by decide +kernel
theorem dX10_which_45 : decode mX10_which.2.1 45 = .ok (.getfield 207, 3) := by decide +kernel
theorem dX10_which_48 : decode mX10_which.2.1 48 = .ok (.iload 4, 2) := by decide +kernel
theorem dX10_which_50 : decode mX10_which.2.1 50 = .ok (.iaload, 1) := by decide +kernel
theorem dX10_which_51 : decode mX10_which.2.1 51 = .ok (.invokevirtual 512, 3) := by decide +kernel
theorem dX10_which_54 : decode mX10_which.2.1 54 = .ok (.aload_n 0, 1) := by decide +kernel
theorem dX10_which_55 : decode mX10_which.2.1 55 = .ok (.getfield 210, 3) := by decide +kernel
theorem dX10_which_58 : decode mX10_which.2.1 58 = .ok (.iload 4, 2) := by decide +kernel
theorem dX10_which_60 : decode mX10_which.2.1 60 = .ok (.iaload, 1) := by decide +kernel
theorem dX10_which_61 : decode mX10_which.2.1 61 = .ok (.if_icmp .ne 7, 3) := by decide +kernel
theorem dX10_which_64 : decode mX10_which.2.1 64 = .ok (.iconst 1, 1) := by decide +kernel
theorem dX10_which_65 : decode mX10_which.2.1 65 = .ok (.goto 4, 3) := by decide +kernel
theorem dX10_which_68 : decode mX10_which.2.1 68 = .ok (.iconst 0, 1) := by decide +kernel
theorem dX10_which_69 : decode mX10_which.2.1 69 = .ok (.istore_n 3, 1) := by decide +kernel
theorem dX10_which_70 : decode mX10_which.2.1 70 = .ok (.iinc 4 1, 3) := by decide +kernel
theorem dX10_which_73 : decode mX10_which.2.1 73 = .ok (.goto (-51), 3) := by decide +kernel
theorem dX10_which_76 : decode mX10_which.2.1 76 = .ok (.iload_n 1, 1) := by decide +kernel
theorem dX10_which_77 : decode mX10_which.2.1 77 = .ok (.iload_n 3, 1) := by decide +kernel
theorem dX10_which_78 : decode mX10_which.2.1 78 = .ok (.ifCond .eq 9, 3) := by decide +kernel
theorem dX10_which_81 : decode mX10_which.2.1 81 = .ok (.iconst 1, 1) := by decide +kernel
theorem dX10_which_82 : decode mX10_which.2.1 82 = .ok (.iload_n 2, 1) := by decide +kernel
theorem dX10_which_83 : decode mX10_which.2.1 83 = .ok (.ishl, 1) := by decide +kernel
theorem dX10_which_84 : decode mX10_which.2.1 84 = .ok (.goto 4, 3) := by decide +kernel
theorem dX10_which_87 : decode mX10_which.2.1 87 = .ok (.iconst 0, 1) := by decide +kernel
theorem dX10_which_88 : decode mX10_which.2.1 88 = .ok (.ior, 1) := by decide +kernel
theorem dX10_which_89 : decode mX10_which.2.1 89 = .ok (.istore_n 1, 1) := by decide +kernel
theorem dX10_which_90 : decode mX10_which.2.1 90 = .ok (.iinc 2 1, 3) := by decide +kernel
theorem dX10_which_93 : decode mX10_which.2.1 93 = .ok (.goto (-89), 3) := by decide +kernel
theorem dX10_which_96 : decode mX10_which.2.1 96 = .ok (.iload_n 1, 1) := by decide +kernel
theorem dX10_which_97 : decode mX10_which.2.1 97 = .ok (.ireturn, 1) := by decide +kernel
abbrev mX10_tells : aM := (yX10_tells, cX10_tells, 11, (some .int))
theorem dX10_tells_0 : decode mX10_tells.2.1 0 = .ok (.aload_n 0, 1) := by decide +kernel
theorem dX10_tells_1 : decode mX10_tells.2.1 1 = .ok (.invokevirtual 516, 3) := by decide +kernel
theorem dX10_tells_4 : decode mX10_tells.2.1 4 = .ok (.istore_n 3, 1) := by decide +kernel
theorem dX10_tells_5 : decode mX10_tells.2.1 5 = .ok (.aload_n 0, 1) := by decide +kernel
theorem dX10_tells_6 : decode mX10_tells.2.1 6 = .ok (.iload_n 1, 1) := by decide +kernel
theorem dX10_tells_7 : decode mX10_tells.2.1 7 = .ok (.invokevirtual 470, 3) := by decide +kernel
theorem dX10_tells_10 : decode mX10_tells.2.1 10 = .ok (.ifCond .eq 16, 3) := by decide +kernel
theorem dX10_tells_13 : decode mX10_tells.2.1 13 = .ok (.iload_n 3, 1) := by decide +kernel
theorem dX10_tells_14 : decode mX10_tells.2.1 14 = .ok (.ifCond .eq 12, 3) := by decide +kernel
theorem dX10_tells_17 : decode mX10_tells.2.1 17 = .ok (.iload_n 2, 1) := by decide +kernel
theorem dX10_tells_18 : decode mX10_tells.2.1 18 = .ok (.iconst 0, 1) := by decide +kernel
theorem dX10_tells_19 : decode mX10_tells.2.1 19 = .ok (.iconst 1, 1) := by decide +kernel
theorem dX10_tells_20 : decode mX10_tells.2.1 20 = .ok (.invokestatic 312, 3) := by decide +kernel
theorem dX10_tells_23 : decode mX10_tells.2.1 23 = .ok (.ifCond .ne 5, 3) := by decide +kernel
theorem dX10_tells_26 : decode mX10_tells.2.1 26 = .ok (.iconst (-1), 1) := by decide +kernel
theorem dX10_tells_27 : decode mX10_tells.2.1 27 = .ok (.ireturn, 1) := by decide +kernel
theorem dX10_tells_28 : decode mX10_tells.2.1 28 = .ok (.iconst (-1), 1) := by decide +kernel
theorem dX10_tells_29 : decode mX10_tells.2.1 29 = .ok (.istore 4, 2) := by decide +kernel
theorem dX10_tells_31 : decode mX10_tells.2.1 31 = .ok (.ldc_w 482, 3) := by decide +kernel
theorem dX10_tells_34 : decode mX10_tells.2.1 34 = .ok (.istore 5, 2) := by decide +kernel
theorem dX10_tells_36 : decode mX10_tells.2.1 36 = .ok (.iconst 1, 1) := by decide +kernel
theorem dX10_tells_37 : decode mX10_tells.2.1 37 = .ok (.istore 6, 2) := by decide +kernel
theorem dX10_tells_39 : decode mX10_tells.2.1 39 = .ok (.iload 6, 2) := by decide +kernel
theorem dX10_tells_41 : decode mX10_tells.2.1 41 = .ok (.bipush 40, 2) := by decide +kernel
theorem dX10_tells_43 : decode mX10_tells.2.1 43 = .ok (.if_icmp .gt 179, 3) := by decide +kernel
theorem dX10_tells_46 : decode mX10_tells.2.1 46 = .ok (.iconst 0, 1) := by decide +kernel
theorem dX10_tells_47 : decode mX10_tells.2.1 47 = .ok (.istore 7, 2) := by decide +kernel
theorem dX10_tells_49 : decode mX10_tells.2.1 49 = .ok (.iload 7, 2) := by decide +kernel
theorem dX10_tells_51 : decode mX10_tells.2.1 51 = .ok (.aload_n 0, 1) := by decide +kernel
theorem dX10_tells_52 : decode mX10_tells.2.1 52 = .ok (.getfield 63, 3) := by decide +kernel
theorem dX10_tells_55 : decode mX10_tells.2.1 55 = .ok (.aload_n 0, 1) := by decide +kernel
theorem dX10_tells_56 : decode mX10_tells.2.1 56 = .ok (.getfield 51, 3) := by decide +kernel
theorem dX10_tells_59 : decode mX10_tells.2.1 59 = .ok (.iaload, 1) := by decide +kernel
theorem dX10_tells_60 : decode mX10_tells.2.1 60 = .ok (.if_icmp .ge 25, 3) := by decide +kernel
theorem dX10_tells_63 : decode mX10_tells.2.1 63 = .ok (.aload_n 0, 1) := by decide +kernel
theorem dX10_tells_64 : decode mX10_tells.2.1 64 = .ok (.getfield 213, 3) := by decide +kernel
theorem dX10_tells_67 : decode mX10_tells.2.1 67 = .ok (.iload 7, 2) := by decide +kernel
theorem dX10_tells_69 : decode mX10_tells.2.1 69 = .ok (.aload_n 0, 1) := by decide +kernel
theorem dX10_tells_70 : decode mX10_tells.2.1 70 = .ok (.iload_n 1, 1) := by decide +kernel
theorem dX10_tells_71 : decode mX10_tells.2.1 71 = .ok (.iload 7, 2) := by decide +kernel
theorem dX10_tells_73 : decode mX10_tells.2.1 73 = .ok (.iload 6, 2) := by decide +kernel
theorem dX10_tells_75 : decode mX10_tells.2.1 75 = .ok (.invokevirtual 512, 3) := by decide +kernel
theorem dX10_tells_78 : decode mX10_tells.2.1 78 = .ok (.iastore, 1) := by decide +kernel
theorem dX10_tells_79 : decode mX10_tells.2.1 79 = .ok (.iinc 7 1, 3) := by decide +kernel
theorem dX10_tells_82 : decode mX10_tells.2.1 82 = .ok (.goto (-33), 3) := by decide +kernel
theorem dX10_tells_85 : decode mX10_tells.2.1 85 = .ok (.iconst 0, 1) := by decide +kernel
theorem dX10_tells_86 : decode mX10_tells.2.1 86 = .ok (.istore 7, 2) := by decide +kernel
theorem dX10_tells_88 : decode mX10_tells.2.1 88 = .ok (.iconst 0, 1) := by decide +kernel
theorem dX10_tells_89 : decode mX10_tells.2.1 89 = .ok (.istore 8, 2) := by decide +kernel
theorem dX10_tells_91 : decode mX10_tells.2.1 91 = .ok (.iload 8, 2) := by decide +kernel
theorem dX10_tells_93 : decode mX10_tells.2.1 93 = .ok (.aload_n 0, 1) := by decide +kernel
theorem dX10_tells_94 : decode mX10_tells.2.1 94 = .ok (.getfield 63, 3) := by decide +kernel
theorem dX10_tells_97 : decode mX10_tells.2.1 97 = .ok (.aload_n 0, 1) := by decide +kernel
theorem dX10_tells_98 : decode mX10_tells.2.1 98 = .ok (.getfield 51, 3) := by decide +kernel
theorem dX10_tells_101 : decode mX10_tells.2.1 101 = .ok (.iaload, 1) := by decide +kernel
theorem dX10_tells_102 : decode mX10_tells.2.1 102 = .ok (.if_icmp .ge 96, 3) := by decide +kernel
theorem dX10_tells_105 : decode mX10_tells.2.1 105 = .ok (.iconst 0, 1) := by decide +kernel
theorem dX10_tells_106 : decode mX10_tells.2.1 106 = .ok (.istore 9, 2) := by decide +kernel
theorem dX10_tells_108 : decode mX10_tells.2.1 108 = .ok (.iconst 0, 1) := by decide +kernel
theorem dX10_tells_109 : decode mX10_tells.2.1 109 = .ok (.istore 10, 2) := by decide +kernel
theorem dX10_tells_111 : decode mX10_tells.2.1 111 = .ok (.iload 10, 2) := by decide +kernel
theorem dX10_tells_113 : decode mX10_tells.2.1 113 = .ok (.aload_n 0, 1) := by decide +kernel
theorem dX10_tells_114 : decode mX10_tells.2.1 114 = .ok (.getfield 63, 3) := by decide +kernel
theorem dX10_tells_117 : decode mX10_tells.2.1 117 = .ok (.aload_n 0, 1) := by decide +kernel
theorem dX10_tells_118 : decode mX10_tells.2.1 118 = .ok (.getfield 51, 3) := by decide +kernel
theorem dX10_tells_121 : decode mX10_tells.2.1 121 = .ok (.iaload, 1) := by decide +kernel
theorem dX10_tells_122 : decode mX10_tells.2.1 122 = .ok (.if_icmp .ge 54, 3) := by decide +kernel
theorem dX10_tells_125 : decode mX10_tells.2.1 125 = .ok (.iload 9, 2) := by decide +kernel
theorem dX10_tells_127 : decode mX10_tells.2.1 127 = .ok (.iload_n 3, 1) := by decide +kernel
theorem dX10_tells_128 : decode mX10_tells.2.1 128 = .ok (.iload 8, 2) := by decide +kernel
theorem dX10_tells_130 : decode mX10_tells.2.1 130 = .ok (.invokestatic 445, 3) := by decide +kernel
theorem dX10_tells_133 : decode mX10_tells.2.1 133 = .ok (.ifCond .eq 33, 3) := by decide +kernel
theorem dX10_tells_136 : decode mX10_tells.2.1 136 = .ok (.iload_n 3, 1) := by decide +kernel
theorem dX10_tells_137 : decode mX10_tells.2.1 137 = .ok (.iload 10, 2) := by decide +kernel
theorem dX10_tells_139 : decode mX10_tells.2.1 139 = .ok (.invokestatic 445, 3) := by decide +kernel
theorem dX10_tells_142 : decode mX10_tells.2.1 142 = .ok (.ifCond .eq 24, 3) := by decide +kernel
theorem dX10_tells_145 : decode mX10_tells.2.1 145 = .ok (.aload_n 0, 1) := by decide +kernel
theorem dX10_tells_146 : decode mX10_tells.2.1 146 = .ok (.getfield 213, 3) := by decide +kernel
theorem dX10_tells_149 : decode mX10_tells.2.1 149 = .ok (.iload 10, 2) := by decide +kernel
theorem dX10_tells_151 : decode mX10_tells.2.1 151 = .ok (.iaload, 1) := by decide +kernel
theorem dX10_tells_152 : decode mX10_tells.2.1 152 = .ok (.aload_n 0, 1) := by decide +kernel
theorem dX10_tells_153 : decode mX10_tells.2.1 153 = .ok (.getfield 213, 3) := by decide +kernel
theorem dX10_tells_156 : decode mX10_tells.2.1 156 = .ok (.iload 8, 2) := by decide +kernel
theorem dX10_tells_158 : decode mX10_tells.2.1 158 = .ok (.iaload, 1) := by decide +kernel
theorem dX10_tells_159 : decode mX10_tells.2.1 159 = .ok (.if_icmp .ne 7, 3) := by decide +kernel
theorem dX10_tells_162 : decode mX10_tells.2.1 162 = .ok (.iconst 1, 1) := by decide +kernel
theorem dX10_tells_163 : decode mX10_tells.2.1 163 = .ok (.goto 4, 3) := by decide +kernel
theorem dX10_tells_166 : decode mX10_tells.2.1 166 = .ok (.iconst 0, 1) := by decide +kernel
theorem dX10_tells_167 : decode mX10_tells.2.1 167 = .ok (.iadd, 1) := by decide +kernel
theorem dX10_tells_168 : decode mX10_tells.2.1 168 = .ok (.istore 9, 2) := by decide +kernel
theorem dX10_tells_170 : decode mX10_tells.2.1 170 = .ok (.iinc 10 1, 3) := by decide +kernel
theorem dX10_tells_173 : decode mX10_tells.2.1 173 = .ok (.goto (-62), 3) := by decide +kernel
theorem dX10_tells_176 : decode mX10_tells.2.1 176 = .ok (.iload 9, 2) := by decide +kernel
theorem dX10_tells_178 : decode mX10_tells.2.1 178 = .ok (.iload 7, 2) := by decide +kernel
theorem dX10_tells_180 : decode mX10_tells.2.1 180 = .ok (.if_icmp .le 8, 3) := by decide +kernel
theorem dX10_tells_183 : decode mX10_tells.2.1 183 = .ok (.iload 9, 2) := by decide +kernel
theorem dX10_tells_185 : decode mX10_tells.2.1 185 = .ok (.goto 5, 3) := by decide +kernel
theorem dX10_tells_188 : decode mX10_tells.2.1 188 = .ok (.iload 7, 2) := by decide +kernel
theorem dX10_tells_190 : decode mX10_tells.2.1 190 = .ok (.istore 7, 2) := by decide +kernel
theorem dX10_tells_192 : decode mX10_tells.2.1 192 = .ok (.iinc 8 1, 3) := by decide +kernel
theorem dX10_tells_195 : decode mX10_tells.2.1 195 = .ok (.goto (-104), 3) := by decide +kernel
theorem dX10_tells_198 : decode mX10_tells.2.1 198 = .ok (.iload 7, 2) := by decide +kernel
theorem dX10_tells_200 : decode mX10_tells.2.1 200 = .ok (.iload 5, 2) := by decide +kernel
theorem dX10_tells_202 : decode mX10_tells.2.1 202 = .ok (.if_icmp .lt 6, 3) := by decide +kernel
theorem dX10_tells_205 : decode mX10_tells.2.1 205 = .ok (.goto 11, 3) := by decide +kernel
theorem dX10_tells_208 : decode mX10_tells.2.1 208 = .ok (.iload 7, 2) := by decide +kernel
theorem dX10_tells_210 : decode mX10_tells.2.1 210 = .ok (.istore 5, 2) := by decide +kernel
theorem dX10_tells_212 : decode mX10_tells.2.1 212 = .ok (.iload 6, 2) := by decide +kernel
theorem dX10_tells_214 : decode mX10_tells.2.1 214 = .ok (.istore 4, 2) := by decide +kernel
theorem dX10_tells_216 : decode mX10_tells.2.1 216 = .ok (.iinc 6 1, 3) := by decide +kernel
theorem dX10_tells_219 : decode mX10_tells.2.1 219 = .ok (.goto (-180), 3) := by decide +kernel
theorem dX10_tells_222 : decode mX10_tells.2.1 222 = .ok (.iload_n 2, 1) := by decide +kernel
theorem dX10_tells_223 : decode mX10_tells.2.1 223 = .ok (.ifCond .ne 8, 3) := by decide +kernel
theorem dX10_tells_226 : decode mX10_tells.2.1 226 = .ok (.iload 4, 2) := by decide +kernel
theorem dX10_tells_228 : decode mX10_tells.2.1 228 = .ok (.goto 5, 3) := by decide +kernel
theorem dX10_tells_231 : decode mX10_tells.2.1 231 = .ok (.iload 5, 2) := by decide +kernel
theorem dX10_tells_233 : decode mX10_tells.2.1 233 = .ok (.ireturn, 1) := by decide +kernel
abbrev mX10_weeks : aM := (yX10_weeks, cX10_weeks, 4, (some .int))
theorem dX10_weeks_0 : decode mX10_weeks.2.1 0 = .ok (.aload_n 0, 1) := by decide +kernel
theorem dX10_weeks_1 : decode mX10_weeks.2.1 1 = .ok (.iload_n 1, 1) := by decide +kernel
theorem dX10_weeks_2 : decode mX10_weeks.2.1 2 = .ok (.iconst 1, 1) := by decide +kernel
theorem dX10_weeks_3 : decode mX10_weeks.2.1 3 = .ok (.bipush 40, 2) := by decide +kernel
theorem dX10_weeks_5 : decode mX10_weeks.2.1 5 = .ok (.invokevirtual 506, 3) := by decide +kernel
theorem dX10_weeks_8 : decode mX10_weeks.2.1 8 = .ok (.ifCond .ne 9, 3) := by decide +kernel
theorem dX10_weeks_11 : decode mX10_weeks.2.1 11 = .ok (.aload_n 0, 1) := by decide +kernel
theorem dX10_weeks_12 : decode mX10_weeks.2.1 12 = .ok (.iconst 2, 1) := by decide +kernel
theorem dX10_weeks_13 : decode mX10_weeks.2.1 13 = .ok (.invokevirtual 222, 3) := by decide +kernel
theorem dX10_weeks_16 : decode mX10_weeks.2.1 16 = .ok (.ireturn, 1) := by decide +kernel
theorem dX10_weeks_17 : decode mX10_weeks.2.1 17 = .ok (.aload_n 0, 1) := by decide +kernel
theorem dX10_weeks_18 : decode mX10_weeks.2.1 18 = .ok (.invokevirtual 519, 3) := by decide +kernel
theorem dX10_weeks_21 : decode mX10_weeks.2.1 21 = .ok (.iconst 0, 1) := by decide +kernel
theorem dX10_weeks_22 : decode mX10_weeks.2.1 22 = .ok (.istore_n 2, 1) := by decide +kernel
theorem dX10_weeks_23 : decode mX10_weeks.2.1 23 = .ok (.iconst 0, 1) := by decide +kernel
theorem dX10_weeks_24 : decode mX10_weeks.2.1 24 = .ok (.istore_n 3, 1) := by decide +kernel
theorem dX10_weeks_25 : decode mX10_weeks.2.1 25 = .ok (.iload_n 3, 1) := by decide +kernel
theorem dX10_weeks_26 : decode mX10_weeks.2.1 26 = .ok (.iload_n 1, 1) := by decide +kernel
theorem dX10_weeks_27 : decode mX10_weeks.2.1 27 = .ok (.if_icmp .ge 18, 3) := by decide +kernel
theorem dX10_weeks_30 : decode mX10_weeks.2.1 30 = .ok (.iload_n 2, 1) := by decide +kernel
theorem dX10_weeks_31 : decode mX10_weeks.2.1 31 = .ok (.aload_n 0, 1) := by decide +kernel
theorem dX10_weeks_32 : decode mX10_weeks.2.1 32 = .ok (.iconst 0, 1) := by decide +kernel
theorem dX10_weeks_33 : decode mX10_weeks.2.1 33 = .ok (.iconst 0, 1) := by decide +kernel
theorem dX10_weeks_34 : decode mX10_weeks.2.1 34 = .ok (.invokevirtual 502, 3) := by decide +kernel
theorem dX10_weeks_37 : decode mX10_weeks.2.1 37 = .ok (.iadd, 1) := by decide +kernel
theorem dX10_weeks_38 : decode mX10_weeks.2.1 38 = .ok (.istore_n 2, 1) := by decide +kernel
theorem dX10_weeks_39 : decode mX10_weeks.2.1 39 = .ok (.iinc 3 1, 3) := by decide +kernel
theorem dX10_weeks_42 : decode mX10_weeks.2.1 42 = .ok (.goto (-17), 3) := by decide +kernel
theorem dX10_weeks_45 : decode mX10_weeks.2.1 45 = .ok (.iload_n 2, 1) := by decide +kernel
theorem dX10_weeks_46 : decode mX10_weeks.2.1 46 = .ok (.ireturn, 1) := by decide +kernel
abbrev mX10_draw : aM := (yX10_draw, cX10_draw, 2, (some .int))
theorem dX10_draw_0 : decode mX10_draw.2.1 0 = .ok (.aload_n 0, 1) := by decide +kernel
theorem dX10_draw_1 : decode mX10_draw.2.1 1 = .ok (.ldc2_w 522, 3) := by decide +kernel
theorem dX10_draw_4 : decode mX10_draw.2.1 4 = .ok (.aload_n 0, 1) := by decide +kernel
theorem dX10_draw_5 : decode mX10_draw.2.1 5 = .ok (.getfield 180, 3) := by decide +kernel
theorem dX10_draw_8 : decode mX10_draw.2.1 8 = .ok (.lmul, 1) := by decide +kernel
theorem dX10_draw_9 : decode mX10_draw.2.1 9 = .ok (.ldc2_w 524, 3) := by decide +kernel
theorem dX10_draw_12 : decode mX10_draw.2.1 12 = .ok (.ladd, 1) := by decide +kernel
theorem dX10_draw_13 : decode mX10_draw.2.1 13 = .ok (.ldc2_w 526, 3) := by decide +kernel
theorem dX10_draw_16 : decode mX10_draw.2.1 16 = .ok (.lrem, 1) := by decide +kernel
theorem dX10_draw_17 : decode mX10_draw.2.1 17 = .ok (.putfield 180, 3) := by decide +kernel
theorem dX10_draw_20 : decode mX10_draw.2.1 20 = .ok (.aload_n 0, 1) := by decide +kernel
theorem dX10_draw_21 : decode mX10_draw.2.1 21 = .ok (.getfield 180, 3) := by decide +kernel
theorem dX10_draw_24 : decode mX10_draw.2.1 24 = .ok (.ldc2_w 528, 3) := by decide +kernel
theorem dX10_draw_27 : decode mX10_draw.2.1 27 = .ok (.ldiv, 1) := by decide +kernel
theorem dX10_draw_28 : decode mX10_draw.2.1 28 = .ok (.iload_n 1, 1) := by decide +kernel
theorem dX10_draw_29 : decode mX10_draw.2.1 29 = .ok (.i2l, 1) := by decide +kernel
theorem dX10_draw_30 : decode mX10_draw.2.1 30 = .ok (.lrem, 1) := by decide +kernel
theorem dX10_draw_31 : decode mX10_draw.2.1 31 = .ok (.l2i, 1) := by decide +kernel
theorem dX10_draw_32 : decode mX10_draw.2.1 32 = .ok (.ireturn, 1) := by decide +kernel
abbrev mX10_chance : aM := (yX10_chance, cX10_chance, 5, (some .int))
theorem dX10_chance_0 : decode mX10_chance.2.1 0 = .ok (.aload_n 0, 1) := by decide +kernel
theorem dX10_chance_1 : decode mX10_chance.2.1 1 = .ok (.iload_n 1, 1) := by decide +kernel
theorem dX10_chance_2 : decode mX10_chance.2.1 2 = .ok (.iconst 1, 1) := by decide +kernel
theorem dX10_chance_3 : decode mX10_chance.2.1 3 = .ok (.bipush 40, 2) := by decide +kernel
theorem dX10_chance_5 : decode mX10_chance.2.1 5 = .ok (.invokevirtual 506, 3) := by decide +kernel
theorem dX10_chance_8 : decode mX10_chance.2.1 8 = .ok (.ifCond .ne 9, 3) := by decide +kernel
theorem dX10_chance_11 : decode mX10_chance.2.1 11 = .ok (.aload_n 0, 1) := by decide +kernel
theorem dX10_chance_12 : decode mX10_chance.2.1 12 = .ok (.iconst 2, 1) := by decide +kernel
theorem dX10_chance_13 : decode mX10_chance.2.1 13 = .ok (.invokevirtual 222, 3) := by decide +kernel
theorem dX10_chance_16 : decode mX10_chance.2.1 16 = .ok (.ireturn, 1) := by decide +kernel
theorem dX10_chance_17 : decode mX10_chance.2.1 17 = .ok (.aload_n 0, 1) := by decide +kernel
theorem dX10_chance_18 : decode mX10_chance.2.1 18 = .ok (.invokevirtual 519, 3) := by decide +kernel
theorem dX10_chance_21 : decode mX10_chance.2.1 21 = .ok (.iconst 0, 1) := by decide +kernel
theorem dX10_chance_22 : decode mX10_chance.2.1 22 = .ok (.istore_n 2, 1) := by decide +kernel
theorem dX10_chance_23 : decode mX10_chance.2.1 23 = .ok (.iconst 0, 1) := by decide +kernel
theorem dX10_chance_24 : decode mX10_chance.2.1 24 = .ok (.istore_n 3, 1) := by decide +kernel
theorem dX10_chance_25 : decode mX10_chance.2.1 25 = .ok (.iload_n 3, 1) := by decide +kernel
theorem dX10_chance_26 : decode mX10_chance.2.1 26 = .ok (.iload_n 1, 1) := by decide +kernel
theorem dX10_chance_27 : decode mX10_chance.2.1 27 = .ok (.if_icmp .ge 55, 3) := by decide +kernel
theorem dX10_chance_30 : decode mX10_chance.2.1 30 = .ok (.aload_n 0, 1) := by decide +kernel
theorem dX10_chance_31 : decode mX10_chance.2.1 31 = .ok (.bipush 100, 2) := by decide +kernel
theorem dX10_chance_33 : decode mX10_chance.2.1 33 = .ok (.invokevirtual 530, 3) := by decide +kernel
theorem dX10_chance_36 : decode mX10_chance.2.1 36 = .ok (.aload_n 0, 1) := by decide +kernel
theorem dX10_chance_37 : decode mX10_chance.2.1 37 = .ok (.getfield 84, 3) := by decide +kernel
theorem dX10_chance_40 : decode mX10_chance.2.1 40 = .ok (.aload_n 0, 1) := by decide +kernel
theorem dX10_chance_41 : decode mX10_chance.2.1 41 = .ok (.getfield 51, 3) := by decide +kernel
theorem dX10_chance_44 : decode mX10_chance.2.1 44 = .ok (.iaload, 1) := by decide +kernel
theorem dX10_chance_45 : decode mX10_chance.2.1 45 = .ok (.if_icmp .ge 7, 3) := by decide +kernel
theorem dX10_chance_48 : decode mX10_chance.2.1 48 = .ok (.iconst 1, 1) := by decide +kernel
theorem dX10_chance_49 : decode mX10_chance.2.1 49 = .ok (.goto 4, 3) := by decide +kernel
theorem dX10_chance_52 : decode mX10_chance.2.1 52 = .ok (.iconst 0, 1) := by decide +kernel
theorem dX10_chance_53 : decode mX10_chance.2.1 53 = .ok (.istore 4, 2) := by decide +kernel
theorem dX10_chance_55 : decode mX10_chance.2.1 55 = .ok (.iload_n 2, 1) := by decide +kernel
theorem dX10_chance_56 : decode mX10_chance.2.1 56 = .ok (.iload 4, 2) := by decide +kernel
theorem dX10_chance_58 : decode mX10_chance.2.1 58 = .ok (.ifCond .eq 7, 3) := by decide +kernel
theorem dX10_chance_61 : decode mX10_chance.2.1 61 = .ok (.iconst 1, 1) := by decide +kernel
theorem dX10_chance_62 : decode mX10_chance.2.1 62 = .ok (.goto 4, 3) := by decide +kernel
theorem dX10_chance_65 : decode mX10_chance.2.1 65 = .ok (.iconst 0, 1) := by decide +kernel
theorem dX10_chance_66 : decode mX10_chance.2.1 66 = .ok (.iadd, 1) := by decide +kernel
theorem dX10_chance_67 : decode mX10_chance.2.1 67 = .ok (.istore_n 2, 1) := by decide +kernel
theorem dX10_chance_68 : decode mX10_chance.2.1 68 = .ok (.aload_n 0, 1) := by decide +kernel
theorem dX10_chance_69 : decode mX10_chance.2.1 69 = .ok (.iconst 0, 1) := by decide +kernel
theorem dX10_chance_70 : decode mX10_chance.2.1 70 = .ok (.iload 4, 2) := by decide +kernel
theorem dX10_chance_72 : decode mX10_chance.2.1 72 = .ok (.invokevirtual 502, 3) := by decide +kernel
theorem dX10_chance_75 : decode mX10_chance.2.1 75 = .ok (.pop, 1) := by decide +kernel
theorem dX10_chance_76 : decode mX10_chance.2.1 76 = .ok (.iinc 3 1, 3) := by decide +kernel
theorem dX10_chance_79 : decode mX10_chance.2.1 79 = .ok (.goto (-54), 3) := by decide +kernel
theorem dX10_chance_82 : decode mX10_chance.2.1 82 = .ok (.iload_n 2, 1) := by decide +kernel
theorem dX10_chance_83 : decode mX10_chance.2.1 83 = .ok (.ireturn, 1) := by decide +kernel
abbrev mX10_sermon : aM := (yX10_sermon, cX10_sermon, 4, (some .int))
theorem dX10_sermon_0 : decode mX10_sermon.2.1 0 = .ok (.aload_n 0, 1) := by decide +kernel
theorem dX10_sermon_1 : decode mX10_sermon.2.1 1 = .ok (.iload_n 1, 1) := by decide +kernel
theorem dX10_sermon_2 : decode mX10_sermon.2.1 2 = .ok (.invokevirtual 470, 3) := by decide +kernel
theorem dX10_sermon_5 : decode mX10_sermon.2.1 5 = .ok (.ifCond .eq 30, 3) := by decide +kernel
theorem dX10_sermon_8 : decode mX10_sermon.2.1 8 = .ok (.aload_n 0, 1) := by decide +kernel
theorem dX10_sermon_9 : decode mX10_sermon.2.1 9 = .ok (.iload_n 2, 1) := by decide +kernel
theorem dX10_sermon_10 : decode mX10_sermon.2.1 10 = .ok (.invokevirtual 473, 3) := by decide +kernel
theorem dX10_sermon_13 : decode mX10_sermon.2.1 13 = .ok (.ifCond .eq 22, 3) := by decide +kernel
theorem dX10_sermon_16 : decode mX10_sermon.2.1 16 = .ok (.iload_n 3, 1) := by decide +kernel
theorem dX10_sermon_17 : decode mX10_sermon.2.1 17 = .ok (.iconst 1, 1) := by decide +kernel
theorem dX10_sermon_18 : decode mX10_sermon.2.1 18 = .ok (.bipush 40, 2) := by decide +kernel
theorem dX10_sermon_20 : decode mX10_sermon.2.1 20 = .ok (.invokestatic 312, 3) := by decide +kernel
theorem dX10_sermon_23 : decode mX10_sermon.2.1 23 = .ok (.ifCond .eq 12, 3) := by decide +kernel
theorem dX10_sermon_26 : decode mX10_sermon.2.1 26 = .ok (.aload_n 0, 1) := by decide +kernel
theorem dX10_sermon_27 : decode mX10_sermon.2.1 27 = .ok (.getfield 162, 3) := by decide +kernel
theorem dX10_sermon_30 : decode mX10_sermon.2.1 30 = .ok (.iload_n 2, 1) := by decide +kernel
theorem dX10_sermon_31 : decode mX10_sermon.2.1 31 = .ok (.iaload, 1) := by decide +kernel
theorem dX10_sermon_32 : decode mX10_sermon.2.1 32 = .ok (.ifCond .ne 9, 3) := by decide +kernel
theorem dX10_sermon_35 : decode mX10_sermon.2.1 35 = .ok (.aload_n 0, 1) := by decide +kernel
theorem dX10_sermon_36 : decode mX10_sermon.2.1 36 = .ok (.iconst 3, 1) := by decide +kernel
theorem dX10_sermon_37 : decode mX10_sermon.2.1 37 = .ok (.invokevirtual 222, 3) := by decide +kernel
theorem dX10_sermon_40 : decode mX10_sermon.2.1 40 = .ok (.ireturn, 1) := by decide +kernel
theorem dX10_sermon_41 : decode mX10_sermon.2.1 41 = .ok (.aload_n 0, 1) := by decide +kernel
theorem dX10_sermon_42 : decode mX10_sermon.2.1 42 = .ok (.invokevirtual 519, 3) := by decide +kernel
theorem dX10_sermon_45 : decode mX10_sermon.2.1 45 = .ok (.aload_n 0, 1) := by decide +kernel
theorem dX10_sermon_46 : decode mX10_sermon.2.1 46 = .ok (.iconst 0, 1) := by decide +kernel
theorem dX10_sermon_47 : decode mX10_sermon.2.1 47 = .ok (.iload_n 1, 1) := by decide +kernel
theorem dX10_sermon_48 : decode mX10_sermon.2.1 48 = .ok (.iload_n 2, 1) := by decide +kernel
theorem dX10_sermon_49 : decode mX10_sermon.2.1 49 = .ok (.iload_n 3, 1) := by decide +kernel
theorem dX10_sermon_50 : decode mX10_sermon.2.1 50 = .ok (.invokevirtual 462, 3) := by decide +kernel
theorem dX10_sermon_53 : decode mX10_sermon.2.1 53 = .ok (.ireturn, 1) := by decide +kernel
abbrev mX10_soil : aM := (yX10_soil, cX10_soil, 3, (some .int))
theorem dX10_soil_0 : decode mX10_soil.2.1 0 = .ok (.aload_n 0, 1) := by decide +kernel
theorem dX10_soil_1 : decode mX10_soil.2.1 1 = .ok (.iload_n 1, 1) := by decide +kernel
theorem dX10_soil_2 : decode mX10_soil.2.1 2 = .ok (.invokevirtual 473, 3) := by decide +kernel
theorem dX10_soil_5 : decode mX10_soil.2.1 5 = .ok (.ifCond .eq 24, 3) := by decide +kernel
theorem dX10_soil_8 : decode mX10_soil.2.1 8 = .ok (.iload_n 2, 1) := by decide +kernel
theorem dX10_soil_9 : decode mX10_soil.2.1 9 = .ok (.iconst 1, 1) := by decide +kernel
theorem dX10_soil_10 : decode mX10_soil.2.1 10 = .ok (.bipush 99, 2) := by decide +kernel
theorem dX10_soil_12 : decode mX10_soil.2.1 12 = .ok (.invokestatic 312, 3) := by decide +kernel
theorem dX10_soil_15 : decode mX10_soil.2.1 15 = .ok (.ifCond .eq 14, 3) := by decide +kernel
theorem dX10_soil_18 : decode mX10_soil.2.1 18 = .ok (.aload_n 0, 1) := by decide +kernel
theorem dX10_soil_19 : decode mX10_soil.2.1 19 = .ok (.getfield 162, 3) := by decide +kernel
theorem dX10_soil_22 : decode mX10_soil.2.1 22 = .ok (.iload_n 1, 1) := by decide +kernel
theorem dX10_soil_23 : decode mX10_soil.2.1 23 = .ok (.iaload, 1) := by decide +kernel
theorem dX10_soil_24 : decode mX10_soil.2.1 24 = .ok (.bipush 99, 2) := by decide +kernel
theorem dX10_soil_26 : decode mX10_soil.2.1 26 = .ok (.if_icmp .ne 9, 3) := by decide +kernel
theorem dX10_soil_29 : decode mX10_soil.2.1 29 = .ok (.aload_n 0, 1) := by decide +kernel
theorem dX10_soil_30 : decode mX10_soil.2.1 30 = .ok (.iconst 3, 1) := by decide +kernel
theorem dX10_soil_31 : decode mX10_soil.2.1 31 = .ok (.invokevirtual 222, 3) := by decide +kernel
theorem dX10_soil_34 : decode mX10_soil.2.1 34 = .ok (.ireturn, 1) := by decide +kernel
theorem dX10_soil_35 : decode mX10_soil.2.1 35 = .ok (.aload_n 0, 1) := by decide +kernel
theorem dX10_soil_36 : decode mX10_soil.2.1 36 = .ok (.invokevirtual 519, 3) := by decide +kernel
theorem dX10_soil_39 : decode mX10_soil.2.1 39 = .ok (.aload_n 0, 1) := by decide +kernel
theorem dX10_soil_40 : decode mX10_soil.2.1 40 = .ok (.getfield 162, 3) := by decide +kernel
theorem dX10_soil_43 : decode mX10_soil.2.1 43 = .ok (.iload_n 1, 1) := by decide +kernel
theorem dX10_soil_44 : decode mX10_soil.2.1 44 = .ok (.aload_n 0, 1) := by decide +kernel
theorem dX10_soil_45 : decode mX10_soil.2.1 45 = .ok (.getfield 162, 3) := by decide +kernel
theorem dX10_soil_48 : decode mX10_soil.2.1 48 = .ok (.iload_n 1, 1) := by decide +kernel
theorem dX10_soil_49 : decode mX10_soil.2.1 49 = .ok (.iaload, 1) := by decide +kernel
theorem dX10_soil_50 : decode mX10_soil.2.1 50 = .ok (.iload_n 2, 1) := by decide +kernel
theorem dX10_soil_51 : decode mX10_soil.2.1 51 = .ok (.iadd, 1) := by decide +kernel
theorem dX10_soil_52 : decode mX10_soil.2.1 52 = .ok (.bipush 99, 2) := by decide +kernel
theorem dX10_soil_54 : decode mX10_soil.2.1 54 = .ok (.if_icmp .ge 14, 3) := by decide +kernel
theorem dX10_soil_57 : decode mX10_soil.2.1 57 = .ok (.aload_n 0, 1) := by decide +kernel
theorem dX10_soil_58 : decode mX10_soil.2.1 58 = .ok (.getfield 162, 3) := by decide +kernel
theorem dX10_soil_61 : decode mX10_soil.2.1 61 = .ok (.iload_n 1, 1) := by decide +kernel
theorem dX10_soil_62 : decode mX10_soil.2.1 62 = .ok (.iaload, 1) := by decide +kernel
theorem dX10_soil_63 : decode mX10_soil.2.1 63 = .ok (.iload_n 2, 1) := by decide +kernel
theorem dX10_soil_64 : decode mX10_soil.2.1 64 = .ok (.iadd, 1) := by decide +kernel
theorem dX10_soil_65 : decode mX10_soil.2.1 65 = .ok (.goto 5, 3) := by decide +kernel
theorem dX10_soil_68 : decode mX10_soil.2.1 68 = .ok (.bipush 99, 2) := by decide +kernel
theorem dX10_soil_70 : decode mX10_soil.2.1 70 = .ok (.iastore, 1) := by decide +kernel
theorem dX10_soil_71 : decode mX10_soil.2.1 71 = .ok (.aload_n 0, 1) := by decide +kernel
theorem dX10_soil_72 : decode mX10_soil.2.1 72 = .ok (.getfield 162, 3) := by decide +kernel
theorem dX10_soil_75 : decode mX10_soil.2.1 75 = .ok (.iload_n 1, 1) := by decide +kernel
theorem dX10_soil_76 : decode mX10_soil.2.1 76 = .ok (.iaload, 1) := by decide +kernel
theorem dX10_soil_77 : decode mX10_soil.2.1 77 = .ok (.ireturn, 1) := by decide +kernel
abbrev mX10_mend : aM := (yX10_mend, cX10_mend, 2, (some .boolean))
theorem dX10_mend_0 : decode mX10_mend.2.1 0 = .ok (.aload_n 0, 1) := by decide +kernel
theorem dX10_mend_1 : decode mX10_mend.2.1 1 = .ok (.iload_n 1, 1) := by decide +kernel
theorem dX10_mend_2 : decode mX10_mend.2.1 2 = .ok (.invokevirtual 470, 3) := by decide +kernel
theorem dX10_mend_5 : decode mX10_mend.2.1 5 = .ok (.ifCond .eq 25, 3) := by decide +kernel
theorem dX10_mend_8 : decode mX10_mend.2.1 8 = .ok (.aload_n 0, 1) := by decide +kernel
theorem dX10_mend_9 : decode mX10_mend.2.1 9 = .ok (.getfield 159, 3) := by decide +kernel
theorem dX10_mend_12 : decode mX10_mend.2.1 12 = .ok (.iload_n 1, 1) := by decide +kernel
theorem dX10_mend_13 : decode mX10_mend.2.1 13 = .ok (.iaload, 1) := by decide +kernel
theorem dX10_mend_14 : decode mX10_mend.2.1 14 = .ok (.aload_n 0, 1) := by decide +kernel
theorem dX10_mend_15 : decode mX10_mend.2.1 15 = .ok (.getfield 60, 3) := by decide +kernel
theorem dX10_mend_18 : decode mX10_mend.2.1 18 = .ok (.iconst 5, 1) := by decide +kernel
theorem dX10_mend_19 : decode mX10_mend.2.1 19 = .ok (.aload_n 0, 1) := by decide +kernel
theorem dX10_mend_20 : decode mX10_mend.2.1 20 = .ok (.getfield 51, 3) := by decide +kernel
theorem dX10_mend_23 : decode mX10_mend.2.1 23 = .ok (.imul, 1) := by decide +kernel
theorem dX10_mend_24 : decode mX10_mend.2.1 24 = .ok (.iload_n 1, 1) := by decide +kernel
theorem dX10_mend_25 : decode mX10_mend.2.1 25 = .ok (.iadd, 1) := by decide +kernel
theorem dX10_mend_26 : decode mX10_mend.2.1 26 = .ok (.iaload, 1) := by decide +kernel
theorem dX10_mend_27 : decode mX10_mend.2.1 27 = .ok (.if_icmp .ne 17, 3) := by decide +kernel
theorem dX10_mend_30 : decode mX10_mend.2.1 30 = .ok (.aload_n 0, 1) := by decide +kernel
theorem dX10_mend_31 : decode mX10_mend.2.1 31 = .ok (.iconst 3, 1) := by decide +kernel
theorem dX10_mend_32 : decode mX10_mend.2.1 32 = .ok (.invokevirtual 222, 3) := by decide +kernel
theorem dX10_mend_35 : decode mX10_mend.2.1 35 = .ok (.ifCond .lt 7, 3) := by decide +kernel
theorem dX10_mend_38 : decode mX10_mend.2.1 38 = .ok (.iconst 1, 1) := by decide +kernel
theorem dX10_mend_39 : decode mX10_mend.2.1 39 = .ok (.goto 4, 3) := by decide +kernel
theorem dX10_mend_42 : decode mX10_mend.2.1 42 = .ok (.iconst 0, 1) := by decide +kernel
theorem dX10_mend_43 : decode mX10_mend.2.1 43 = .ok (.ireturn, 1) := by decide +kernel
theorem dX10_mend_44 : decode mX10_mend.2.1 44 = .ok (.aload_n 0, 1) := by decide +kernel
theorem dX10_mend_45 : decode mX10_mend.2.1 45 = .ok (.invokevirtual 519, 3) := by decide +kernel
theorem dX10_mend_48 : decode mX10_mend.2.1 48 = .ok (.aload_n 0, 1) := by decide +kernel
theorem dX10_mend_49 : decode mX10_mend.2.1 49 = .ok (.getfield 159, 3) := by decide +kernel
theorem dX10_mend_52 : decode mX10_mend.2.1 52 = .ok (.iload_n 1, 1) := by decide +kernel
theorem dX10_mend_53 : decode mX10_mend.2.1 53 = .ok (.aload_n 0, 1) := by decide +kernel
theorem dX10_mend_54 : decode mX10_mend.2.1 54 = .ok (.getfield 60, 3) := by decide +kernel
theorem dX10_mend_57 : decode mX10_mend.2.1 57 = .ok (.iconst 5, 1) := by decide +kernel
theorem dX10_mend_58 : decode mX10_mend.2.1 58 = .ok (.aload_n 0, 1) := by decide +kernel
theorem dX10_mend_59 : decode mX10_mend.2.1 59 = .ok (.getfield 51, 3) := by decide +kernel
theorem dX10_mend_62 : decode mX10_mend.2.1 62 = .ok (.imul, 1) := by decide +kernel
theorem dX10_mend_63 : decode mX10_mend.2.1 63 = .ok (.iload_n 1, 1) := by decide +kernel
theorem dX10_mend_64 : decode mX10_mend.2.1 64 = .ok (.iadd, 1) := by decide +kernel
theorem dX10_mend_65 : decode mX10_mend.2.1 65 = .ok (.iaload, 1) := by decide +kernel
theorem dX10_mend_66 : decode mX10_mend.2.1 66 = .ok (.iastore, 1) := by decide +kernel
theorem dX10_mend_67 : decode mX10_mend.2.1 67 = .ok (.iconst 1, 1) := by decide +kernel
theorem dX10_mend_68 : decode mX10_mend.2.1 68 = .ok (.ireturn, 1) := by decide +kernel
abbrev mX10_pour : aM := (yX10_pour, cX10_pour, 2, (some .boolean))
theorem dX10_pour_0 : decode mX10_pour.2.1 0 = .ok (.iload_n 1, 1) := by decide +kernel
theorem dX10_pour_1 : decode mX10_pour.2.1 1 = .ok (.iconst 0, 1) := by decide +kernel
theorem dX10_pour_2 : decode mX10_pour.2.1 2 = .ok (.bipush 99, 2) := by decide +kernel
theorem dX10_pour_4 : decode mX10_pour.2.1 4 = .ok (.invokestatic 312, 3) := by decide +kernel
theorem dX10_pour_7 : decode mX10_pour.2.1 7 = .ok (.ifCond .eq 13, 3) := by decide +kernel
theorem dX10_pour_10 : decode mX10_pour.2.1 10 = .ok (.aload_n 0, 1) := by decide +kernel
theorem dX10_pour_11 : decode mX10_pour.2.1 11 = .ok (.getfield 156, 3) := by decide +kernel
theorem dX10_pour_14 : decode mX10_pour.2.1 14 = .ok (.iconst 0, 1) := by decide +kernel
theorem dX10_pour_15 : decode mX10_pour.2.1 15 = .ok (.iaload, 1) := by decide +kernel
theorem dX10_pour_16 : decode mX10_pour.2.1 16 = .ok (.iload_n 1, 1) := by decide +kernel
theorem dX10_pour_17 : decode mX10_pour.2.1 17 = .ok (.if_icmp .ne 17, 3) := by decide +kernel
theorem dX10_pour_20 : decode mX10_pour.2.1 20 = .ok (.aload_n 0, 1) := by decide +kernel
theorem dX10_pour_21 : decode mX10_pour.2.1 21 = .ok (.iconst 3, 1) := by decide +kernel
theorem dX10_pour_22 : decode mX10_pour.2.1 22 = .ok (.invokevirtual 222, 3) := by decide +kernel
theorem dX10_pour_25 : decode mX10_pour.2.1 25 = .ok (.ifCond .lt 7, 3) := by decide +kernel
theorem dX10_pour_28 : decode mX10_pour.2.1 28 = .ok (.iconst 1, 1) := by decide +kernel
theorem dX10_pour_29 : decode mX10_pour.2.1 29 = .ok (.goto 4, 3) := by decide +kernel
theorem dX10_pour_32 : decode mX10_pour.2.1 32 = .ok (.iconst 0, 1) := by decide +kernel
theorem dX10_pour_33 : decode mX10_pour.2.1 33 = .ok (.ireturn, 1) := by decide +kernel
theorem dX10_pour_34 : decode mX10_pour.2.1 34 = .ok (.aload_n 0, 1) := by decide +kernel
theorem dX10_pour_35 : decode mX10_pour.2.1 35 = .ok (.invokevirtual 519, 3) := by decide +kernel
theorem dX10_pour_38 : decode mX10_pour.2.1 38 = .ok (.aload_n 0, 1) := by decide +kernel
theorem dX10_pour_39 : decode mX10_pour.2.1 39 = .ok (.getfield 156, 3) := by decide +kernel
theorem dX10_pour_42 : decode mX10_pour.2.1 42 = .ok (.iconst 0, 1) := by decide +kernel
theorem dX10_pour_43 : decode mX10_pour.2.1 43 = .ok (.iload_n 1, 1) := by decide +kernel
theorem dX10_pour_44 : decode mX10_pour.2.1 44 = .ok (.iastore, 1) := by decide +kernel
theorem dX10_pour_45 : decode mX10_pour.2.1 45 = .ok (.iconst 1, 1) := by decide +kernel
theorem dX10_pour_46 : decode mX10_pour.2.1 46 = .ok (.ireturn, 1) := by decide +kernel
abbrev mX10_seed : aM := (yX10_seed, cX10_seed, 2, (some .boolean))
theorem dX10_seed_0 : decode mX10_seed.2.1 0 = .ok (.iload_n 1, 1) := by decide +kernel
theorem dX10_seed_1 : decode mX10_seed.2.1 1 = .ok (.ifCond .ge 17, 3) := by decide +kernel
theorem dX10_seed_4 : decode mX10_seed.2.1 4 = .ok (.aload_n 0, 1) := by decide +kernel
theorem dX10_seed_5 : decode mX10_seed.2.1 5 = .ok (.iconst 5, 1) := by decide +kernel
theorem dX10_seed_6 : decode mX10_seed.2.1 6 = .ok (.invokevirtual 222, 3) := by decide +kernel
theorem dX10_seed_9 : decode mX10_seed.2.1 9 = .ok (.ifCond .lt 7, 3) := by decide +kernel
theorem dX10_seed_12 : decode mX10_seed.2.1 12 = .ok (.iconst 1, 1) := by decide +kernel
theorem dX10_seed_13 : decode mX10_seed.2.1 13 = .ok (.goto 4, 3) := by decide +kernel
theorem dX10_seed_16 : decode mX10_seed.2.1 16 = .ok (.iconst 0, 1) := by decide +kernel
theorem dX10_seed_17 : decode mX10_seed.2.1 17 = .ok (.ireturn, 1) := by decide +kernel
theorem dX10_seed_18 : decode mX10_seed.2.1 18 = .ok (.aload_n 0, 1) := by decide +kernel
theorem dX10_seed_19 : decode mX10_seed.2.1 19 = .ok (.iload_n 1, 1) := by decide +kernel
theorem dX10_seed_20 : decode mX10_seed.2.1 20 = .ok (.i2l, 1) := by decide +kernel
theorem dX10_seed_21 : decode mX10_seed.2.1 21 = .ok (.putfield 180, 3) := by decide +kernel
theorem dX10_seed_24 : decode mX10_seed.2.1 24 = .ok (.iconst 1, 1) := by decide +kernel
theorem dX10_seed_25 : decode mX10_seed.2.1 25 = .ok (.ireturn, 1) := by decide +kernel
abbrev mX10_kept : aM := (yX10_kept, cX10_kept, 3, (some .int))
theorem dX10_kept_0 : decode mX10_kept.2.1 0 = .ok (.iload_n 1, 1) := by decide +kernel
theorem dX10_kept_1 : decode mX10_kept.2.1 1 = .ok (.iconst 0, 1) := by decide +kernel
theorem dX10_kept_2 : decode mX10_kept.2.1 2 = .ok (.aload_n 0, 1) := by decide +kernel
theorem dX10_kept_3 : decode mX10_kept.2.1 3 = .ok (.getfield 168, 3) := by decide +kernel
theorem dX10_kept_6 : decode mX10_kept.2.1 6 = .ok (.iconst 0, 1) := by decide +kernel
theorem dX10_kept_7 : decode mX10_kept.2.1 7 = .ok (.iaload, 1) := by decide +kernel
theorem dX10_kept_8 : decode mX10_kept.2.1 8 = .ok (.iconst 1, 1) := by decide +kernel
theorem dX10_kept_9 : decode mX10_kept.2.1 9 = .ok (.isub, 1) := by decide +kernel
theorem dX10_kept_10 : decode mX10_kept.2.1 10 = .ok (.invokestatic 312, 3) := by decide +kernel
theorem dX10_kept_13 : decode mX10_kept.2.1 13 = .ok (.ifCond .eq 25, 3) := by decide +kernel
theorem dX10_kept_16 : decode mX10_kept.2.1 16 = .ok (.iload_n 2, 1) := by decide +kernel
theorem dX10_kept_17 : decode mX10_kept.2.1 17 = .ok (.iconst 0, 1) := by decide +kernel
theorem dX10_kept_18 : decode mX10_kept.2.1 18 = .ok (.iconst 3, 1) := by decide +kernel
theorem dX10_kept_19 : decode mX10_kept.2.1 19 = .ok (.invokestatic 312, 3) := by decide +kernel
theorem dX10_kept_22 : decode mX10_kept.2.1 22 = .ok (.ifCond .eq 16, 3) := by decide +kernel
theorem dX10_kept_25 : decode mX10_kept.2.1 25 = .ok (.aload_n 0, 1) := by decide +kernel
theorem dX10_kept_26 : decode mX10_kept.2.1 26 = .ok (.getfield 171, 3) := by decide +kernel
theorem dX10_kept_29 : decode mX10_kept.2.1 29 = .ok (.iconst 4, 1) := by decide +kernel
theorem dX10_kept_30 : decode mX10_kept.2.1 30 = .ok (.iload_n 1, 1) := by decide +kernel
theorem dX10_kept_31 : decode mX10_kept.2.1 31 = .ok (.imul, 1) := by decide +kernel
theorem dX10_kept_32 : decode mX10_kept.2.1 32 = .ok (.iload_n 2, 1) := by decide +kernel
theorem dX10_kept_33 : decode mX10_kept.2.1 33 = .ok (.iadd, 1) := by decide +kernel
theorem dX10_kept_34 : decode mX10_kept.2.1 34 = .ok (.iaload, 1) := by decide +kernel
theorem dX10_kept_35 : decode mX10_kept.2.1 35 = .ok (.goto 4, 3) := by decide +kernel
theorem dX10_kept_38 : decode mX10_kept.2.1 38 = .ok (.iconst (-1), 1) := by decide +kernel
theorem dX10_kept_39 : decode mX10_kept.2.1 39 = .ok (.ireturn, 1) := by decide +kernel
abbrev mX10_writes : aM := (yX10_writes, cX10_writes, 2, none)
theorem dX10_writes_0 : decode mX10_writes.2.1 0 = .ok (.aload_n 0, 1) := by decide +kernel
theorem dX10_writes_1 : decode mX10_writes.2.1 1 = .ok (.getfield 216, 3) := by decide +kernel
theorem dX10_writes_4 : decode mX10_writes.2.1 4 = .ok (.aload_n 0, 1) := by decide +kernel
theorem dX10_writes_5 : decode mX10_writes.2.1 5 = .ok (.getfield 219, 3) := by decide +kernel
theorem dX10_writes_8 : decode mX10_writes.2.1 8 = .ok (.iload_n 1, 1) := by decide +kernel
theorem dX10_writes_9 : decode mX10_writes.2.1 9 = .ok (.sipush 255, 3) := by decide +kernel
theorem dX10_writes_12 : decode mX10_writes.2.1 12 = .ok (.iand, 1) := by decide +kernel
theorem dX10_writes_13 : decode mX10_writes.2.1 13 = .ok (.iastore, 1) := by decide +kernel
theorem dX10_writes_14 : decode mX10_writes.2.1 14 = .ok (.aload_n 0, 1) := by decide +kernel
theorem dX10_writes_15 : decode mX10_writes.2.1 15 = .ok (.dup, 1) := by decide +kernel
theorem dX10_writes_16 : decode mX10_writes.2.1 16 = .ok (.getfield 219, 3) := by decide +kernel
theorem dX10_writes_19 : decode mX10_writes.2.1 19 = .ok (.iconst 1, 1) := by decide +kernel
theorem dX10_writes_20 : decode mX10_writes.2.1 20 = .ok (.iadd, 1) := by decide +kernel
theorem dX10_writes_21 : decode mX10_writes.2.1 21 = .ok (.putfield 219, 3) := by decide +kernel
theorem dX10_writes_24 : decode mX10_writes.2.1 24 = .ok (.return_, 1) := by decide +kernel
abbrev mX10_image : aM := (yX10_image, cX10_image, 3, (some .int))
theorem dX10_image_0 : decode mX10_image.2.1 0 = .ok (.aload_n 0, 1) := by decide +kernel
theorem dX10_image_1 : decode mX10_image.2.1 1 = .ok (.iconst 0, 1) := by decide +kernel
theorem dX10_image_2 : decode mX10_image.2.1 2 = .ok (.putfield 219, 3) := by decide +kernel
theorem dX10_image_5 : decode mX10_image.2.1 5 = .ok (.aload_n 0, 1) := by decide +kernel
theorem dX10_image_6 : decode mX10_image.2.1 6 = .ok (.aload_n 0, 1) := by decide +kernel
theorem dX10_image_7 : decode mX10_image.2.1 7 = .ok (.getfield 153, 3) := by decide +kernel
theorem dX10_image_10 : decode mX10_image.2.1 10 = .ok (.iconst 0, 1) := by decide +kernel
theorem dX10_image_11 : decode mX10_image.2.1 11 = .ok (.iaload, 1) := by decide +kernel
theorem dX10_image_12 : decode mX10_image.2.1 12 = .ok (.bipush 8, 2) := by decide +kernel
theorem dX10_image_14 : decode mX10_image.2.1 14 = .ok (.ishr, 1) := by decide +kernel
theorem dX10_image_15 : decode mX10_image.2.1 15 = .ok (.invokevirtual 533, 3) := by decide +kernel
theorem dX10_image_18 : decode mX10_image.2.1 18 = .ok (.aload_n 0, 1) := by decide +kernel
theorem dX10_image_19 : decode mX10_image.2.1 19 = .ok (.aload_n 0, 1) := by decide +kernel
theorem dX10_image_20 : decode mX10_image.2.1 20 = .ok (.getfield 153, 3) := by decide +kernel
theorem dX10_image_23 : decode mX10_image.2.1 23 = .ok (.iconst 0, 1) := by decide +kernel
theorem dX10_image_24 : decode mX10_image.2.1 24 = .ok (.iaload, 1) := by decide +kernel
theorem dX10_image_25 : decode mX10_image.2.1 25 = .ok (.invokevirtual 533, 3) := by decide +kernel
theorem dX10_image_28 : decode mX10_image.2.1 28 = .ok (.aload_n 0, 1) := by decide +kernel
theorem dX10_image_29 : decode mX10_image.2.1 29 = .ok (.aload_n 0, 1) := by decide +kernel
theorem dX10_image_30 : decode mX10_image.2.1 30 = .ok (.getfield 156, 3) := by decide +kernel
theorem dX10_image_33 : decode mX10_image.2.1 33 = .ok (.iconst 0, 1) := by decide +kernel
theorem dX10_image_34 : decode mX10_image.2.1 34 = .ok (.iaload, 1) := by decide +kernel
theorem dX10_image_35 : decode mX10_image.2.1 35 = .ok (.invokevirtual 533, 3) := by decide +kernel
theorem dX10_image_38 : decode mX10_image.2.1 38 = .ok (.iconst 0, 1) := by decide +kernel
theorem dX10_image_39 : decode mX10_image.2.1 39 = .ok (.istore_n 1, 1) := by decide +kernel
theorem dX10_image_40 : decode mX10_image.2.1 40 = .ok (.iload_n 1, 1) := by decide +kernel
theorem dX10_image_41 : decode mX10_image.2.1 41 = .ok (.aload_n 0, 1) := by decide +kernel
theorem dX10_image_42 : decode mX10_image.2.1 42 = .ok (.getfield 54, 3) := by decide +kernel
theorem dX10_image_45 : decode mX10_image.2.1 45 = .ok (.aload_n 0, 1) := by decide +kernel
theorem dX10_image_46 : decode mX10_image.2.1 46 = .ok (.getfield 51, 3) := by decide +kernel
theorem dX10_image_49 : decode mX10_image.2.1 49 = .ok (.iaload, 1) := by decide +kernel
theorem dX10_image_50 : decode mX10_image.2.1 50 = .ok (.if_icmp .ge 19, 3) := by decide +kernel
theorem dX10_image_53 : decode mX10_image.2.1 53 = .ok (.aload_n 0, 1) := by decide +kernel
theorem dX10_image_54 : decode mX10_image.2.1 54 = .ok (.aload_n 0, 1) := by decide +kernel
theorem dX10_image_55 : decode mX10_image.2.1 55 = .ok (.getfield 159, 3) := by decide +kernel
theorem dX10_image_58 : decode mX10_image.2.1 58 = .ok (.iload_n 1, 1) := by decide +kernel
theorem dX10_image_59 : decode mX10_image.2.1 59 = .ok (.iaload, 1) := by decide +kernel
theorem dX10_image_60 : decode mX10_image.2.1 60 = .ok (.invokevirtual 533, 3) := by decide +kernel
theorem dX10_image_63 : decode mX10_image.2.1 63 = .ok (.iinc 1 1, 3) := by decide +kernel
theorem dX10_image_66 : decode mX10_image.2.1 66 = .ok (.goto (-26), 3) := by decide +kernel
theorem dX10_image_69 : decode mX10_image.2.1 69 = .ok (.iconst 0, 1) := by decide +kernel
theorem dX10_image_70 : decode mX10_image.2.1 70 = .ok (.istore_n 1, 1) := by decide +kernel
theorem dX10_image_71 : decode mX10_image.2.1 71 = .ok (.iload_n 1, 1) := by decide +kernel
theorem dX10_image_72 : decode mX10_image.2.1 72 = .ok (.aload_n 0, 1) := by decide +kernel
theorem dX10_image_73 : decode mX10_image.2.1 73 = .ok (.getfield 63, 3) := by decide +kernel
theorem dX10_image_76 : decode mX10_image.2.1 76 = .ok (.aload_n 0, 1) := by decide +kernel
theorem dX10_image_77 : decode mX10_image.2.1 77 = .ok (.getfield 51, 3) := by decide +kernel
theorem dX10_image_80 : decode mX10_image.2.1 80 = .ok (.iaload, 1) := by decide +kernel
theorem dX10_image_81 : decode mX10_image.2.1 81 = .ok (.if_icmp .ge 19, 3) := by decide +kernel
theorem dX10_image_84 : decode mX10_image.2.1 84 = .ok (.aload_n 0, 1) := by decide +kernel
theorem dX10_image_85 : decode mX10_image.2.1 85 = .ok (.aload_n 0, 1) := by decide +kernel
theorem dX10_image_86 : decode mX10_image.2.1 86 = .ok (.getfield 162, 3) := by decide +kernel
theorem dX10_image_89 : decode mX10_image.2.1 89 = .ok (.iload_n 1, 1) := by decide +kernel
theorem dX10_image_90 : decode mX10_image.2.1 90 = .ok (.iaload, 1) := by decide +kernel
theorem dX10_image_91 : decode mX10_image.2.1 91 = .ok (.invokevirtual 533, 3) := by decide +kernel
theorem dX10_image_94 : decode mX10_image.2.1 94 = .ok (.iinc 1 1, 3) := by decide +kernel
theorem dX10_image_97 : decode mX10_image.2.1 97 = .ok (.goto (-26), 3) := by decide +kernel
theorem dX10_image_100 : decode mX10_image.2.1 100 = .ok (.iconst 0, 1) := by decide +kernel
theorem dX10_image_101 : decode mX10_image.2.1 101 = .ok (.istore_n 1, 1) := by decide +kernel
theorem dX10_image_102 : decode mX10_image.2.1 102 = .ok (.iload_n 1, 1) := by decide +kernel
theorem dX10_image_103 : decode mX10_image.2.1 103 = .ok (.aload_n 0, 1) := by decide +kernel
theorem dX10_image_104 : decode mX10_image.2.1 104 = .ok (.getfield 72, 3) := by decide +kernel
theorem dX10_image_107 : decode mX10_image.2.1 107 = .ok (.aload_n 0, 1) := by decide +kernel
theorem dX10_image_108 : decode mX10_image.2.1 108 = .ok (.getfield 51, 3) := by decide +kernel
theorem dX10_image_111 : decode mX10_image.2.1 111 = .ok (.iaload, 1) := by decide +kernel
theorem dX10_image_112 : decode mX10_image.2.1 112 = .ok (.if_icmp .ge 31, 3) := by decide +kernel
theorem dX10_image_115 : decode mX10_image.2.1 115 = .ok (.aload_n 0, 1) := by decide +kernel
theorem dX10_image_116 : decode mX10_image.2.1 116 = .ok (.aload_n 0, 1) := by decide +kernel
theorem dX10_image_117 : decode mX10_image.2.1 117 = .ok (.getfield 165, 3) := by decide +kernel
theorem dX10_image_120 : decode mX10_image.2.1 120 = .ok (.iconst 0, 1) := by decide +kernel
theorem dX10_image_121 : decode mX10_image.2.1 121 = .ok (.iaload, 1) := by decide +kernel
theorem dX10_image_122 : decode mX10_image.2.1 122 = .ok (.iload_n 1, 1) := by decide +kernel
theorem dX10_image_123 : decode mX10_image.2.1 123 = .ok (.invokestatic 445, 3) := by decide +kernel
theorem dX10_image_126 : decode mX10_image.2.1 126 = .ok (.ifCond .eq 7, 3) := by decide +kernel
theorem dX10_image_129 : decode mX10_image.2.1 129 = .ok (.iconst 1, 1) := by decide +kernel
theorem dX10_image_130 : decode mX10_image.2.1 130 = .ok (.goto 4, 3) := by decide +kernel
theorem dX10_image_133 : decode mX10_image.2.1 133 = .ok (.iconst 0, 1) := by decide +kernel
theorem dX10_image_134 : decode mX10_image.2.1 134 = .ok (.invokevirtual 533, 3) := by decide +kernel
theorem dX10_image_137 : decode mX10_image.2.1 137 = .ok (.iinc 1 1, 3) := by decide +kernel
theorem dX10_image_140 : decode mX10_image.2.1 140 = .ok (.goto (-38), 3) := by decide +kernel
theorem dX10_image_143 : decode mX10_image.2.1 143 = .ok (.sipush 211, 3) := by decide +kernel
theorem dX10_image_146 : decode mX10_image.2.1 146 = .ok (.istore_n 1, 1) := by decide +kernel
theorem dX10_image_147 : decode mX10_image.2.1 147 = .ok (.iconst 0, 1) := by decide +kernel
theorem dX10_image_148 : decode mX10_image.2.1 148 = .ok (.istore_n 2, 1) := by decide +kernel
theorem dX10_image_149 : decode mX10_image.2.1 149 = .ok (.iload_n 2, 1) := by decide +kernel
theorem dX10_image_150 : decode mX10_image.2.1 150 = .ok (.aload_n 0, 1) := by decide +kernel
theorem dX10_image_151 : decode mX10_image.2.1 151 = .ok (.getfield 219, 3) := by decide +kernel
theorem dX10_image_154 : decode mX10_image.2.1 154 = .ok (.if_icmp .ge 24, 3) := by decide +kernel
theorem dX10_image_157 : decode mX10_image.2.1 157 = .ok (.iconst 5, 1) := by decide +kernel
theorem dX10_image_158 : decode mX10_image.2.1 158 = .ok (.iload_n 1, 1) := by decide +kernel
theorem dX10_image_159 : decode mX10_image.2.1 159 = .ok (.imul, 1) := by decide +kernel
theorem dX10_image_160 : decode mX10_image.2.1 160 = .ok (.aload_n 0, 1) := by decide +kernel
theorem dX10_image_161 : decode mX10_image.2.1 161 = .ok (.getfield 216, 3) := by decide +kernel
theorem dX10_image_164 : decode mX10_image.2.1 164 = .ok (.iload_n 2, 1) := by decide +kernel
theorem dX10_image_165 : decode mX10_image.2.1 165 = .ok (.iaload, 1) := by decide +kernel
theorem dX10_image_166 : decode mX10_image.2.1 166 = .ok (.iadd, 1) := by decide +kernel
theorem dX10_image_167 : decode mX10_image.2.1 167 = .ok (.sipush 251, 3) := by decide +kernel
theorem dX10_image_170 : decode mX10_image.2.1 170 = .ok (.irem, 1) := by decide +kernel
theorem dX10_image_171 : decode mX10_image.2.1 171 = .ok (.istore_n 1, 1) := by decide +kernel
theorem dX10_image_172 : decode mX10_image.2.1 172 = .ok (.iinc 2 1, 3) := by decide +kernel
theorem dX10_image_175 : decode mX10_image.2.1 175 = .ok (.goto (-26), 3) := by decide +kernel
theorem dX10_image_178 : decode mX10_image.2.1 178 = .ok (.aload_n 0, 1) := by decide +kernel
theorem dX10_image_179 : decode mX10_image.2.1 179 = .ok (.iload_n 1, 1) := by decide +kernel
theorem dX10_image_180 : decode mX10_image.2.1 180 = .ok (.invokevirtual 533, 3) := by decide +kernel
theorem dX10_image_183 : decode mX10_image.2.1 183 = .ok (.aload_n 0, 1) := by decide +kernel
theorem dX10_image_184 : decode mX10_image.2.1 184 = .ok (.getfield 219, 3) := by decide +kernel
theorem dX10_image_187 : decode mX10_image.2.1 187 = .ok (.ireturn, 1) := by decide +kernel
abbrev mX10_octet : aM := (yX10_octet, cX10_octet, 2, (some .int))
theorem dX10_octet_0 : decode mX10_octet.2.1 0 = .ok (.iload_n 1, 1) := by decide +kernel
theorem dX10_octet_1 : decode mX10_octet.2.1 1 = .ok (.iconst 0, 1) := by decide +kernel
theorem dX10_octet_2 : decode mX10_octet.2.1 2 = .ok (.aload_n 0, 1) := by decide +kernel
theorem dX10_octet_3 : decode mX10_octet.2.1 3 = .ok (.getfield 219, 3) := by decide +kernel
theorem dX10_octet_6 : decode mX10_octet.2.1 6 = .ok (.iconst 1, 1) := by decide +kernel
theorem dX10_octet_7 : decode mX10_octet.2.1 7 = .ok (.isub, 1) := by decide +kernel
theorem dX10_octet_8 : decode mX10_octet.2.1 8 = .ok (.invokestatic 312, 3) := by decide +kernel
theorem dX10_octet_11 : decode mX10_octet.2.1 11 = .ok (.ifCond .eq 12, 3) := by decide +kernel
theorem dX10_octet_14 : decode mX10_octet.2.1 14 = .ok (.aload_n 0, 1) := by decide +kernel
theorem dX10_octet_15 : decode mX10_octet.2.1 15 = .ok (.getfield 216, 3) := by decide +kernel
theorem dX10_octet_18 : decode mX10_octet.2.1 18 = .ok (.iload_n 1, 1) := by decide +kernel
theorem dX10_octet_19 : decode mX10_octet.2.1 19 = .ok (.iaload, 1) := by decide +kernel
theorem dX10_octet_20 : decode mX10_octet.2.1 20 = .ok (.goto 4, 3) := by decide +kernel
theorem dX10_octet_23 : decode mX10_octet.2.1 23 = .ok (.iconst (-1), 1) := by decide +kernel
theorem dX10_octet_24 : decode mX10_octet.2.1 24 = .ok (.ireturn, 1) := by decide +kernel
abbrev mX10_comesOn : aM := (yX10_comesOn, cX10_comesOn, 6, (some .boolean))
theorem dX10_comesOn_0 : decode mX10_comesOn.2.1 0 = .ok (.iconst 3, 1) := by decide +kernel
theorem dX10_comesOn_1 : decode mX10_comesOn.2.1 1 = .ok (.aload_n 0, 1) := by decide +kernel
theorem dX10_comesOn_2 : decode mX10_comesOn.2.1 2 = .ok (.getfield 54, 3) := by decide +kernel
theorem dX10_comesOn_5 : decode mX10_comesOn.2.1 5 = .ok (.aload_n 0, 1) := by decide +kernel
theorem dX10_comesOn_6 : decode mX10_comesOn.2.1 6 = .ok (.getfield 51, 3) := by decide +kernel
theorem dX10_comesOn_9 : decode mX10_comesOn.2.1 9 = .ok (.iaload, 1) := by decide +kernel
theorem dX10_comesOn_10 : decode mX10_comesOn.2.1 10 = .ok (.iadd, 1) := by decide +kernel
theorem dX10_comesOn_11 : decode mX10_comesOn.2.1 11 = .ok (.istore_n 2, 1) := by decide +kernel
theorem dX10_comesOn_12 : decode mX10_comesOn.2.1 12 = .ok (.iload_n 2, 1) := by decide +kernel
theorem dX10_comesOn_13 : decode mX10_comesOn.2.1 13 = .ok (.aload_n 0, 1) := by decide +kernel
theorem dX10_comesOn_14 : decode mX10_comesOn.2.1 14 = .ok (.getfield 63, 3) := by decide +kernel
theorem dX10_comesOn_17 : decode mX10_comesOn.2.1 17 = .ok (.aload_n 0, 1) := by decide +kernel
theorem dX10_comesOn_18 : decode mX10_comesOn.2.1 18 = .ok (.getfield 51, 3) := by decide +kernel
theorem dX10_comesOn_21 : decode mX10_comesOn.2.1 21 = .ok (.iaload, 1) := by decide +kernel
theorem dX10_comesOn_22 : decode mX10_comesOn.2.1 22 = .ok (.iadd, 1) := by decide +kernel
theorem dX10_comesOn_23 : decode mX10_comesOn.2.1 23 = .ok (.istore_n 3, 1) := by decide +kernel
theorem dX10_comesOn_24 : decode mX10_comesOn.2.1 24 = .ok (.iload_n 1, 1) := by decide +kernel
theorem dX10_comesOn_25 : decode mX10_comesOn.2.1 25 = .ok (.iload_n 3, 1) := by decide +kernel
theorem dX10_comesOn_26 : decode mX10_comesOn.2.1 26 = .ok (.aload_n 0, 1) := by decide +kernel
theorem dX10_comesOn_27 : decode mX10_comesOn.2.1 27 = .ok (.getfield 72, 3) := by decide +kernel
theorem dX10_comesOn_30 : decode mX10_comesOn.2.1 30 = .ok (.aload_n 0, 1) := by decide +kernel
theorem dX10_comesOn_31 : decode mX10_comesOn.2.1 31 = .ok (.getfield 51, 3) := by decide +kernel
theorem dX10_comesOn_34 : decode mX10_comesOn.2.1 34 = .ok (.iaload, 1) := by decide +kernel
theorem dX10_comesOn_35 : decode mX10_comesOn.2.1 35 = .ok (.iadd, 1) := by decide +kernel
theorem dX10_comesOn_36 : decode mX10_comesOn.2.1 36 = .ok (.iconst 1, 1) := by decide +kernel
theorem dX10_comesOn_37 : decode mX10_comesOn.2.1 37 = .ok (.iadd, 1) := by decide +kernel
theorem dX10_comesOn_38 : decode mX10_comesOn.2.1 38 = .ok (.if_icmp .ne 36, 3) := by decide +kernel
theorem dX10_comesOn_41 : decode mX10_comesOn.2.1 41 = .ok (.aload_n 0, 1) := by decide +kernel
theorem dX10_comesOn_42 : decode mX10_comesOn.2.1 42 = .ok (.getfield 7, 3) := by decide +kernel
theorem dX10_comesOn_45 : decode mX10_comesOn.2.1 45 = .ok (.iconst 0, 1) := by decide +kernel
theorem dX10_comesOn_46 : decode mX10_comesOn.2.1 46 = .ok (.iaload, 1) := by decide +kernel
theorem dX10_comesOn_47 : decode mX10_comesOn.2.1 47 = .ok (.bipush 8, 2) := by decide +kernel
theorem dX10_comesOn_49 : decode mX10_comesOn.2.1 49 = .ok (.ishl, 1) := by decide +kernel
theorem dX10_comesOn_50 : decode mX10_comesOn.2.1 50 = .ok (.aload_n 0, 1) := by decide +kernel
theorem dX10_comesOn_51 : decode mX10_comesOn.2.1 51 = .ok (.getfield 7, 3) := by decide +kernel
theorem dX10_comesOn_54 : decode mX10_comesOn.2.1 54 = .ok (.iconst 1, 1) := by decide +kernel
theorem dX10_comesOn_55 : decode mX10_comesOn.2.1 55 = .ok (.iaload, 1) := by decide +kernel
theorem dX10_comesOn_56 : decode mX10_comesOn.2.1 56 = .ok (.ior, 1) := by decide +kernel
theorem dX10_comesOn_57 : decode mX10_comesOn.2.1 57 = .ok (.sipush 999, 3) := by decide +kernel
theorem dX10_comesOn_60 : decode mX10_comesOn.2.1 60 = .ok (.if_icmp .gt 14, 3) := by decide +kernel
theorem dX10_comesOn_63 : decode mX10_comesOn.2.1 63 = .ok (.aload_n 0, 1) := by decide +kernel
theorem dX10_comesOn_64 : decode mX10_comesOn.2.1 64 = .ok (.getfield 7, 3) := by decide +kernel
theorem dX10_comesOn_67 : decode mX10_comesOn.2.1 67 = .ok (.iconst 2, 1) := by decide +kernel
theorem dX10_comesOn_68 : decode mX10_comesOn.2.1 68 = .ok (.iaload, 1) := by decide +kernel
theorem dX10_comesOn_69 : decode mX10_comesOn.2.1 69 = .ok (.bipush 99, 2) := by decide +kernel
theorem dX10_comesOn_71 : decode mX10_comesOn.2.1 71 = .ok (.if_icmp .le 5, 3) := by decide +kernel
theorem dX10_comesOn_74 : decode mX10_comesOn.2.1 74 = .ok (.iconst 0, 1) := by decide +kernel
theorem dX10_comesOn_75 : decode mX10_comesOn.2.1 75 = .ok (.ireturn, 1) := by decide +kernel
theorem dX10_comesOn_76 : decode mX10_comesOn.2.1 76 = .ok (.sipush 211, 3) := by decide +kernel
theorem dX10_comesOn_79 : decode mX10_comesOn.2.1 79 = .ok (.istore 4, 2) := by decide +kernel
theorem dX10_comesOn_81 : decode mX10_comesOn.2.1 81 = .ok (.iconst 0, 1) := by decide +kernel
theorem dX10_comesOn_82 : decode mX10_comesOn.2.1 82 = .ok (.istore 5, 2) := by decide +kernel
theorem dX10_comesOn_84 : decode mX10_comesOn.2.1 84 = .ok (.iload 5, 2) := by decide +kernel
theorem dX10_comesOn_86 : decode mX10_comesOn.2.1 86 = .ok (.iload_n 1, 1) := by decide +kernel
theorem dX10_comesOn_87 : decode mX10_comesOn.2.1 87 = .ok (.iconst 1, 1) := by decide +kernel
theorem dX10_comesOn_88 : decode mX10_comesOn.2.1 88 = .ok (.isub, 1) := by decide +kernel
theorem dX10_comesOn_89 : decode mX10_comesOn.2.1 89 = .ok (.if_icmp .ge 27, 3) := by decide +kernel
theorem dX10_comesOn_92 : decode mX10_comesOn.2.1 92 = .ok (.iconst 5, 1) := by decide +kernel
theorem dX10_comesOn_93 : decode mX10_comesOn.2.1 93 = .ok (.iload 4, 2) := by decide +kernel
theorem dX10_comesOn_95 : decode mX10_comesOn.2.1 95 = .ok (.imul, 1) := by decide +kernel
theorem dX10_comesOn_96 : decode mX10_comesOn.2.1 96 = .ok (.aload_n 0, 1) := by decide +kernel
theorem dX10_comesOn_97 : decode mX10_comesOn.2.1 97 = .ok (.getfield 7, 3) := by decide +kernel
theorem dX10_comesOn_100 : decode mX10_comesOn.2.1 100 = .ok (.iload 5, 2) := by decide +kernel
theorem dX10_comesOn_102 : decode mX10_comesOn.2.1 102 = .ok (.iaload, 1) := by decide +kernel
theorem dX10_comesOn_103 : decode mX10_comesOn.2.1 103 = .ok (.iadd, 1) := by decide +kernel
theorem dX10_comesOn_104 : decode mX10_comesOn.2.1 104 = .ok (.sipush 251, 3) := by decide +kernel
theorem dX10_comesOn_107 : decode mX10_comesOn.2.1 107 = .ok (.irem, 1) := by decide +kernel
theorem dX10_comesOn_108 : decode mX10_comesOn.2.1 108 = .ok (.istore 4, 2) := by decide +kernel
theorem dX10_comesOn_110 : decode mX10_comesOn.2.1 110 = .ok (.iinc 5 1, 3) := by decide +kernel
theorem dX10_comesOn_113 : decode mX10_comesOn.2.1 113 = .ok (.goto (-29), 3) := by decide +kernel
theorem dX10_comesOn_116 : decode mX10_comesOn.2.1 116 = .ok (.aload_n 0, 1) := by decide +kernel
theorem dX10_comesOn_117 : decode mX10_comesOn.2.1 117 = .ok (.getfield 7, 3) := by decide +kernel
theorem dX10_comesOn_120 : decode mX10_comesOn.2.1 120 = .ok (.iload_n 1, 1) := by decide +kernel
theorem dX10_comesOn_121 : decode mX10_comesOn.2.1 121 = .ok (.iconst 1, 1) := by decide +kernel
theorem dX10_comesOn_122 : decode mX10_comesOn.2.1 122 = .ok (.isub, 1) := by decide +kernel
theorem dX10_comesOn_123 : decode mX10_comesOn.2.1 123 = .ok (.iaload, 1) := by decide +kernel
theorem dX10_comesOn_124 : decode mX10_comesOn.2.1 124 = .ok (.iload 4, 2) := by decide +kernel
theorem dX10_comesOn_126 : decode mX10_comesOn.2.1 126 = .ok (.if_icmp .eq 5, 3) := by decide +kernel
theorem dX10_comesOn_129 : decode mX10_comesOn.2.1 129 = .ok (.iconst 0, 1) := by decide +kernel
theorem dX10_comesOn_130 : decode mX10_comesOn.2.1 130 = .ok (.ireturn, 1) := by decide +kernel
theorem dX10_comesOn_131 : decode mX10_comesOn.2.1 131 = .ok (.aload_n 0, 1) := by decide +kernel
theorem dX10_comesOn_132 : decode mX10_comesOn.2.1 132 = .ok (.iconst 1, 1) := by decide +kernel
theorem dX10_comesOn_133 : decode mX10_comesOn.2.1 133 = .ok (.iconst 0, 1) := by decide +kernel
theorem dX10_comesOn_134 : decode mX10_comesOn.2.1 134 = .ok (.invokevirtual 405, 3) := by decide +kernel
theorem dX10_comesOn_137 : decode mX10_comesOn.2.1 137 = .ok (.aload_n 0, 1) := by decide +kernel
theorem dX10_comesOn_138 : decode mX10_comesOn.2.1 138 = .ok (.getfield 153, 3) := by decide +kernel
theorem dX10_comesOn_141 : decode mX10_comesOn.2.1 141 = .ok (.iconst 1, 1) := by decide +kernel
theorem dX10_comesOn_142 : decode mX10_comesOn.2.1 142 = .ok (.aload_n 0, 1) := by decide +kernel
theorem dX10_comesOn_143 : decode mX10_comesOn.2.1 143 = .ok (.getfield 7, 3) := by decide +kernel
theorem dX10_comesOn_146 : decode mX10_comesOn.2.1 146 = .ok (.iconst 0, 1) := by decide +kernel
theorem dX10_comesOn_147 : decode mX10_comesOn.2.1 147 = .ok (.iaload, 1) := by decide +kernel
theorem dX10_comesOn_148 : decode mX10_comesOn.2.1 148 = .ok (.bipush 8, 2) := by decide +kernel
theorem dX10_comesOn_150 : decode mX10_comesOn.2.1 150 = .ok (.ishl, 1) := by decide +kernel
theorem dX10_comesOn_151 : decode mX10_comesOn.2.1 151 = .ok (.aload_n 0, 1) := by decide +kernel
theorem dX10_comesOn_152 : decode mX10_comesOn.2.1 152 = .ok (.getfield 7, 3) := by decide +kernel
theorem dX10_comesOn_155 : decode mX10_comesOn.2.1 155 = .ok (.iconst 1, 1) := by decide +kernel
theorem dX10_comesOn_156 : decode mX10_comesOn.2.1 156 = .ok (.iaload, 1) := by decide +kernel
theorem dX10_comesOn_157 : decode mX10_comesOn.2.1 157 = .ok (.ior, 1) := by decide +kernel
theorem dX10_comesOn_158 : decode mX10_comesOn.2.1 158 = .ok (.iastore, 1) := by decide +kernel
theorem dX10_comesOn_159 : decode mX10_comesOn.2.1 159 = .ok (.aload_n 0, 1) := by decide +kernel
theorem dX10_comesOn_160 : decode mX10_comesOn.2.1 160 = .ok (.getfield 156, 3) := by decide +kernel
theorem dX10_comesOn_163 : decode mX10_comesOn.2.1 163 = .ok (.iconst 1, 1) := by decide +kernel
theorem dX10_comesOn_164 : decode mX10_comesOn.2.1 164 = .ok (.aload_n 0, 1) := by decide +kernel
theorem dX10_comesOn_165 : decode mX10_comesOn.2.1 165 = .ok (.getfield 7, 3) := by decide +kernel
theorem dX10_comesOn_168 : decode mX10_comesOn.2.1 168 = .ok (.iconst 2, 1) := by decide +kernel
theorem dX10_comesOn_169 : decode mX10_comesOn.2.1 169 = .ok (.iaload, 1) := by decide +kernel
theorem dX10_comesOn_170 : decode mX10_comesOn.2.1 170 = .ok (.iastore, 1) := by decide +kernel
theorem dX10_comesOn_171 : decode mX10_comesOn.2.1 171 = .ok (.aload_n 0, 1) := by decide +kernel
theorem dX10_comesOn_172 : decode mX10_comesOn.2.1 172 = .ok (.getfield 165, 3) := by decide +kernel
theorem dX10_comesOn_175 : decode mX10_comesOn.2.1 175 = .ok (.iconst 1, 1) := by decide +kernel
theorem dX10_comesOn_176 : decode mX10_comesOn.2.1 176 = .ok (.iconst 0, 1) := by decide +kernel
theorem dX10_comesOn_177 : decode mX10_comesOn.2.1 177 = .ok (.iastore, 1) := by decide +kernel
theorem dX10_comesOn_178 : decode mX10_comesOn.2.1 178 = .ok (.aload_n 0, 1) := by decide +kernel
theorem dX10_comesOn_179 : decode mX10_comesOn.2.1 179 = .ok (.getfield 168, 3) := by decide +kernel
theorem dX10_comesOn_182 : decode mX10_comesOn.2.1 182 = .ok (.iconst 1, 1) := by decide +kernel
theorem dX10_comesOn_183 : decode mX10_comesOn.2.1 183 = .ok (.iconst 0, 1) := by decide +kernel
theorem dX10_comesOn_184 : decode mX10_comesOn.2.1 184 = .ok (.iastore, 1) := by decide +kernel
theorem dX10_comesOn_185 : decode mX10_comesOn.2.1 185 = .ok (.iconst 0, 1) := by decide +kernel
theorem dX10_comesOn_186 : decode mX10_comesOn.2.1 186 = .ok (.istore 5, 2) := by decide +kernel
theorem dX10_comesOn_188 : decode mX10_comesOn.2.1 188 = .ok (.iload 5, 2) := by decide +kernel
theorem dX10_comesOn_190 : decode mX10_comesOn.2.1 190 = .ok (.aload_n 0, 1) := by decide +kernel
theorem dX10_comesOn_191 : decode mX10_comesOn.2.1 191 = .ok (.getfield 54, 3) := by decide +kernel
theorem dX10_comesOn_194 : decode mX10_comesOn.2.1 194 = .ok (.aload_n 0, 1) := by decide +kernel
theorem dX10_comesOn_195 : decode mX10_comesOn.2.1 195 = .ok (.getfield 51, 3) := by decide +kernel
theorem dX10_comesOn_198 : decode mX10_comesOn.2.1 198 = .ok (.iaload, 1) := by decide +kernel
theorem dX10_comesOn_199 : decode mX10_comesOn.2.1 199 = .ok (.if_icmp .ge 55, 3) := by decide +kernel
theorem dX10_comesOn_202 : decode mX10_comesOn.2.1 202 = .ok (.aload_n 0, 1) := by decide +kernel
theorem dX10_comesOn_203 : decode mX10_comesOn.2.1 203 = .ok (.getfield 7, 3) := by decide +kernel
theorem dX10_comesOn_206 : decode mX10_comesOn.2.1 206 = .ok (.iconst 3, 1) := by decide +kernel
theorem dX10_comesOn_207 : decode mX10_comesOn.2.1 207 = .ok (.iload 5, 2) := by decide +kernel
theorem dX10_comesOn_209 : decode mX10_comesOn.2.1 209 = .ok (.iadd, 1) := by decide +kernel
theorem dX10_comesOn_210 : decode mX10_comesOn.2.1 210 = .ok (.iaload, 1) := by decide +kernel
theorem dX10_comesOn_211 : decode mX10_comesOn.2.1 211 = .ok (.aload_n 0, 1) := by decide +kernel
theorem dX10_comesOn_212 : decode mX10_comesOn.2.1 212 = .ok (.getfield 60, 3) := by decide +kernel
theorem dX10_comesOn_215 : decode mX10_comesOn.2.1 215 = .ok (.iconst 5, 1) := by decide +kernel
theorem dX10_comesOn_216 : decode mX10_comesOn.2.1 216 = .ok (.aload_n 0, 1) := by decide +kernel
theorem dX10_comesOn_217 : decode mX10_comesOn.2.1 217 = .ok (.getfield 51, 3) := by decide +kernel
theorem dX10_comesOn_220 : decode mX10_comesOn.2.1 220 = .ok (.imul, 1) := by decide +kernel
theorem dX10_comesOn_221 : decode mX10_comesOn.2.1 221 = .ok (.iload 5, 2) := by decide +kernel
theorem dX10_comesOn_223 : decode mX10_comesOn.2.1 223 = .ok (.iadd, 1) := by decide +kernel
theorem dX10_comesOn_224 : decode mX10_comesOn.2.1 224 = .ok (.iaload, 1) := by decide +kernel
theorem dX10_comesOn_225 : decode mX10_comesOn.2.1 225 = .ok (.if_icmp .le 5, 3) := by decide +kernel
theorem dX10_comesOn_228 : decode mX10_comesOn.2.1 228 = .ok (.iconst 0, 1) := by decide +kernel
theorem dX10_comesOn_229 : decode mX10_comesOn.2.1 229 = .ok (.ireturn, 1) := by decide +kernel
theorem dX10_comesOn_230 : decode mX10_comesOn.2.1 230 = .ok (.aload_n 0, 1) := by decide +kernel
theorem dX10_comesOn_231 : decode mX10_comesOn.2.1 231 = .ok (.getfield 159, 3) := by decide +kernel
theorem dX10_comesOn_234 : decode mX10_comesOn.2.1 234 = .ok (.iconst 5, 1) := by decide +kernel
theorem dX10_comesOn_235 : decode mX10_comesOn.2.1 235 = .ok (.iload 5, 2) := by decide +kernel
theorem dX10_comesOn_237 : decode mX10_comesOn.2.1 237 = .ok (.iadd, 1) := by decide +kernel
theorem dX10_comesOn_238 : decode mX10_comesOn.2.1 238 = .ok (.aload_n 0, 1) := by decide +kernel
theorem dX10_comesOn_239 : decode mX10_comesOn.2.1 239 = .ok (.getfield 7, 3) := by decide +kernel
theorem dX10_comesOn_242 : decode mX10_comesOn.2.1 242 = .ok (.iconst 3, 1) := by decide +kernel
theorem dX10_comesOn_243 : decode mX10_comesOn.2.1 243 = .ok (.iload 5, 2) := by decide +kernel
theorem dX10_comesOn_245 : decode mX10_comesOn.2.1 245 = .ok (.iadd, 1) := by decide +kernel
theorem dX10_comesOn_246 : decode mX10_comesOn.2.1 246 = .ok (.iaload, 1) := by decide +kernel
theorem dX10_comesOn_247 : decode mX10_comesOn.2.1 247 = .ok (.iastore, 1) := by decide +kernel
theorem dX10_comesOn_248 : decode mX10_comesOn.2.1 248 = .ok (.iinc 5 1, 3) := by decide +kernel
theorem dX10_comesOn_251 : decode mX10_comesOn.2.1 251 = .ok (.goto (-63), 3) := by decide +kernel
theorem dX10_comesOn_254 : decode mX10_comesOn.2.1 254 = .ok (.iconst 0, 1) := by decide +kernel
theorem dX10_comesOn_255 : decode mX10_comesOn.2.1 255 = .ok (.istore 5, 2) := by decide +kernel
theorem dX10_comesOn_257 : decode mX10_comesOn.2.1 257 = .ok (.iload 5, 2) := by decide +kernel
theorem dX10_comesOn_259 : decode mX10_comesOn.2.1 259 = .ok (.aload_n 0, 1) := by decide +kernel
theorem dX10_comesOn_260 : decode mX10_comesOn.2.1 260 = .ok (.getfield 63, 3) := by decide +kernel
theorem dX10_comesOn_263 : decode mX10_comesOn.2.1 263 = .ok (.aload_n 0, 1) := by decide +kernel
theorem dX10_comesOn_264 : decode mX10_comesOn.2.1 264 = .ok (.getfield 51, 3) := by decide +kernel
theorem dX10_comesOn_267 : decode mX10_comesOn.2.1 267 = .ok (.iaload, 1) := by decide +kernel
theorem dX10_comesOn_268 : decode mX10_comesOn.2.1 268 = .ok (.if_icmp .ge 44, 3) := by decide +kernel
theorem dX10_comesOn_271 : decode mX10_comesOn.2.1 271 = .ok (.aload_n 0, 1) := by decide +kernel
theorem dX10_comesOn_272 : decode mX10_comesOn.2.1 272 = .ok (.getfield 7, 3) := by decide +kernel
theorem dX10_comesOn_275 : decode mX10_comesOn.2.1 275 = .ok (.iload_n 2, 1) := by decide +kernel
theorem dX10_comesOn_276 : decode mX10_comesOn.2.1 276 = .ok (.iload 5, 2) := by decide +kernel
theorem dX10_comesOn_278 : decode mX10_comesOn.2.1 278 = .ok (.iadd, 1) := by decide +kernel
theorem dX10_comesOn_279 : decode mX10_comesOn.2.1 279 = .ok (.iaload, 1) := by decide +kernel
theorem dX10_comesOn_280 : decode mX10_comesOn.2.1 280 = .ok (.bipush 99, 2) := by decide +kernel
theorem dX10_comesOn_282 : decode mX10_comesOn.2.1 282 = .ok (.if_icmp .le 5, 3) := by decide +kernel
theorem dX10_comesOn_285 : decode mX10_comesOn.2.1 285 = .ok (.iconst 0, 1) := by decide +kernel
theorem dX10_comesOn_286 : decode mX10_comesOn.2.1 286 = .ok (.ireturn, 1) := by decide +kernel
theorem dX10_comesOn_287 : decode mX10_comesOn.2.1 287 = .ok (.aload_n 0, 1) := by decide +kernel
theorem dX10_comesOn_288 : decode mX10_comesOn.2.1 288 = .ok (.getfield 162, 3) := by decide +kernel
theorem dX10_comesOn_291 : decode mX10_comesOn.2.1 291 = .ok (.bipush 6, 2) := by decide +kernel
theorem dX10_comesOn_293 : decode mX10_comesOn.2.1 293 = .ok (.iload 5, 2) := by decide +kernel
theorem dX10_comesOn_295 : decode mX10_comesOn.2.1 295 = .ok (.iadd, 1) := by decide +kernel
theorem dX10_comesOn_296 : decode mX10_comesOn.2.1 296 = .ok (.aload_n 0, 1) := by decide +kernel
theorem dX10_comesOn_297 : decode mX10_comesOn.2.1 297 = .ok (.getfield 7, 3) := by decide +kernel
theorem dX10_comesOn_300 : decode mX10_comesOn.2.1 300 = .ok (.iload_n 2, 1) := by decide +kernel
theorem dX10_comesOn_301 : decode mX10_comesOn.2.1 301 = .ok (.iload 5, 2) := by decide +kernel
theorem dX10_comesOn_303 : decode mX10_comesOn.2.1 303 = .ok (.iadd, 1) := by decide +kernel
theorem dX10_comesOn_304 : decode mX10_comesOn.2.1 304 = .ok (.iaload, 1) := by decide +kernel
theorem dX10_comesOn_305 : decode mX10_comesOn.2.1 305 = .ok (.iastore, 1) := by decide +kernel
theorem dX10_comesOn_306 : decode mX10_comesOn.2.1 306 = .ok (.iinc 5 1, 3) := by decide +kernel
theorem dX10_comesOn_309 : decode mX10_comesOn.2.1 309 = .ok (.goto (-52), 3) := by decide +kernel
theorem dX10_comesOn_312 : decode mX10_comesOn.2.1 312 = .ok (.iconst 0, 1) := by decide +kernel
theorem dX10_comesOn_313 : decode mX10_comesOn.2.1 313 = .ok (.istore 5, 2) := by decide +kernel
theorem dX10_comesOn_315 : decode mX10_comesOn.2.1 315 = .ok (.iload 5, 2) := by decide +kernel
theorem dX10_comesOn_317 : decode mX10_comesOn.2.1 317 = .ok (.aload_n 0, 1) := by decide +kernel
theorem dX10_comesOn_318 : decode mX10_comesOn.2.1 318 = .ok (.getfield 72, 3) := by decide +kernel
theorem dX10_comesOn_321 : decode mX10_comesOn.2.1 321 = .ok (.aload_n 0, 1) := by decide +kernel
theorem dX10_comesOn_322 : decode mX10_comesOn.2.1 322 = .ok (.getfield 51, 3) := by decide +kernel
theorem dX10_comesOn_325 : decode mX10_comesOn.2.1 325 = .ok (.iaload, 1) := by decide +kernel
theorem dX10_comesOn_326 : decode mX10_comesOn.2.1 326 = .ok (.if_icmp .ge 45, 3) := by decide +kernel
theorem dX10_comesOn_329 : decode mX10_comesOn.2.1 329 = .ok (.aload_n 0, 1) := by decide +kernel
theorem dX10_comesOn_330 : decode mX10_comesOn.2.1 330 = .ok (.getfield 7, 3) := by decide +kernel
theorem dX10_comesOn_333 : decode mX10_comesOn.2.1 333 = .ok (.iload_n 3, 1) := by decide +kernel
theorem dX10_comesOn_334 : decode mX10_comesOn.2.1 334 = .ok (.iload 5, 2) := by decide +kernel
theorem dX10_comesOn_336 : decode mX10_comesOn.2.1 336 = .ok (.iadd, 1) := by decide +kernel
theorem dX10_comesOn_337 : decode mX10_comesOn.2.1 337 = .ok (.iaload, 1) := by decide +kernel
theorem dX10_comesOn_338 : decode mX10_comesOn.2.1 338 = .ok (.iconst 1, 1) := by decide +kernel
theorem dX10_comesOn_339 : decode mX10_comesOn.2.1 339 = .ok (.if_icmp .le 5, 3) := by decide +kernel
theorem dX10_comesOn_342 : decode mX10_comesOn.2.1 342 = .ok (.iconst 0, 1) := by decide +kernel
theorem dX10_comesOn_343 : decode mX10_comesOn.2.1 343 = .ok (.ireturn, 1) := by decide +kernel
theorem dX10_comesOn_344 : decode mX10_comesOn.2.1 344 = .ok (.aload_n 0, 1) := by decide +kernel
theorem dX10_comesOn_345 : decode mX10_comesOn.2.1 345 = .ok (.getfield 165, 3) := by decide +kernel
theorem dX10_comesOn_348 : decode mX10_comesOn.2.1 348 = .ok (.iconst 1, 1) := by decide +kernel
theorem dX10_comesOn_349 : decode mX10_comesOn.2.1 349 = .ok (.dup2, 1) := by decide +kernel
theorem dX10_comesOn_350 : decode mX10_comesOn.2.1 350 = .ok (.iaload, 1) := by decide +kernel
theorem dX10_comesOn_351 : decode mX10_comesOn.2.1 351 = .ok (.aload_n 0, 1) := by decide +kernel
theorem dX10_comesOn_352 : decode mX10_comesOn.2.1 352 = .ok (.getfield 7, 3) := by decide +kernel
theorem dX10_comesOn_355 : decode mX10_comesOn.2.1 355 = .ok (.iload_n 3, 1) := by decide +kernel
theorem dX10_comesOn_356 : decode mX10_comesOn.2.1 356 = .ok (.iload 5, 2) := by decide +kernel
theorem dX10_comesOn_358 : decode mX10_comesOn.2.1 358 = .ok (.iadd, 1) := by decide +kernel
theorem dX10_comesOn_359 : decode mX10_comesOn.2.1 359 = .ok (.iaload, 1) := by decide +kernel
theorem dX10_comesOn_360 : decode mX10_comesOn.2.1 360 = .ok (.iload 5, 2) := by decide +kernel
theorem dX10_comesOn_362 : decode mX10_comesOn.2.1 362 = .ok (.ishl, 1) := by decide +kernel
theorem dX10_comesOn_363 : decode mX10_comesOn.2.1 363 = .ok (.ior, 1) := by decide +kernel
theorem dX10_comesOn_364 : decode mX10_comesOn.2.1 364 = .ok (.iastore, 1) := by decide +kernel
theorem dX10_comesOn_365 : decode mX10_comesOn.2.1 365 = .ok (.iinc 5 1, 3) := by decide +kernel
theorem dX10_comesOn_368 : decode mX10_comesOn.2.1 368 = .ok (.goto (-53), 3) := by decide +kernel
theorem dX10_comesOn_371 : decode mX10_comesOn.2.1 371 = .ok (.iconst 1, 1) := by decide +kernel
theorem dX10_comesOn_372 : decode mX10_comesOn.2.1 372 = .ok (.ireturn, 1) := by decide +kernel
abbrev mX10_on : aM := (yX10_on, cX10_on, 2, (some .boolean))
theorem dX10_on_0 : decode mX10_on.2.1 0 = .ok (.aload_n 0, 1) := by decide +kernel
theorem dX10_on_1 : decode mX10_on.2.1 1 = .ok (.getfield 13, 3) := by decide +kernel
theorem dX10_on_4 : decode mX10_on.2.1 4 = .ok (.istore_n 1, 1) := by decide +kernel
theorem dX10_on_5 : decode mX10_on.2.1 5 = .ok (.aload_n 0, 1) := by decide +kernel
theorem dX10_on_6 : decode mX10_on.2.1 6 = .ok (.iconst 0, 1) := by decide +kernel
theorem dX10_on_7 : decode mX10_on.2.1 7 = .ok (.putfield 13, 3) := by decide +kernel
theorem dX10_on_10 : decode mX10_on.2.1 10 = .ok (.aload_n 0, 1) := by decide +kernel
theorem dX10_on_11 : decode mX10_on.2.1 11 = .ok (.iload_n 1, 1) := by decide +kernel
theorem dX10_on_12 : decode mX10_on.2.1 12 = .ok (.invokevirtual 536, 3) := by decide +kernel
theorem dX10_on_15 : decode mX10_on.2.1 15 = .ok (.ifCond .ne 17, 3) := by decide +kernel
theorem dX10_on_18 : decode mX10_on.2.1 18 = .ok (.aload_n 0, 1) := by decide +kernel
theorem dX10_on_19 : decode mX10_on.2.1 19 = .ok (.iconst 5, 1) := by decide +kernel
theorem dX10_on_20 : decode mX10_on.2.1 20 = .ok (.invokevirtual 222, 3) := by decide +kernel
theorem dX10_on_23 : decode mX10_on.2.1 23 = .ok (.ifCond .lt 7, 3) := by decide +kernel
theorem dX10_on_26 : decode mX10_on.2.1 26 = .ok (.iconst 1, 1) := by decide +kernel
theorem dX10_on_27 : decode mX10_on.2.1 27 = .ok (.goto 4, 3) := by decide +kernel
theorem dX10_on_30 : decode mX10_on.2.1 30 = .ok (.iconst 0, 1) := by decide +kernel
theorem dX10_on_31 : decode mX10_on.2.1 31 = .ok (.ireturn, 1) := by decide +kernel
theorem dX10_on_32 : decode mX10_on.2.1 32 = .ok (.aload_n 0, 1) := by decide +kernel
theorem dX10_on_33 : decode mX10_on.2.1 33 = .ok (.iconst 0, 1) := by decide +kernel
theorem dX10_on_34 : decode mX10_on.2.1 34 = .ok (.iconst 1, 1) := by decide +kernel
theorem dX10_on_35 : decode mX10_on.2.1 35 = .ok (.invokevirtual 405, 3) := by decide +kernel
theorem dX10_on_38 : decode mX10_on.2.1 38 = .ok (.aload_n 0, 1) := by decide +kernel
theorem dX10_on_39 : decode mX10_on.2.1 39 = .ok (.iconst 0, 1) := by decide +kernel
theorem dX10_on_40 : decode mX10_on.2.1 40 = .ok (.putfield 177, 3) := by decide +kernel
theorem dX10_on_43 : decode mX10_on.2.1 43 = .ok (.iconst 1, 1) := by decide +kernel
theorem dX10_on_44 : decode mX10_on.2.1 44 = .ok (.ireturn, 1) := by decide +kernel
