theorem dX8_init_0 : decode cX8_init 0 = .ok (.aload_n 0, 1) := by decide +kernel
theorem dX8_init_1 : decode cX8_init 1 = .ok (.invokespecial 1, 3) := by decide +kernel
theorem dX8_init_4 : decode cX8_init 4 = .ok (.aload_n 0, 1) := by decide +kernel
theorem dX8_init_5 : decode cX8_init 5 = .ok (.bipush 12, 2) := by decide +kernel
theorem dX8_init_7 : decode cX8_init 7 = .ok (.newarray .int, 2) := by decide +kernel
theorem dX8_init_9 : decode cX8_init 9 = .ok (.putfield 7, 3) := by decide +kernel
theorem dX8_init_12 : decode cX8_init 12 = .ok (.aload_n 0, 1) := by decide +kernel
theorem dX8_init_13 : decode cX8_init 13 = .ok (.bipush 12, 2) := by decide +kernel
theorem dX8_init_15 : decode cX8_init 15 = .ok (.newarray .int, 2) := by decide +kernel
theorem dX8_init_17 : decode cX8_init 17 = .ok (.putfield 13, 3) := by decide +kernel
theorem dX8_init_20 : decode cX8_init 20 = .ok (.aload_n 0, 1) := by decide +kernel
theorem dX8_init_21 : decode cX8_init 21 = .ok (.bipush 20, 2) := by decide +kernel
theorem dX8_init_23 : decode cX8_init 23 = .ok (.newarray .boolean, 2) := by decide +kernel
theorem dX8_init_25 : decode cX8_init 25 = .ok (.putfield 16, 3) := by decide +kernel
theorem dX8_init_28 : decode cX8_init 28 = .ok (.aload_n 0, 1) := by decide +kernel
theorem dX8_init_29 : decode cX8_init 29 = .ok (.bipush 20, 2) := by decide +kernel
theorem dX8_init_31 : decode cX8_init 31 = .ok (.newarray .int, 2) := by decide +kernel
theorem dX8_init_33 : decode cX8_init 33 = .ok (.putfield 20, 3) := by decide +kernel
theorem dX8_init_36 : decode cX8_init 36 = .ok (.aload_n 0, 1) := by decide +kernel
theorem dX8_init_37 : decode cX8_init 37 = .ok (.sipush 240, 3) := by decide +kernel
theorem dX8_init_40 : decode cX8_init 40 = .ok (.newarray .boolean, 2) := by decide +kernel
theorem dX8_init_42 : decode cX8_init 42 = .ok (.putfield 23, 3) := by decide +kernel
theorem dX8_init_45 : decode cX8_init 45 = .ok (.aload_n 0, 1) := by decide +kernel
theorem dX8_init_46 : decode cX8_init 46 = .ok (.bipush 20, 2) := by decide +kernel
theorem dX8_init_48 : decode cX8_init 48 = .ok (.newarray .int, 2) := by decide +kernel
theorem dX8_init_50 : decode cX8_init 50 = .ok (.putfield 26, 3) := by decide +kernel
theorem dX8_init_53 : decode cX8_init 53 = .ok (.aload_n 0, 1) := by decide +kernel
theorem dX8_init_54 : decode cX8_init 54 = .ok (.bipush 20, 2) := by decide +kernel
theorem dX8_init_56 : decode cX8_init 56 = .ok (.newarray .int, 2) := by decide +kernel
theorem dX8_init_58 : decode cX8_init 58 = .ok (.putfield 29, 3) := by decide +kernel
theorem dX8_init_61 : decode cX8_init 61 = .ok (.aload_n 0, 1) := by decide +kernel
theorem dX8_init_62 : decode cX8_init 62 = .ok (.sipush 400, 3) := by decide +kernel
theorem dX8_init_65 : decode cX8_init 65 = .ok (.newarray .int, 2) := by decide +kernel
theorem dX8_init_67 : decode cX8_init 67 = .ok (.putfield 32, 3) := by decide +kernel
theorem dX8_init_70 : decode cX8_init 70 = .ok (.aload_n 0, 1) := by decide +kernel
theorem dX8_init_71 : decode cX8_init 71 = .ok (.sipush 400, 3) := by decide +kernel
theorem dX8_init_74 : decode cX8_init 74 = .ok (.newarray .int, 2) := by decide +kernel
theorem dX8_init_76 : decode cX8_init 76 = .ok (.putfield 35, 3) := by decide +kernel
theorem dX8_init_79 : decode cX8_init 79 = .ok (.aload_n 0, 1) := by decide +kernel
theorem dX8_init_80 : decode cX8_init 80 = .ok (.sipush 400, 3) := by decide +kernel
theorem dX8_init_83 : decode cX8_init 83 = .ok (.newarray .int, 2) := by decide +kernel
theorem dX8_init_85 : decode cX8_init 85 = .ok (.putfield 38, 3) := by decide +kernel
theorem dX8_init_88 : decode cX8_init 88 = .ok (.aload_n 0, 1) := by decide +kernel
theorem dX8_init_89 : decode cX8_init 89 = .ok (.sipush 400, 3) := by decide +kernel
theorem dX8_init_92 : decode cX8_init 92 = .ok (.newarray .int, 2) := by decide +kernel
theorem dX8_init_94 : decode cX8_init 94 = .ok (.putfield 41, 3) := by decide +kernel
theorem dX8_init_97 : decode cX8_init 97 = .ok (.aload_n 0, 1) := by decide +kernel
theorem dX8_init_98 : decode cX8_init 98 = .ok (.sipush 400, 3) := by decide +kernel
theorem dX8_init_101 : decode cX8_init 101 = .ok (.newarray .int, 2) := by decide +kernel
theorem dX8_init_103 : decode cX8_init 103 = .ok (.putfield 44, 3) := by decide +kernel
theorem dX8_init_106 : decode cX8_init 106 = .ok (.aload_n 0, 1) := by decide +kernel
theorem dX8_init_107 : decode cX8_init 107 = .ok (.sipush 400, 3) := by decide +kernel
theorem dX8_init_110 : decode cX8_init 110 = .ok (.newarray .int, 2) := by decide +kernel
theorem dX8_init_112 : decode cX8_init 112 = .ok (.putfield 47, 3) := by decide +kernel
theorem dX8_init_115 : decode cX8_init 115 = .ok (.aload_n 0, 1) := by decide +kernel
theorem dX8_init_116 : decode cX8_init 116 = .ok (.sipush 400, 3) := by decide +kernel
theorem dX8_init_119 : decode cX8_init 119 = .ok (.newarray .boolean, 2) := by decide +kernel
theorem dX8_init_121 : decode cX8_init 121 = .ok (.putfield 50, 3) := by decide +kernel
theorem dX8_init_124 : decode cX8_init 124 = .ok (.aload_n 0, 1) := by decide +kernel
theorem dX8_init_125 : decode cX8_init 125 = .ok (.sipush 8000, 3) := by decide +kernel
theorem dX8_init_128 : decode cX8_init 128 = .ok (.newarray .int, 2) := by decide +kernel
theorem dX8_init_130 : decode cX8_init 130 = .ok (.putfield 53, 3) := by decide +kernel
theorem dX8_init_133 : decode cX8_init 133 = .ok (.aload_n 0, 1) := by decide +kernel
theorem dX8_init_134 : decode cX8_init 134 = .ok (.sipush 130, 3) := by decide +kernel
theorem dX8_init_137 : decode cX8_init 137 = .ok (.newarray .int, 2) := by decide +kernel
theorem dX8_init_139 : decode cX8_init 139 = .ok (.putfield 56, 3) := by decide +kernel
theorem dX8_init_142 : decode cX8_init 142 = .ok (.aload_n 0, 1) := by decide +kernel
theorem dX8_init_143 : decode cX8_init 143 = .ok (.bipush 10, 2) := by decide +kernel
theorem dX8_init_145 : decode cX8_init 145 = .ok (.newarray .int, 2) := by decide +kernel
theorem dX8_init_147 : decode cX8_init 147 = .ok (.putfield 59, 3) := by decide +kernel
theorem dX8_init_150 : decode cX8_init 150 = .ok (.aload_n 0, 1) := by decide +kernel
theorem dX8_init_151 : decode cX8_init 151 = .ok (.bipush 10, 2) := by decide +kernel
theorem dX8_init_153 : decode cX8_init 153 = .ok (.newarray .int, 2) := by decide +kernel
theorem dX8_init_155 : decode cX8_init 155 = .ok (.putfield 62, 3) := by decide +kernel
theorem dX8_init_158 : decode cX8_init 158 = .ok (.aload_n 0, 1) := by decide +kernel
theorem dX8_init_159 : decode cX8_init 159 = .ok (.bipush 10, 2) := by decide +kernel
theorem dX8_init_161 : decode cX8_init 161 = .ok (.newarray .int, 2) := by decide +kernel
theorem dX8_init_163 : decode cX8_init 163 = .ok (.putfield 65, 3) := by decide +kernel
theorem dX8_init_166 : decode cX8_init 166 = .ok (.aload_n 0, 1) := by decide +kernel
theorem dX8_init_167 : decode cX8_init 167 = .ok (.bipush 20, 2) := by decide +kernel
theorem dX8_init_169 : decode cX8_init 169 = .ok (.newarray .int, 2) := by decide +kernel
theorem dX8_init_171 : decode cX8_init 171 = .ok (.putfield 68, 3) := by decide +kernel
theorem dX8_init_174 : decode cX8_init 174 = .ok (.aload_n 0, 1) := by decide +kernel
theorem dX8_init_175 : decode cX8_init 175 = .ok (.bipush 20, 2) := by decide +kernel
theorem dX8_init_177 : decode cX8_init 177 = .ok (.newarray .int, 2) := by decide +kernel
theorem dX8_init_179 : decode cX8_init 179 = .ok (.putfield 71, 3) := by decide +kernel
theorem dX8_init_182 : decode cX8_init 182 = .ok (.aload_n 0, 1) := by decide +kernel
theorem dX8_init_183 : decode cX8_init 183 = .ok (.bipush 20, 2) := by decide +kernel
theorem dX8_init_185 : decode cX8_init 185 = .ok (.newarray .int, 2) := by decide +kernel
theorem dX8_init_187 : decode cX8_init 187 = .ok (.putfield 74, 3) := by decide +kernel
theorem dX8_init_190 : decode cX8_init 190 = .ok (.aload_n 0, 1) := by decide +kernel
theorem dX8_init_191 : decode cX8_init 191 = .ok (.bipush 20, 2) := by decide +kernel
theorem dX8_init_193 : decode cX8_init 193 = .ok (.newarray .boolean, 2) := by decide +kernel
theorem dX8_init_195 : decode cX8_init 195 = .ok (.putfield 77, 3) := by decide +kernel
theorem dX8_init_198 : decode cX8_init 198 = .ok (.aload_n 0, 1) := by decide +kernel
theorem dX8_init_199 : decode cX8_init 199 = .ok (.sipush 140, 3) := by decide +kernel
theorem dX8_init_202 : decode cX8_init 202 = .ok (.newarray .int, 2) := by decide +kernel
theorem dX8_init_204 : decode cX8_init 204 = .ok (.putfield 80, 3) := by decide +kernel
theorem dX8_init_207 : decode cX8_init 207 = .ok (.aload_n 0, 1) := by decide +kernel
theorem dX8_init_208 : decode cX8_init 208 = .ok (.bipush 20, 2) := by decide +kernel
theorem dX8_init_210 : decode cX8_init 210 = .ok (.newarray .int, 2) := by decide +kernel
theorem dX8_init_212 : decode cX8_init 212 = .ok (.putfield 83, 3) := by decide +kernel
theorem dX8_init_215 : decode cX8_init 215 = .ok (.aload_n 0, 1) := by decide +kernel
theorem dX8_init_216 : decode cX8_init 216 = .ok (.bipush 20, 2) := by decide +kernel
theorem dX8_init_218 : decode cX8_init 218 = .ok (.newarray .int, 2) := by decide +kernel
theorem dX8_init_220 : decode cX8_init 220 = .ok (.putfield 86, 3) := by decide +kernel
theorem dX8_init_223 : decode cX8_init 223 = .ok (.aload_n 0, 1) := by decide +kernel
theorem dX8_init_224 : decode cX8_init 224 = .ok (.sipush 200, 3) := by decide +kernel
theorem dX8_init_227 : decode cX8_init 227 = .ok (.newarray .byte, 2) := by decide +kernel
theorem dX8_init_229 : decode cX8_init 229 = .ok (.putfield 89, 3) := by decide +kernel
theorem dX8_init_232 : decode cX8_init 232 = .ok (.aload_n 0, 1) := by decide +kernel
theorem dX8_init_233 : decode cX8_init 233 = .ok (.bipush 13, 2) := by decide +kernel
theorem dX8_init_235 : decode cX8_init 235 = .ok (.newarray .int, 2) := by decide +kernel
theorem dX8_init_237 : decode cX8_init 237 = .ok (.putfield 93, 3) := by decide +kernel
theorem dX8_init_240 : decode cX8_init 240 = .ok (.aload_n 0, 1) := by decide +kernel
theorem dX8_init_241 : decode cX8_init 241 = .ok (.bipush 56, 2) := by decide +kernel
theorem dX8_init_243 : decode cX8_init 243 = .ok (.newarray .byte, 2) := by decide +kernel
theorem dX8_init_245 : decode cX8_init 245 = .ok (.dup, 1) := by decide +kernel
theorem dX8_init_246 : decode cX8_init 246 = .ok (.iconst 0, 1) := by decide +kernel
theorem dX8_init_247 : decode cX8_init 247 = .ok (.bipush 99, 2) := by decide +kernel
theorem dX8_init_249 : decode cX8_init 249 = .ok (.bastore, 1) := by decide +kernel
theorem dX8_init_250 : decode cX8_init 250 = .ok (.dup, 1) := by decide +kernel
theorem dX8_init_251 : decode cX8_init 251 = .ok (.iconst 1, 1) := by decide +kernel
theorem dX8_init_252 : decode cX8_init 252 = .ok (.bipush 104, 2) := by decide +kernel
theorem dX8_init_254 : decode cX8_init 254 = .ok (.bastore, 1) := by decide +kernel
theorem dX8_init_255 : decode cX8_init 255 = .ok (.dup, 1) := by decide +kernel
theorem dX8_init_256 : decode cX8_init 256 = .ok (.iconst 2, 1) := by decide +kernel
theorem dX8_init_257 : decode cX8_init 257 = .ok (.bipush 111, 2) := by decide +kernel
theorem dX8_init_259 : decode cX8_init 259 = .ok (.bastore, 1) := by decide +kernel
theorem dX8_init_260 : decode cX8_init 260 = .ok (.dup, 1) := by decide +kernel
theorem dX8_init_261 : decode cX8_init 261 = .ok (.iconst 3, 1) := by decide +kernel
theorem dX8_init_262 : decode cX8_init 262 = .ok (.bipush 105, 2) := by decide +kernel
theorem dX8_init_264 : decode cX8_init 264 = .ok (.bastore, 1) := by decide +kernel
theorem dX8_init_265 : decode cX8_init 265 = .ok (.dup, 1) := by decide +kernel
theorem dX8_init_266 : decode cX8_init 266 = .ok (.iconst 4, 1) := by decide +kernel
theorem dX8_init_267 : decode cX8_init 267 = .ok (.bipush 114, 2) := by decide +kernel
theorem dX8_init_269 : decode cX8_init 269 = .ok (.bastore, 1) := by decide +kernel
theorem dX8_init_270 : decode cX8_init 270 = .ok (.dup, 1) := by decide +kernel
theorem dX8_init_271 : decode cX8_init 271 = .ok (.iconst 5, 1) := by decide +kernel
theorem dX8_init_272 : decode cX8_init 272 = .ok (.iconst 0, 1) := by decide +kernel
theorem dX8_init_273 : decode cX8_init 273 = .ok (.bastore, 1) := by decide +kernel
theorem dX8_init_274 : decode cX8_init 274 = .ok (.dup, 1) := by decide +kernel
theorem dX8_init_275 : decode cX8_init 275 = .ok (.bipush 6, 2) := by decide +kernel
theorem dX8_init_277 : decode cX8_init 277 = .ok (.iconst 0, 1) := by decide +kernel
theorem dX8_init_278 : decode cX8_init 278 = .ok (.bastore, 1) := by decide +kernel
theorem dX8_init_279 : decode cX8_init 279 = .ok (.dup, 1) := by decide +kernel
theorem dX8_init_280 : decode cX8_init 280 = .ok (.bipush 7, 2) := by decide +kernel
theorem dX8_init_282 : decode cX8_init 282 = .ok (.iconst 0, 1) := by decide +kernel
theorem dX8_init_283 : decode cX8_init 283 = .ok (.bastore, 1) := by decide +kernel
theorem dX8_init_284 : decode cX8_init 284 = .ok (.dup, 1) := by decide +kernel
theorem dX8_init_285 : decode cX8_init 285 = .ok (.bipush 8, 2) := by decide +kernel
theorem dX8_init_287 : decode cX8_init 287 = .ok (.bipush 108, 2) := by decide +kernel
theorem dX8_init_289 : decode cX8_init 289 = .ok (.bastore, 1) := by decide +kernel
theorem dX8_init_290 : decode cX8_init 290 = .ok (.dup, 1) := by decide +kernel
theorem dX8_init_291 : decode cX8_init 291 = .ok (.bipush 9, 2) := by decide +kernel
theorem dX8_init_293 : decode cX8_init 293 = .ok (.bipush 97, 2) := by decide +kernel
theorem dX8_init_295 : decode cX8_init 295 = .ok (.bastore, 1) := by decide +kernel
theorem dX8_init_296 : decode cX8_init 296 = .ok (.dup, 1) := by decide +kernel
theorem dX8_init_297 : decode cX8_init 297 = .ok (.bipush 10, 2) := by decide +kernel
theorem dX8_init_299 : decode cX8_init 299 = .ok (.bipush 116, 2) := by decide +kernel
theorem dX8_init_301 : decode cX8_init 301 = .ok (.bastore, 1) := by decide +kernel
theorem dX8_init_302 : decode cX8_init 302 = .ok (.dup, 1) := by decide +kernel
theorem dX8_init_303 : decode cX8_init 303 = .ok (.bipush 11, 2) := by decide +kernel
theorem dX8_init_305 : decode cX8_init 305 = .ok (.bipush 101, 2) := by decide +kernel
theorem dX8_init_307 : decode cX8_init 307 = .ok (.bastore, 1) := by decide +kernel
theorem dX8_init_308 : decode cX8_init 308 = .ok (.dup, 1) := by decide +kernel
theorem dX8_init_309 : decode cX8_init 309 = .ok (.bipush 12, 2) := by decide +kernel
theorem dX8_init_311 : decode cX8_init 311 = .ok (.iconst 0, 1) := by decide +kernel
theorem dX8_init_312 : decode cX8_init 312 = .ok (.bastore, 1) := by decide +kernel
theorem dX8_init_313 : decode cX8_init 313 = .ok (.dup, 1) := by decide +kernel
theorem dX8_init_314 : decode cX8_init 314 = .ok (.bipush 13, 2) := by decide +kernel
theorem dX8_init_316 : decode cX8_init 316 = .ok (.iconst 0, 1) := by decide +kernel
theorem dX8_init_317 : decode cX8_init 317 = .ok (.bastore, 1) := by decide +kernel
theorem dX8_init_318 : decode cX8_init 318 = .ok (.dup, 1) := by decide +kernel
theorem dX8_init_319 : decode cX8_init 319 = .ok (.bipush 14, 2) := by decide +kernel
theorem dX8_init_321 : decode cX8_init 321 = .ok (.iconst 0, 1) := by decide +kernel
theorem dX8_init_322 : decode cX8_init 322 = .ok (.bastore, 1) := by decide +kernel
theorem dX8_init_323 : decode cX8_init 323 = .ok (.dup, 1) := by decide +kernel
theorem dX8_init_324 : decode cX8_init 324 = .ok (.bipush 15, 2) := by decide +kernel
theorem dX8_init_326 : decode cX8_init 326 = .ok (.iconst 0, 1) := by decide +kernel
theorem dX8_init_327 : decode cX8_init 327 = .ok (.bastore, 1) := by decide +kernel
theorem dX8_init_328 : decode cX8_init 328 = .ok (.dup, 1) := by decide +kernel
theorem dX8_init_329 : decode cX8_init 329 = .ok (.bipush 16, 2) := by decide +kernel
theorem dX8_init_331 : decode cX8_init 331 = .ok (.bipush 105, 2) := by decide +kernel
theorem dX8_init_333 : decode cX8_init 333 = .ok (.bastore, 1) := by decide +kernel
theorem dX8_init_334 : decode cX8_init 334 = .ok (.dup, 1) := by decide +kernel
theorem dX8_init_335 : decode cX8_init 335 = .ok (.bipush 17, 2) := by decide +kernel
theorem dX8_init_337 : decode cX8_init 337 = .ok (.bipush 108, 2) := by decide +kernel
theorem dX8_init_339 : decode cX8_init 339 = .ok (.bastore, 1) := by decide +kernel
theorem dX8_init_340 : decode cX8_init 340 = .ok (.dup, 1) := by decide +kernel
theorem dX8_init_341 : decode cX8_init 341 = .ok (.bipush 18, 2) := by decide +kernel
theorem dX8_init_343 : decode cX8_init 343 = .ok (.bipush 108, 2) := by decide +kernel
theorem dX8_init_345 : decode cX8_init 345 = .ok (.bastore, 1) := by decide +kernel
theorem dX8_init_346 : decode cX8_init 346 = .ok (.dup, 1) := by decide +kernel
theorem dX8_init_347 : decode cX8_init 347 = .ok (.bipush 19, 2) := by decide +kernel
theorem dX8_init_349 : decode cX8_init 349 = .ok (.iconst 0, 1) := by decide +kernel
theorem dX8_init_350 : decode cX8_init 350 = .ok (.bastore, 1) := by decide +kernel
theorem dX8_init_351 : decode cX8_init 351 = .ok (.dup, 1) := by decide +kernel
theorem dX8_init_352 : decode cX8_init 352 = .ok (.bipush 20, 2) := by decide +kernel
theorem dX8_init_354 : decode cX8_init 354 = .ok (.iconst 0, 1) := by decide +kernel
theorem dX8_init_355 : decode cX8_init 355 = .ok (.bastore, 1) := by decide +kernel
theorem dX8_init_356 : decode cX8_init 356 = .ok (.dup, 1) := by decide +kernel
theorem dX8_init_357 : decode cX8_init 357 = .ok (.bipush 21, 2) := by decide +kernel
theorem dX8_init_359 : decode cX8_init 359 = .ok (.iconst 0, 1) := by decide +kernel
theorem dX8_init_360 : decode cX8_init 360 = .ok (.bastore, 1) := by decide +kernel
theorem dX8_init_361 : decode cX8_init 361 = .ok (.dup, 1) := by decide +kernel
theorem dX8_init_362 : decode cX8_init 362 = .ok (.bipush 22, 2) := by decide +kernel
theorem dX8_init_364 : decode cX8_init 364 = .ok (.iconst 0, 1) := by decide +kernel
theorem dX8_init_365 : decode cX8_init 365 = .ok (.bastore, 1) := by decide +kernel
theorem dX8_init_366 : decode cX8_init 366 = .ok (.dup, 1) := by decide +kernel
theorem dX8_init_367 : decode cX8_init 367 = .ok (.bipush 23, 2) := by decide +kernel
theorem dX8_init_369 : decode cX8_init 369 = .ok (.iconst 0, 1) := by decide +kernel
theorem dX8_init_370 : decode cX8_init 370 = .ok (.bastore, 1) := by decide +kernel
theorem dX8_init_371 : decode cX8_init 371 = .ok (.dup, 1) := by decide +kernel
theorem dX8_init_372 : decode cX8_init 372 = .ok (.bipush 24, 2) := by decide +kernel
theorem dX8_init_374 : decode cX8_init 374 = .ok (.bipush 98, 2) := by decide +kernel
theorem dX8_init_376 : decode cX8_init 376 = .ok (.bastore, 1) := by decide +kernel
theorem dX8_init_377 : decode cX8_init 377 = .ok (.dup, 1) := by decide +kernel
theorem dX8_init_378 : decode cX8_init 378 = .ok (.bipush 25, 2) := by decide +kernel
theorem dX8_init_380 : decode cX8_init 380 = .ok (.bipush 117, 2) := by decide +kernel
theorem dX8_init_382 : decode cX8_init 382 = .ok (.bastore, 1) := by decide +kernel
theorem dX8_init_383 : decode cX8_init 383 = .ok (.dup, 1) := by decide +kernel
theorem dX8_init_384 : decode cX8_init 384 = .ok (.bipush 26, 2) := by decide +kernel
theorem dX8_init_386 : decode cX8_init 386 = .ok (.bipush 115, 2) := by decide +kernel
theorem dX8_init_388 : decode cX8_init 388 = .ok (.bastore, 1) := by decide +kernel
theorem dX8_init_389 : decode cX8_init 389 = .ok (.dup, 1) := by decide +kernel
theorem dX8_init_390 : decode cX8_init 390 = .ok (.bipush 27, 2) := by decide +kernel
theorem dX8_init_392 : decode cX8_init 392 = .ok (.bipush 105, 2) := by decide +kernel
theorem dX8_init_394 : decode cX8_init 394 = .ok (.bastore, 1) := by decide +kernel
theorem dX8_init_395 : decode cX8_init 395 = .ok (.dup, 1) := by decide +kernel
theorem dX8_init_396 : decode cX8_init 396 = .ok (.bipush 28, 2) := by decide +kernel
theorem dX8_init_398 : decode cX8_init 398 = .ok (.bipush 110, 2) := by decide +kernel
theorem dX8_init_400 : decode cX8_init 400 = .ok (.bastore, 1) := by decide +kernel
theorem dX8_init_401 : decode cX8_init 401 = .ok (.dup, 1) := by decide +kernel
theorem dX8_init_402 : decode cX8_init 402 = .ok (.bipush 29, 2) := by decide +kernel
theorem dX8_init_404 : decode cX8_init 404 = .ok (.bipush 101, 2) := by decide +kernel
theorem dX8_init_406 : decode cX8_init 406 = .ok (.bastore, 1) := by decide +kernel
theorem dX8_init_407 : decode cX8_init 407 = .ok (.dup, 1) := by decide +kernel
theorem dX8_init_408 : decode cX8_init 408 = .ok (.bipush 30, 2) := by decide +kernel
theorem dX8_init_410 : decode cX8_init 410 = .ok (.bipush 115, 2) := by decide +kernel
theorem dX8_init_412 : decode cX8_init 412 = .ok (.bastore, 1) := by decide +kernel
theorem dX8_init_413 : decode cX8_init 413 = .ok (.dup, 1) := by decide +kernel
theorem dX8_init_414 : decode cX8_init 414 = .ok (.bipush 31, 2) := by decide +kernel
theorem dX8_init_416 : decode cX8_init 416 = .ok (.bipush 115, 2) := by decide +kernel
theorem dX8_init_418 : decode cX8_init 418 = .ok (.bastore, 1) := by decide +kernel
theorem dX8_init_419 : decode cX8_init 419 = .ok (.dup, 1) := by decide +kernel
theorem dX8_init_420 : decode cX8_init 420 = .ok (.bipush 32, 2) := by decide +kernel
theorem dX8_init_422 : decode cX8_init 422 = .ok (.bipush 113, 2) := by decide +kernel
theorem dX8_init_424 : decode cX8_init 424 = .ok (.bastore, 1) := by decide +kernel
theorem dX8_init_425 : decode cX8_init 425 = .ok (.dup, 1) := by decide +kernel
theorem dX8_init_426 : decode cX8_init 426 = .ok (.bipush 33, 2) := by decide +kernel
theorem dX8_init_428 : decode cX8_init 428 = .ok (.bipush 117, 2) := by decide +kernel
theorem dX8_init_430 : decode cX8_init 430 = .ok (.bastore, 1) := by decide +kernel
theorem dX8_init_431 : decode cX8_init 431 = .ok (.dup, 1) := by decide +kernel
theorem dX8_init_432 : decode cX8_init 432 = .ok (.bipush 34, 2) := by decide +kernel
theorem dX8_init_434 : decode cX8_init 434 = .ok (.bipush 111, 2) := by decide +kernel
theorem dX8_init_436 : decode cX8_init 436 = .ok (.bastore, 1) := by decide +kernel
theorem dX8_init_437 : decode cX8_init 437 = .ok (.dup, 1) := by decide +kernel
theorem dX8_init_438 : decode cX8_init 438 = .ok (.bipush 35, 2) := by decide +kernel
theorem dX8_init_440 : decode cX8_init 440 = .ok (.bipush 114, 2) := by decide +kernel
theorem dX8_init_442 : decode cX8_init 442 = .ok (.bastore, 1) := by decide +kernel
theorem dX8_init_443 : decode cX8_init 443 = .ok (.dup, 1) := by decide +kernel
theorem dX8_init_444 : decode cX8_init 444 = .ok (.bipush 36, 2) := by decide +kernel
theorem dX8_init_446 : decode cX8_init 446 = .ok (.bipush 117, 2) := by decide +kernel
theorem dX8_init_448 : decode cX8_init 448 = .ok (.bastore, 1) := by decide +kernel
theorem dX8_init_449 : decode cX8_init 449 = .ok (.dup, 1) := by decide +kernel
theorem dX8_init_450 : decode cX8_init 450 = .ok (.bipush 37, 2) := by decide +kernel
theorem dX8_init_452 : decode cX8_init 452 = .ok (.bipush 109, 2) := by decide +kernel
theorem dX8_init_454 : decode cX8_init 454 = .ok (.bastore, 1) := by decide +kernel
theorem dX8_init_455 : decode cX8_init 455 = .ok (.dup, 1) := by decide +kernel
theorem dX8_init_456 : decode cX8_init 456 = .ok (.bipush 38, 2) := by decide +kernel
theorem dX8_init_458 : decode cX8_init 458 = .ok (.iconst 0, 1) := by decide +kernel
theorem dX8_init_459 : decode cX8_init 459 = .ok (.bastore, 1) := by decide +kernel
theorem dX8_init_460 : decode cX8_init 460 = .ok (.dup, 1) := by decide +kernel
theorem dX8_init_461 : decode cX8_init 461 = .ok (.bipush 39, 2) := by decide +kernel
theorem dX8_init_463 : decode cX8_init 463 = .ok (.iconst 0, 1) := by decide +kernel
theorem dX8_init_464 : decode cX8_init 464 = .ok (.bastore, 1) := by decide +kernel
theorem dX8_init_465 : decode cX8_init 465 = .ok (.dup, 1) := by decide +kernel
theorem dX8_init_466 : decode cX8_init 466 = .ok (.bipush 40, 2) := by decide +kernel
theorem dX8_init_468 : decode cX8_init 468 = .ok (.bipush 112, 2) := by decide +kernel
theorem dX8_init_470 : decode cX8_init 470 = .ok (.bastore, 1) := by decide +kernel
theorem dX8_init_471 : decode cX8_init 471 = .ok (.dup, 1) := by decide +kernel
theorem dX8_init_472 : decode cX8_init 472 = .ok (.bipush 41, 2) := by decide +kernel
theorem dX8_init_474 : decode cX8_init 474 = .ok (.bipush 114, 2) := by decide +kernel
theorem dX8_init_476 : decode cX8_init 476 = .ok (.bastore, 1) := by decide +kernel
theorem dX8_init_477 : decode cX8_init 477 = .ok (.dup, 1) := by decide +kernel
theorem dX8_init_478 : decode cX8_init 478 = .ok (.bipush 42, 2) := by decide +kernel
theorem dX8_init_480 : decode cX8_init 480 = .ok (.bipush 111, 2) := by decide +kernel
theorem dX8_init_482 : decode cX8_init 482 = .ok (.bastore, 1) := by decide +kernel
theorem dX8_init_483 : decode cX8_init 483 = .ok (.dup, 1) := by decide +kernel
theorem dX8_init_484 : decode cX8_init 484 = .ok (.bipush 43, 2) := by decide +kernel
theorem dX8_init_486 : decode cX8_init 486 = .ok (.bipush 120, 2) := by decide +kernel
theorem dX8_init_488 : decode cX8_init 488 = .ok (.bastore, 1) := by decide +kernel
theorem dX8_init_489 : decode cX8_init 489 = .ok (.dup, 1) := by decide +kernel
theorem dX8_init_490 : decode cX8_init 490 = .ok (.bipush 44, 2) := by decide +kernel
theorem dX8_init_492 : decode cX8_init 492 = .ok (.bipush 121, 2) := by decide +kernel
theorem dX8_init_494 : decode cX8_init 494 = .ok (.bastore, 1) := by decide +kernel
theorem dX8_init_495 : decode cX8_init 495 = .ok (.dup, 1) := by decide +kernel
theorem dX8_init_496 : decode cX8_init 496 = .ok (.bipush 45, 2) := by decide +kernel
theorem dX8_init_498 : decode cX8_init 498 = .ok (.iconst 0, 1) := by decide +kernel
theorem dX8_init_499 : decode cX8_init 499 = .ok (.bastore, 1) := by decide +kernel
theorem dX8_init_500 : decode cX8_init 500 = .ok (.dup, 1) := by decide +kernel
theorem dX8_init_501 : decode cX8_init 501 = .ok (.bipush 46, 2) := by decide +kernel
theorem dX8_init_503 : decode cX8_init 503 = .ok (.iconst 0, 1) := by decide +kernel
theorem dX8_init_504 : decode cX8_init 504 = .ok (.bastore, 1) := by decide +kernel
theorem dX8_init_505 : decode cX8_init 505 = .ok (.dup, 1) := by decide +kernel
theorem dX8_init_506 : decode cX8_init 506 = .ok (.bipush 47, 2) := by decide +kernel
theorem dX8_init_508 : decode cX8_init 508 = .ok (.iconst 0, 1) := by decide +kernel
theorem dX8_init_509 : decode cX8_init 509 = .ok (.bastore, 1) := by decide +kernel
theorem dX8_init_510 : decode cX8_init 510 = .ok (.dup, 1) := by decide +kernel
theorem dX8_init_511 : decode cX8_init 511 = .ok (.bipush 48, 2) := by decide +kernel
theorem dX8_init_513 : decode cX8_init 513 = .ok (.bipush 104, 2) := by decide +kernel
theorem dX8_init_515 : decode cX8_init 515 = .ok (.bastore, 1) := by decide +kernel
theorem dX8_init_516 : decode cX8_init 516 = .ok (.dup, 1) := by decide +kernel
theorem dX8_init_517 : decode cX8_init 517 = .ok (.bipush 49, 2) := by decide +kernel
theorem dX8_init_519 : decode cX8_init 519 = .ok (.bipush 111, 2) := by decide +kernel
theorem dX8_init_521 : decode cX8_init 521 = .ok (.bastore, 1) := by decide +kernel
theorem dX8_init_522 : decode cX8_init 522 = .ok (.dup, 1) := by decide +kernel
theorem dX8_init_523 : decode cX8_init 523 = .ok (.bipush 50, 2) := by decide +kernel
theorem dX8_init_525 : decode cX8_init 525 = .ok (.bipush 117, 2) := by decide +kernel
theorem dX8_init_527 : decode cX8_init 527 = .ok (.bastore, 1) := by decide +kernel
theorem dX8_init_528 : decode cX8_init 528 = .ok (.dup, 1) := by decide +kernel
theorem dX8_init_529 : decode cX8_init 529 = .ok (.bipush 51, 2) := by decide +kernel
theorem dX8_init_531 : decode cX8_init 531 = .ok (.bipush 114, 2) := by decide +kernel
theorem dX8_init_533 : decode cX8_init 533 = .ok (.bastore, 1) := by decide +kernel
theorem dX8_init_534 : decode cX8_init 534 = .ok (.dup, 1) := by decide +kernel
theorem dX8_init_535 : decode cX8_init 535 = .ok (.bipush 52, 2) := by decide +kernel
theorem dX8_init_537 : decode cX8_init 537 = .ok (.iconst 0, 1) := by decide +kernel
theorem dX8_init_538 : decode cX8_init 538 = .ok (.bastore, 1) := by decide +kernel
theorem dX8_init_539 : decode cX8_init 539 = .ok (.dup, 1) := by decide +kernel
theorem dX8_init_540 : decode cX8_init 540 = .ok (.bipush 53, 2) := by decide +kernel
theorem dX8_init_542 : decode cX8_init 542 = .ok (.iconst 0, 1) := by decide +kernel
theorem dX8_init_543 : decode cX8_init 543 = .ok (.bastore, 1) := by decide +kernel
theorem dX8_init_544 : decode cX8_init 544 = .ok (.dup, 1) := by decide +kernel
theorem dX8_init_545 : decode cX8_init 545 = .ok (.bipush 54, 2) := by decide +kernel
theorem dX8_init_547 : decode cX8_init 547 = .ok (.iconst 0, 1) := by decide +kernel
theorem dX8_init_548 : decode cX8_init 548 = .ok (.bastore, 1) := by decide +kernel
theorem dX8_init_549 : decode cX8_init 549 = .ok (.dup, 1) := by decide +kernel
theorem dX8_init_550 : decode cX8_init 550 = .ok (.bipush 55, 2) := by decide +kernel
theorem dX8_init_552 : decode cX8_init 552 = .ok (.iconst 0, 1) := by decide +kernel
theorem dX8_init_553 : decode cX8_init 553 = .ok (.bastore, 1) := by decide +kernel
theorem dX8_init_554 : decode cX8_init 554 = .ok (.putfield 96, 3) := by decide +kernel
theorem dX8_init_557 : decode cX8_init 557 = .ok (.aload_n 0, 1) := by decide +kernel
theorem dX8_init_558 : decode cX8_init 558 = .ok (.bipush 20, 2) := by decide +kernel
theorem dX8_init_560 : decode cX8_init 560 = .ok (.newarray .int, 2) := by decide +kernel
theorem dX8_init_562 : decode cX8_init 562 = .ok (.putfield 99, 3) := by decide +kernel
theorem dX8_init_565 : decode cX8_init 565 = .ok (.aload_n 0, 1) := by decide +kernel
theorem dX8_init_566 : decode cX8_init 566 = .ok (.bipush 20, 2) := by decide +kernel
theorem dX8_init_568 : decode cX8_init 568 = .ok (.newarray .int, 2) := by decide +kernel
theorem dX8_init_570 : decode cX8_init 570 = .ok (.putfield 102, 3) := by decide +kernel
theorem dX8_init_573 : decode cX8_init 573 = .ok (.aload_n 0, 1) := by decide +kernel
theorem dX8_init_574 : decode cX8_init 574 = .ok (.bipush 13, 2) := by decide +kernel
theorem dX8_init_576 : decode cX8_init 576 = .ok (.newarray .int, 2) := by decide +kernel
theorem dX8_init_578 : decode cX8_init 578 = .ok (.putfield 105, 3) := by decide +kernel
theorem dX8_init_581 : decode cX8_init 581 = .ok (.return_, 1) := by decide +kernel
theorem dX8_in_0 : decode cX8_in 0 = .ok (.iload_n 0, 1) := by decide +kernel
theorem dX8_in_1 : decode cX8_in 1 = .ok (.iload_n 1, 1) := by decide +kernel
theorem dX8_in_2 : decode cX8_in 2 = .ok (.if_icmp .lt 12, 3) := by decide +kernel
theorem dX8_in_5 : decode cX8_in 5 = .ok (.iload_n 0, 1) := by decide +kernel
theorem dX8_in_6 : decode cX8_in 6 = .ok (.iload_n 2, 1) := by decide +kernel
theorem dX8_in_7 : decode cX8_in 7 = .ok (.if_icmp .gt 7, 3) := by decide +kernel
theorem dX8_in_10 : decode cX8_in 10 = .ok (.iconst 1, 1) := by decide +kernel
theorem dX8_in_11 : decode cX8_in 11 = .ok (.goto 4, 3) := by decide +kernel
theorem dX8_in_14 : decode cX8_in 14 = .ok (.iconst 0, 1) := by decide +kernel
theorem dX8_in_15 : decode cX8_in 15 = .ok (.ireturn, 1) := by decide +kernel
set_option maxRecDepth 20000 in
theorem ggX8_isDay_X8_in : GoodIn wsX8_isDay wsX8_in := goodIn_sl _ [(4, 1)] rfl (by decide +kernel)
set_option maxRecDepth 20000 in
theorem gX8_isDay_X8_in : GoodIn wsX8_isDay (va_wsS RX8 108 yX8_in wsX8_in) := goodIn_app (goodIn_of _ (by decide +kernel)) ggX8_isDay_X8_in
theorem dX8_isDay_0 : decode cX8_isDay 0 = .ok (.iload_n 0, 1) := by decide +kernel
theorem dX8_isDay_1 : decode cX8_isDay 1 = .ok (.iconst 0, 1) := by decide +kernel
theorem dX8_isDay_2 : decode cX8_isDay 2 = .ok (.sipush 399, 3) := by decide +kernel
theorem dX8_isDay_5 : decode cX8_isDay 5 = .ok (.invokestatic 108, 3) := by decide +kernel
theorem dX8_isDay_8 : decode cX8_isDay 8 = .ok (.ireturn, 1) := by decide +kernel
set_option maxRecDepth 20000 in
theorem ggX8_isCanon_X8_in : GoodIn wsX8_isCanon wsX8_in := goodIn_sl _ [(5, 1)] rfl (by decide +kernel)
set_option maxRecDepth 20000 in
theorem gX8_isCanon_X8_in : GoodIn wsX8_isCanon (va_wsS RX8 108 yX8_in wsX8_in) := goodIn_app (goodIn_of _ (by decide +kernel)) ggX8_isCanon_X8_in
theorem dX8_isCanon_0 : decode cX8_isCanon 0 = .ok (.iload_n 1, 1) := by decide +kernel
theorem dX8_isCanon_1 : decode cX8_isCanon 1 = .ok (.iconst 0, 1) := by decide +kernel
theorem dX8_isCanon_2 : decode cX8_isCanon 2 = .ok (.aload_n 0, 1) := by decide +kernel
theorem dX8_isCanon_3 : decode cX8_isCanon 3 = .ok (.getfield 112, 3) := by decide +kernel
theorem dX8_isCanon_6 : decode cX8_isCanon 6 = .ok (.iconst 1, 1) := by decide +kernel
theorem dX8_isCanon_7 : decode cX8_isCanon 7 = .ok (.isub, 1) := by decide +kernel
theorem dX8_isCanon_8 : decode cX8_isCanon 8 = .ok (.invokestatic 108, 3) := by decide +kernel
theorem dX8_isCanon_11 : decode cX8_isCanon 11 = .ok (.ireturn, 1) := by decide +kernel
set_option maxRecDepth 20000 in
theorem ggX8_isStall_X8_in : GoodIn wsX8_isStall wsX8_in := goodIn_sl _ [(5, 1)] rfl (by decide +kernel)
set_option maxRecDepth 20000 in
theorem gX8_isStall_X8_in : GoodIn wsX8_isStall (va_wsS RX8 108 yX8_in wsX8_in) := goodIn_app (goodIn_of _ (by decide +kernel)) ggX8_isStall_X8_in
theorem dX8_isStall_0 : decode cX8_isStall 0 = .ok (.iload_n 1, 1) := by decide +kernel
theorem dX8_isStall_1 : decode cX8_isStall 1 = .ok (.iconst 0, 1) := by decide +kernel
theorem dX8_isStall_2 : decode cX8_isStall 2 = .ok (.aload_n 0, 1) := by decide +kernel
theorem dX8_isStall_3 : decode cX8_isStall 3 = .ok (.getfield 116, 3) := by decide +kernel
theorem dX8_isStall_6 : decode cX8_isStall 6 = .ok (.iconst 1, 1) := by decide +kernel
theorem dX8_isStall_7 : decode cX8_isStall 7 = .ok (.isub, 1) := by decide +kernel
theorem dX8_isStall_8 : decode cX8_isStall 8 = .ok (.invokestatic 108, 3) := by decide +kernel
theorem dX8_isStall_11 : decode cX8_isStall 11 = .ok (.ireturn, 1) := by decide +kernel
theorem dX8_falls_0 : decode cX8_falls 0 = .ok (.aload_n 0, 1) := by decide +kernel
theorem dX8_falls_1 : decode cX8_falls 1 = .ok (.iconst 0, 1) := by decide +kernel
theorem dX8_falls_2 : decode cX8_falls 2 = .ok (.putfield 119, 3) := by decide +kernel
theorem dX8_falls_5 : decode cX8_falls 5 = .ok (.iconst 0, 1) := by decide +kernel
theorem dX8_falls_6 : decode cX8_falls 6 = .ok (.istore_n 2, 1) := by decide +kernel
theorem dX8_falls_7 : decode cX8_falls 7 = .ok (.iload_n 2, 1) := by decide +kernel
theorem dX8_falls_8 : decode cX8_falls 8 = .ok (.bipush 20, 2) := by decide +kernel
theorem dX8_falls_10 : decode cX8_falls 10 = .ok (.if_icmp .ge 16, 3) := by decide +kernel
theorem dX8_falls_13 : decode cX8_falls 13 = .ok (.aload_n 0, 1) := by decide +kernel
theorem dX8_falls_14 : decode cX8_falls 14 = .ok (.getfield 77, 3) := by decide +kernel
theorem dX8_falls_17 : decode cX8_falls 17 = .ok (.iload_n 2, 1) := by decide +kernel
theorem dX8_falls_18 : decode cX8_falls 18 = .ok (.iconst 0, 1) := by decide +kernel
theorem dX8_falls_19 : decode cX8_falls 19 = .ok (.bastore, 1) := by decide +kernel
theorem dX8_falls_20 : decode cX8_falls 20 = .ok (.iinc 2 1, 3) := by decide +kernel
theorem dX8_falls_23 : decode cX8_falls 23 = .ok (.goto (-16), 3) := by decide +kernel
theorem dX8_falls_26 : decode cX8_falls 26 = .ok (.iload_n 1, 1) := by decide +kernel
theorem dX8_falls_27 : decode cX8_falls 27 = .ok (.istore_n 2, 1) := by decide +kernel
theorem dX8_falls_28 : decode cX8_falls 28 = .ok (.iload_n 2, 1) := by decide +kernel
theorem dX8_falls_29 : decode cX8_falls 29 = .ok (.ifCond .lt 191, 3) := by decide +kernel
theorem dX8_falls_32 : decode cX8_falls 32 = .ok (.iconst (-1), 1) := by decide +kernel
theorem dX8_falls_33 : decode cX8_falls 33 = .ok (.istore_n 3, 1) := by decide +kernel
theorem dX8_falls_34 : decode cX8_falls 34 = .ok (.aload_n 0, 1) := by decide +kernel
theorem dX8_falls_35 : decode cX8_falls 35 = .ok (.getfield 112, 3) := by decide +kernel
theorem dX8_falls_38 : decode cX8_falls 38 = .ok (.iconst 1, 1) := by decide +kernel
theorem dX8_falls_39 : decode cX8_falls 39 = .ok (.isub, 1) := by decide +kernel
theorem dX8_falls_40 : decode cX8_falls 40 = .ok (.istore 4, 2) := by decide +kernel
theorem dX8_falls_42 : decode cX8_falls 42 = .ok (.iload 4, 2) := by decide +kernel
theorem dX8_falls_44 : decode cX8_falls 44 = .ok (.ifCond .lt 78, 3) := by decide +kernel
theorem dX8_falls_47 : decode cX8_falls 47 = .ok (.aload_n 0, 1) := by decide +kernel
theorem dX8_falls_48 : decode cX8_falls 48 = .ok (.getfield 16, 3) := by decide +kernel
theorem dX8_falls_51 : decode cX8_falls 51 = .ok (.iload 4, 2) := by decide +kernel
theorem dX8_falls_53 : decode cX8_falls 53 = .ok (.baload, 1) := by decide +kernel
theorem dX8_falls_54 : decode cX8_falls 54 = .ok (.ifCond .eq 62, 3) := by decide +kernel
theorem dX8_falls_57 : decode cX8_falls 57 = .ok (.aload_n 0, 1) := by decide +kernel
theorem dX8_falls_58 : decode cX8_falls 58 = .ok (.getfield 23, 3) := by decide +kernel
theorem dX8_falls_61 : decode cX8_falls 61 = .ok (.bipush 12, 2) := by decide +kernel
theorem dX8_falls_63 : decode cX8_falls 63 = .ok (.iload 4, 2) := by decide +kernel
theorem dX8_falls_65 : decode cX8_falls 65 = .ok (.imul, 1) := by decide +kernel
theorem dX8_falls_66 : decode cX8_falls 66 = .ok (.iload_n 2, 1) := by decide +kernel
theorem dX8_falls_67 : decode cX8_falls 67 = .ok (.iadd, 1) := by decide +kernel
theorem dX8_falls_68 : decode cX8_falls 68 = .ok (.baload, 1) := by decide +kernel
theorem dX8_falls_69 : decode cX8_falls 69 = .ok (.ifCond .eq 47, 3) := by decide +kernel
theorem dX8_falls_72 : decode cX8_falls 72 = .ok (.aload_n 0, 1) := by decide +kernel
theorem dX8_falls_73 : decode cX8_falls 73 = .ok (.getfield 77, 3) := by decide +kernel
theorem dX8_falls_76 : decode cX8_falls 76 = .ok (.iload 4, 2) := by decide +kernel
theorem dX8_falls_78 : decode cX8_falls 78 = .ok (.baload, 1) := by decide +kernel
theorem dX8_falls_79 : decode cX8_falls 79 = .ok (.ifCond .ne 37, 3) := by decide +kernel
theorem dX8_falls_82 : decode cX8_falls 82 = .ok (.aload_n 0, 1) := by decide +kernel
theorem dX8_falls_83 : decode cX8_falls 83 = .ok (.getfield 20, 3) := by decide +kernel
theorem dX8_falls_86 : decode cX8_falls 86 = .ok (.iload 4, 2) := by decide +kernel
theorem dX8_falls_88 : decode cX8_falls 88 = .ok (.iaload, 1) := by decide +kernel
theorem dX8_falls_89 : decode cX8_falls 89 = .ok (.ifCond .lt 24, 3) := by decide +kernel
theorem dX8_falls_92 : decode cX8_falls 92 = .ok (.aload_n 0, 1) := by decide +kernel
theorem dX8_falls_93 : decode cX8_falls 93 = .ok (.getfield 7, 3) := by decide +kernel
theorem dX8_falls_96 : decode cX8_falls 96 = .ok (.aload_n 0, 1) := by decide +kernel
theorem dX8_falls_97 : decode cX8_falls 97 = .ok (.getfield 20, 3) := by decide +kernel
theorem dX8_falls_100 : decode cX8_falls 100 = .ok (.iload 4, 2) := by decide +kernel
theorem dX8_falls_102 : decode cX8_falls 102 = .ok (.iaload, 1) := by decide +kernel
theorem dX8_falls_103 : decode cX8_falls 103 = .ok (.iaload, 1) := by decide +kernel
theorem dX8_falls_104 : decode cX8_falls 104 = .ok (.aload_n 0, 1) := by decide +kernel
theorem dX8_falls_105 : decode cX8_falls 105 = .ok (.getfield 7, 3) := by decide +kernel
theorem dX8_falls_108 : decode cX8_falls 108 = .ok (.iload_n 2, 1) := by decide +kernel
theorem dX8_falls_109 : decode cX8_falls 109 = .ok (.iaload, 1) := by decide +kernel
theorem dX8_falls_110 : decode cX8_falls 110 = .ok (.if_icmp .ge 6, 3) := by decide +kernel
theorem dX8_falls_113 : decode cX8_falls 113 = .ok (.iload 4, 2) := by decide +kernel
theorem dX8_falls_115 : decode cX8_falls 115 = .ok (.istore_n 3, 1) := by decide +kernel
theorem dX8_falls_116 : decode cX8_falls 116 = .ok (.iinc 4 (-1), 3) := by decide +kernel
theorem dX8_falls_119 : decode cX8_falls 119 = .ok (.goto (-77), 3) := by decide +kernel
theorem dX8_falls_122 : decode cX8_falls 122 = .ok (.iload_n 3, 1) := by decide +kernel
theorem dX8_falls_123 : decode cX8_falls 123 = .ok (.ifCond .ge 4, 3) := by decide +kernel
theorem dX8_falls_126 : decode cX8_falls 126 = .ok (.return_, 1) := by decide +kernel
theorem dX8_falls_127 : decode cX8_falls 127 = .ok (.aload_n 0, 1) := by decide +kernel
theorem dX8_falls_128 : decode cX8_falls 128 = .ok (.getfield 77, 3) := by decide +kernel
theorem dX8_falls_131 : decode cX8_falls 131 = .ok (.iload_n 3, 1) := by decide +kernel
theorem dX8_falls_132 : decode cX8_falls 132 = .ok (.iconst 1, 1) := by decide +kernel
theorem dX8_falls_133 : decode cX8_falls 133 = .ok (.bastore, 1) := by decide +kernel
theorem dX8_falls_134 : decode cX8_falls 134 = .ok (.aload_n 0, 1) := by decide +kernel
theorem dX8_falls_135 : decode cX8_falls 135 = .ok (.getfield 68, 3) := by decide +kernel
theorem dX8_falls_138 : decode cX8_falls 138 = .ok (.aload_n 0, 1) := by decide +kernel
theorem dX8_falls_139 : decode cX8_falls 139 = .ok (.getfield 119, 3) := by decide +kernel
theorem dX8_falls_142 : decode cX8_falls 142 = .ok (.iload_n 3, 1) := by decide +kernel
theorem dX8_falls_143 : decode cX8_falls 143 = .ok (.iastore, 1) := by decide +kernel
theorem dX8_falls_144 : decode cX8_falls 144 = .ok (.aload_n 0, 1) := by decide +kernel
theorem dX8_falls_145 : decode cX8_falls 145 = .ok (.getfield 71, 3) := by decide +kernel
theorem dX8_falls_148 : decode cX8_falls 148 = .ok (.aload_n 0, 1) := by decide +kernel
theorem dX8_falls_149 : decode cX8_falls 149 = .ok (.getfield 119, 3) := by decide +kernel
theorem dX8_falls_152 : decode cX8_falls 152 = .ok (.aload_n 0, 1) := by decide +kernel
theorem dX8_falls_153 : decode cX8_falls 153 = .ok (.getfield 20, 3) := by decide +kernel
theorem dX8_falls_156 : decode cX8_falls 156 = .ok (.iload_n 3, 1) := by decide +kernel
theorem dX8_falls_157 : decode cX8_falls 157 = .ok (.iaload, 1) := by decide +kernel
theorem dX8_falls_158 : decode cX8_falls 158 = .ok (.iastore, 1) := by decide +kernel
theorem dX8_falls_159 : decode cX8_falls 159 = .ok (.aload_n 0, 1) := by decide +kernel
theorem dX8_falls_160 : decode cX8_falls 160 = .ok (.getfield 74, 3) := by decide +kernel
theorem dX8_falls_163 : decode cX8_falls 163 = .ok (.aload_n 0, 1) := by decide +kernel
theorem dX8_falls_164 : decode cX8_falls 164 = .ok (.getfield 119, 3) := by decide +kernel
theorem dX8_falls_167 : decode cX8_falls 167 = .ok (.iload_n 2, 1) := by decide +kernel
theorem dX8_falls_168 : decode cX8_falls 168 = .ok (.iastore, 1) := by decide +kernel
theorem dX8_falls_169 : decode cX8_falls 169 = .ok (.aload_n 0, 1) := by decide +kernel
theorem dX8_falls_170 : decode cX8_falls 170 = .ok (.dup, 1) := by decide +kernel
theorem dX8_falls_171 : decode cX8_falls 171 = .ok (.getfield 119, 3) := by decide +kernel
theorem dX8_falls_174 : decode cX8_falls 174 = .ok (.iconst 1, 1) := by decide +kernel
theorem dX8_falls_175 : decode cX8_falls 175 = .ok (.iadd, 1) := by decide +kernel
theorem dX8_falls_176 : decode cX8_falls 176 = .ok (.putfield 119, 3) := by decide +kernel
theorem dX8_falls_179 : decode cX8_falls 179 = .ok (.aload_n 0, 1) := by decide +kernel
theorem dX8_falls_180 : decode cX8_falls 180 = .ok (.getfield 20, 3) := by decide +kernel
theorem dX8_falls_183 : decode cX8_falls 183 = .ok (.iload_n 3, 1) := by decide +kernel
theorem dX8_falls_184 : decode cX8_falls 184 = .ok (.iaload, 1) := by decide +kernel
theorem dX8_falls_185 : decode cX8_falls 185 = .ok (.istore 4, 2) := by decide +kernel
theorem dX8_falls_187 : decode cX8_falls 187 = .ok (.iload 4, 2) := by decide +kernel
theorem dX8_falls_189 : decode cX8_falls 189 = .ok (.ifCond .lt 11, 3) := by decide +kernel
theorem dX8_falls_192 : decode cX8_falls 192 = .ok (.aload_n 0, 1) := by decide +kernel
theorem dX8_falls_193 : decode cX8_falls 193 = .ok (.getfield 13, 3) := by decide +kernel
theorem dX8_falls_196 : decode cX8_falls 196 = .ok (.iload 4, 2) := by decide +kernel
theorem dX8_falls_198 : decode cX8_falls 198 = .ok (.iconst (-1), 1) := by decide +kernel
theorem dX8_falls_199 : decode cX8_falls 199 = .ok (.iastore, 1) := by decide +kernel
theorem dX8_falls_200 : decode cX8_falls 200 = .ok (.aload_n 0, 1) := by decide +kernel
theorem dX8_falls_201 : decode cX8_falls 201 = .ok (.getfield 13, 3) := by decide +kernel
theorem dX8_falls_204 : decode cX8_falls 204 = .ok (.iload_n 2, 1) := by decide +kernel
theorem dX8_falls_205 : decode cX8_falls 205 = .ok (.iload_n 3, 1) := by decide +kernel
theorem dX8_falls_206 : decode cX8_falls 206 = .ok (.iastore, 1) := by decide +kernel
theorem dX8_falls_207 : decode cX8_falls 207 = .ok (.aload_n 0, 1) := by decide +kernel
theorem dX8_falls_208 : decode cX8_falls 208 = .ok (.getfield 20, 3) := by decide +kernel
theorem dX8_falls_211 : decode cX8_falls 211 = .ok (.iload_n 3, 1) := by decide +kernel
theorem dX8_falls_212 : decode cX8_falls 212 = .ok (.iload_n 2, 1) := by decide +kernel
theorem dX8_falls_213 : decode cX8_falls 213 = .ok (.iastore, 1) := by decide +kernel
theorem dX8_falls_214 : decode cX8_falls 214 = .ok (.iload 4, 2) := by decide +kernel
theorem dX8_falls_216 : decode cX8_falls 216 = .ok (.istore_n 2, 1) := by decide +kernel
theorem dX8_falls_217 : decode cX8_falls 217 = .ok (.goto (-189), 3) := by decide +kernel
theorem dX8_falls_220 : decode cX8_falls 220 = .ok (.return_, 1) := by decide +kernel
set_option maxRecDepth 20000 in
theorem ggX8_stall_X8_in : GoodIn wsX8_stall wsX8_in := goodIn_sl _ [(8, 1)] rfl (by decide +kernel)
set_option maxRecDepth 20000 in
theorem gX8_stall_X8_in : GoodIn wsX8_stall (va_wsS RX8 108 yX8_in wsX8_in) := goodIn_app (goodIn_of _ (by decide +kernel)) ggX8_stall_X8_in
set_option maxRecDepth 20000 in
theorem ggX8_stall_X8_falls : GoodIn wsX8_stall wsX8_falls := goodIn_sl _ [(12, 7), (3, 1), (19, 3), (4, 1), (22, 51)] rfl (by decide +kernel)
set_option maxRecDepth 20000 in
theorem gX8_stall_X8_falls : GoodIn wsX8_stall (wsV RX8 125 RX8 yX8_falls wsX8_falls) := goodIn_app (goodIn_of _ (by decide +kernel)) ggX8_stall_X8_falls
theorem dX8_stall_0 : decode cX8_stall 0 = .ok (.aload_n 0, 1) := by decide +kernel
theorem dX8_stall_1 : decode cX8_stall 1 = .ok (.getfield 116, 3) := by decide +kernel
theorem dX8_stall_4 : decode cX8_stall 4 = .ok (.bipush 12, 2) := by decide +kernel
theorem dX8_stall_6 : decode cX8_stall 6 = .ok (.if_icmp .eq 24, 3) := by decide +kernel
theorem dX8_stall_9 : decode cX8_stall 9 = .ok (.aload_n 0, 1) := by decide +kernel
theorem dX8_stall_10 : decode cX8_stall 10 = .ok (.getfield 122, 3) := by decide +kernel
theorem dX8_stall_13 : decode cX8_stall 13 = .ok (.sipush 400, 3) := by decide +kernel
theorem dX8_stall_16 : decode cX8_stall 16 = .ok (.if_icmp .eq 14, 3) := by decide +kernel
theorem dX8_stall_19 : decode cX8_stall 19 = .ok (.iload_n 1, 1) := by decide +kernel
theorem dX8_stall_20 : decode cX8_stall 20 = .ok (.iconst 0, 1) := by decide +kernel
theorem dX8_stall_21 : decode cX8_stall 21 = .ok (.sipush 1000, 3) := by decide +kernel
theorem dX8_stall_24 : decode cX8_stall 24 = .ok (.invokestatic 108, 3) := by decide +kernel
theorem dX8_stall_27 : decode cX8_stall 27 = .ok (.ifCond .ne 5, 3) := by decide +kernel
theorem dX8_stall_30 : decode cX8_stall 30 = .ok (.iconst (-1), 1) := by decide +kernel
theorem dX8_stall_31 : decode cX8_stall 31 = .ok (.ireturn, 1) := by decide +kernel
theorem dX8_stall_32 : decode cX8_stall 32 = .ok (.aload_n 0, 1) := by decide +kernel
theorem dX8_stall_33 : decode cX8_stall 33 = .ok (.getfield 7, 3) := by decide +kernel
theorem dX8_stall_36 : decode cX8_stall 36 = .ok (.aload_n 0, 1) := by decide +kernel
theorem dX8_stall_37 : decode cX8_stall 37 = .ok (.getfield 116, 3) := by decide +kernel
theorem dX8_stall_40 : decode cX8_stall 40 = .ok (.iload_n 1, 1) := by decide +kernel
theorem dX8_stall_41 : decode cX8_stall 41 = .ok (.iastore, 1) := by decide +kernel
theorem dX8_stall_42 : decode cX8_stall 42 = .ok (.aload_n 0, 1) := by decide +kernel
theorem dX8_stall_43 : decode cX8_stall 43 = .ok (.getfield 13, 3) := by decide +kernel
theorem dX8_stall_46 : decode cX8_stall 46 = .ok (.aload_n 0, 1) := by decide +kernel
theorem dX8_stall_47 : decode cX8_stall 47 = .ok (.getfield 116, 3) := by decide +kernel
theorem dX8_stall_50 : decode cX8_stall 50 = .ok (.iconst (-1), 1) := by decide +kernel
theorem dX8_stall_51 : decode cX8_stall 51 = .ok (.iastore, 1) := by decide +kernel
theorem dX8_stall_52 : decode cX8_stall 52 = .ok (.aload_n 0, 1) := by decide +kernel
theorem dX8_stall_53 : decode cX8_stall 53 = .ok (.dup, 1) := by decide +kernel
theorem dX8_stall_54 : decode cX8_stall 54 = .ok (.getfield 116, 3) := by decide +kernel
theorem dX8_stall_57 : decode cX8_stall 57 = .ok (.iconst 1, 1) := by decide +kernel
theorem dX8_stall_58 : decode cX8_stall 58 = .ok (.iadd, 1) := by decide +kernel
theorem dX8_stall_59 : decode cX8_stall 59 = .ok (.putfield 116, 3) := by decide +kernel
theorem dX8_stall_62 : decode cX8_stall 62 = .ok (.aload_n 0, 1) := by decide +kernel
theorem dX8_stall_63 : decode cX8_stall 63 = .ok (.aload_n 0, 1) := by decide +kernel
theorem dX8_stall_64 : decode cX8_stall 64 = .ok (.getfield 116, 3) := by decide +kernel
theorem dX8_stall_67 : decode cX8_stall 67 = .ok (.iconst 1, 1) := by decide +kernel
theorem dX8_stall_68 : decode cX8_stall 68 = .ok (.isub, 1) := by decide +kernel
theorem dX8_stall_69 : decode cX8_stall 69 = .ok (.invokevirtual 125, 3) := by decide +kernel
theorem dX8_stall_72 : decode cX8_stall 72 = .ok (.aload_n 0, 1) := by decide +kernel
theorem dX8_stall_73 : decode cX8_stall 73 = .ok (.getfield 116, 3) := by decide +kernel
theorem dX8_stall_76 : decode cX8_stall 76 = .ok (.iconst 1, 1) := by decide +kernel
theorem dX8_stall_77 : decode cX8_stall 77 = .ok (.isub, 1) := by decide +kernel
theorem dX8_stall_78 : decode cX8_stall 78 = .ok (.ireturn, 1) := by decide +kernel
theorem dX8_canon_0 : decode cX8_canon 0 = .ok (.aload_n 0, 1) := by decide +kernel
theorem dX8_canon_1 : decode cX8_canon 1 = .ok (.getfield 112, 3) := by decide +kernel
theorem dX8_canon_4 : decode cX8_canon 4 = .ok (.bipush 20, 2) := by decide +kernel
theorem dX8_canon_6 : decode cX8_canon 6 = .ok (.if_icmp .eq 13, 3) := by decide +kernel
theorem dX8_canon_9 : decode cX8_canon 9 = .ok (.aload_n 0, 1) := by decide +kernel
theorem dX8_canon_10 : decode cX8_canon 10 = .ok (.getfield 122, 3) := by decide +kernel
theorem dX8_canon_13 : decode cX8_canon 13 = .ok (.sipush 400, 3) := by decide +kernel
theorem dX8_canon_16 : decode cX8_canon 16 = .ok (.if_icmp .ne 5, 3) := by decide +kernel
theorem dX8_canon_19 : decode cX8_canon 19 = .ok (.iconst (-1), 1) := by decide +kernel
theorem dX8_canon_20 : decode cX8_canon 20 = .ok (.ireturn, 1) := by decide +kernel
theorem dX8_canon_21 : decode cX8_canon 21 = .ok (.aload_n 0, 1) := by decide +kernel
theorem dX8_canon_22 : decode cX8_canon 22 = .ok (.getfield 16, 3) := by decide +kernel
theorem dX8_canon_25 : decode cX8_canon 25 = .ok (.aload_n 0, 1) := by decide +kernel
theorem dX8_canon_26 : decode cX8_canon 26 = .ok (.getfield 112, 3) := by decide +kernel
theorem dX8_canon_29 : decode cX8_canon 29 = .ok (.iconst 1, 1) := by decide +kernel
theorem dX8_canon_30 : decode cX8_canon 30 = .ok (.bastore, 1) := by decide +kernel
theorem dX8_canon_31 : decode cX8_canon 31 = .ok (.aload_n 0, 1) := by decide +kernel
theorem dX8_canon_32 : decode cX8_canon 32 = .ok (.getfield 20, 3) := by decide +kernel
theorem dX8_canon_35 : decode cX8_canon 35 = .ok (.aload_n 0, 1) := by decide +kernel
theorem dX8_canon_36 : decode cX8_canon 36 = .ok (.getfield 112, 3) := by decide +kernel
theorem dX8_canon_39 : decode cX8_canon 39 = .ok (.iconst (-1), 1) := by decide +kernel
theorem dX8_canon_40 : decode cX8_canon 40 = .ok (.iastore, 1) := by decide +kernel
theorem dX8_canon_41 : decode cX8_canon 41 = .ok (.aload_n 0, 1) := by decide +kernel
theorem dX8_canon_42 : decode cX8_canon 42 = .ok (.dup, 1) := by decide +kernel
theorem dX8_canon_43 : decode cX8_canon 43 = .ok (.getfield 112, 3) := by decide +kernel
theorem dX8_canon_46 : decode cX8_canon 46 = .ok (.iconst 1, 1) := by decide +kernel
theorem dX8_canon_47 : decode cX8_canon 47 = .ok (.iadd, 1) := by decide +kernel
theorem dX8_canon_48 : decode cX8_canon 48 = .ok (.putfield 112, 3) := by decide +kernel
theorem dX8_canon_51 : decode cX8_canon 51 = .ok (.aload_n 0, 1) := by decide +kernel
theorem dX8_canon_52 : decode cX8_canon 52 = .ok (.getfield 112, 3) := by decide +kernel
theorem dX8_canon_55 : decode cX8_canon 55 = .ok (.iconst 1, 1) := by decide +kernel
theorem dX8_canon_56 : decode cX8_canon 56 = .ok (.isub, 1) := by decide +kernel
theorem dX8_canon_57 : decode cX8_canon 57 = .ok (.ireturn, 1) := by decide +kernel
set_option maxRecDepth 20000 in
theorem ggX8_wish_X8_isCanon : GoodIn wsX8_wish wsX8_isCanon := goodIn_sl _ [(7, 4), (6, 1), (11, 1), (17, 51)] rfl (by decide +kernel)
set_option maxRecDepth 20000 in
theorem gX8_wish_X8_isCanon : GoodIn wsX8_wish (wsV RX8 129 RX8 yX8_isCanon wsX8_isCanon) := goodIn_app (goodIn_of _ (by decide +kernel)) ggX8_wish_X8_isCanon
set_option maxRecDepth 20000 in
theorem ggX8_wish_X8_isStall : GoodIn wsX8_wish wsX8_isStall := goodIn_sl _ [(15, 2), (9, 2), (6, 1), (11, 1), (17, 51)] rfl (by decide +kernel)
set_option maxRecDepth 20000 in
theorem gX8_wish_X8_isStall : GoodIn wsX8_wish (wsV RX8 133 RX8 yX8_isStall wsX8_isStall) := goodIn_app (goodIn_of _ (by decide +kernel)) ggX8_wish_X8_isStall
theorem dX8_wish_0 : decode cX8_wish 0 = .ok (.aload_n 0, 1) := by decide +kernel
theorem dX8_wish_1 : decode cX8_wish 1 = .ok (.iload_n 1, 1) := by decide +kernel
theorem dX8_wish_2 : decode cX8_wish 2 = .ok (.invokevirtual 129, 3) := by decide +kernel
theorem dX8_wish_5 : decode cX8_wish 5 = .ok (.ifCond .eq 36, 3) := by decide +kernel
theorem dX8_wish_8 : decode cX8_wish 8 = .ok (.aload_n 0, 1) := by decide +kernel
theorem dX8_wish_9 : decode cX8_wish 9 = .ok (.iload_n 2, 1) := by decide +kernel
theorem dX8_wish_10 : decode cX8_wish 10 = .ok (.invokevirtual 133, 3) := by decide +kernel
theorem dX8_wish_13 : decode cX8_wish 13 = .ok (.ifCond .eq 28, 3) := by decide +kernel
theorem dX8_wish_16 : decode cX8_wish 16 = .ok (.aload_n 0, 1) := by decide +kernel
theorem dX8_wish_17 : decode cX8_wish 17 = .ok (.getfield 122, 3) := by decide +kernel
theorem dX8_wish_20 : decode cX8_wish 20 = .ok (.sipush 400, 3) := by decide +kernel
theorem dX8_wish_23 : decode cX8_wish 23 = .ok (.if_icmp .eq 18, 3) := by decide +kernel
theorem dX8_wish_26 : decode cX8_wish 26 = .ok (.aload_n 0, 1) := by decide +kernel
theorem dX8_wish_27 : decode cX8_wish 27 = .ok (.getfield 23, 3) := by decide +kernel
theorem dX8_wish_30 : decode cX8_wish 30 = .ok (.bipush 12, 2) := by decide +kernel
theorem dX8_wish_32 : decode cX8_wish 32 = .ok (.iload_n 1, 1) := by decide +kernel
theorem dX8_wish_33 : decode cX8_wish 33 = .ok (.imul, 1) := by decide +kernel
theorem dX8_wish_34 : decode cX8_wish 34 = .ok (.iload_n 2, 1) := by decide +kernel
theorem dX8_wish_35 : decode cX8_wish 35 = .ok (.iadd, 1) := by decide +kernel
theorem dX8_wish_36 : decode cX8_wish 36 = .ok (.baload, 1) := by decide +kernel
theorem dX8_wish_37 : decode cX8_wish 37 = .ok (.iload_n 3, 1) := by decide +kernel
theorem dX8_wish_38 : decode cX8_wish 38 = .ok (.if_icmp .ne 5, 3) := by decide +kernel
theorem dX8_wish_41 : decode cX8_wish 41 = .ok (.iconst 0, 1) := by decide +kernel
theorem dX8_wish_42 : decode cX8_wish 42 = .ok (.ireturn, 1) := by decide +kernel
theorem dX8_wish_43 : decode cX8_wish 43 = .ok (.aload_n 0, 1) := by decide +kernel
theorem dX8_wish_44 : decode cX8_wish 44 = .ok (.getfield 23, 3) := by decide +kernel
theorem dX8_wish_47 : decode cX8_wish 47 = .ok (.bipush 12, 2) := by decide +kernel
theorem dX8_wish_49 : decode cX8_wish 49 = .ok (.iload_n 1, 1) := by decide +kernel
theorem dX8_wish_50 : decode cX8_wish 50 = .ok (.imul, 1) := by decide +kernel
theorem dX8_wish_51 : decode cX8_wish 51 = .ok (.iload_n 2, 1) := by decide +kernel
theorem dX8_wish_52 : decode cX8_wish 52 = .ok (.iadd, 1) := by decide +kernel
theorem dX8_wish_53 : decode cX8_wish 53 = .ok (.iload_n 3, 1) := by decide +kernel
theorem dX8_wish_54 : decode cX8_wish 54 = .ok (.bastore, 1) := by decide +kernel
theorem dX8_wish_55 : decode cX8_wish 55 = .ok (.iconst 1, 1) := by decide +kernel
theorem dX8_wish_56 : decode cX8_wish 56 = .ok (.ireturn, 1) := by decide +kernel
set_option maxRecDepth 20000 in
theorem ggX8_takes_X8_isCanon : GoodIn wsX8_takes wsX8_isCanon := goodIn_sl _ [(9, 4), (8, 1), (13, 1), (19, 51)] rfl (by decide +kernel)
set_option maxRecDepth 20000 in
theorem gX8_takes_X8_isCanon : GoodIn wsX8_takes (wsV RX8 129 RX8 yX8_isCanon wsX8_isCanon) := goodIn_app (goodIn_of _ (by decide +kernel)) ggX8_takes_X8_isCanon
set_option maxRecDepth 20000 in
theorem ggX8_takes_X8_isStall : GoodIn wsX8_takes wsX8_isStall := goodIn_sl _ [(17, 2), (11, 2), (8, 1), (13, 1), (19, 51)] rfl (by decide +kernel)
set_option maxRecDepth 20000 in
theorem gX8_takes_X8_isStall : GoodIn wsX8_takes (wsV RX8 133 RX8 yX8_isStall wsX8_isStall) := goodIn_app (goodIn_of _ (by decide +kernel)) ggX8_takes_X8_isStall
theorem dX8_takes_0 : decode cX8_takes 0 = .ok (.aload_n 0, 1) := by decide +kernel
theorem dX8_takes_1 : decode cX8_takes 1 = .ok (.iload_n 1, 1) := by decide +kernel
theorem dX8_takes_2 : decode cX8_takes 2 = .ok (.invokevirtual 129, 3) := by decide +kernel
theorem dX8_takes_5 : decode cX8_takes 5 = .ok (.ifCond .eq 48, 3) := by decide +kernel
theorem dX8_takes_8 : decode cX8_takes 8 = .ok (.aload_n 0, 1) := by decide +kernel
theorem dX8_takes_9 : decode cX8_takes 9 = .ok (.iload_n 2, 1) := by decide +kernel
theorem dX8_takes_10 : decode cX8_takes 10 = .ok (.invokevirtual 133, 3) := by decide +kernel
theorem dX8_takes_13 : decode cX8_takes 13 = .ok (.ifCond .eq 40, 3) := by decide +kernel
theorem dX8_takes_16 : decode cX8_takes 16 = .ok (.aload_n 0, 1) := by decide +kernel
theorem dX8_takes_17 : decode cX8_takes 17 = .ok (.getfield 122, 3) := by decide +kernel
theorem dX8_takes_20 : decode cX8_takes 20 = .ok (.sipush 400, 3) := by decide +kernel
theorem dX8_takes_23 : decode cX8_takes 23 = .ok (.if_icmp .eq 30, 3) := by decide +kernel
theorem dX8_takes_26 : decode cX8_takes 26 = .ok (.aload_n 0, 1) := by decide +kernel
theorem dX8_takes_27 : decode cX8_takes 27 = .ok (.getfield 16, 3) := by decide +kernel
theorem dX8_takes_30 : decode cX8_takes 30 = .ok (.iload_n 1, 1) := by decide +kernel
theorem dX8_takes_31 : decode cX8_takes 31 = .ok (.baload, 1) := by decide +kernel
theorem dX8_takes_32 : decode cX8_takes 32 = .ok (.ifCond .eq 21, 3) := by decide +kernel
theorem dX8_takes_35 : decode cX8_takes 35 = .ok (.aload_n 0, 1) := by decide +kernel
theorem dX8_takes_36 : decode cX8_takes 36 = .ok (.getfield 20, 3) := by decide +kernel
theorem dX8_takes_39 : decode cX8_takes 39 = .ok (.iload_n 1, 1) := by decide +kernel
theorem dX8_takes_40 : decode cX8_takes 40 = .ok (.iaload, 1) := by decide +kernel
theorem dX8_takes_41 : decode cX8_takes 41 = .ok (.ifCond .ge 12, 3) := by decide +kernel
theorem dX8_takes_44 : decode cX8_takes 44 = .ok (.aload_n 0, 1) := by decide +kernel
theorem dX8_takes_45 : decode cX8_takes 45 = .ok (.getfield 13, 3) := by decide +kernel
theorem dX8_takes_48 : decode cX8_takes 48 = .ok (.iload_n 2, 1) := by decide +kernel
theorem dX8_takes_49 : decode cX8_takes 49 = .ok (.iaload, 1) := by decide +kernel
theorem dX8_takes_50 : decode cX8_takes 50 = .ok (.ifCond .lt 5, 3) := by decide +kernel
theorem dX8_takes_53 : decode cX8_takes 53 = .ok (.iconst 0, 1) := by decide +kernel
theorem dX8_takes_54 : decode cX8_takes 54 = .ok (.ireturn, 1) := by decide +kernel
theorem dX8_takes_55 : decode cX8_takes 55 = .ok (.aload_n 0, 1) := by decide +kernel
theorem dX8_takes_56 : decode cX8_takes 56 = .ok (.getfield 20, 3) := by decide +kernel
theorem dX8_takes_59 : decode cX8_takes 59 = .ok (.iload_n 1, 1) := by decide +kernel
theorem dX8_takes_60 : decode cX8_takes 60 = .ok (.iload_n 2, 1) := by decide +kernel
theorem dX8_takes_61 : decode cX8_takes 61 = .ok (.iastore, 1) := by decide +kernel
theorem dX8_takes_62 : decode cX8_takes 62 = .ok (.aload_n 0, 1) := by decide +kernel
theorem dX8_takes_63 : decode cX8_takes 63 = .ok (.getfield 13, 3) := by decide +kernel
theorem dX8_takes_66 : decode cX8_takes 66 = .ok (.iload_n 2, 1) := by decide +kernel
theorem dX8_takes_67 : decode cX8_takes 67 = .ok (.iload_n 1, 1) := by decide +kernel
theorem dX8_takes_68 : decode cX8_takes 68 = .ok (.iastore, 1) := by decide +kernel
theorem dX8_takes_69 : decode cX8_takes 69 = .ok (.iconst 1, 1) := by decide +kernel
theorem dX8_takes_70 : decode cX8_takes 70 = .ok (.ireturn, 1) := by decide +kernel
set_option maxRecDepth 20000 in
theorem ggX8_leaves_X8_isCanon : GoodIn wsX8_leaves wsX8_isCanon := goodIn_sl _ [(10, 4), (9, 1), (14, 1), (32, 51)] rfl (by decide +kernel)
set_option maxRecDepth 20000 in
theorem gX8_leaves_X8_isCanon : GoodIn wsX8_leaves (wsV RX8 129 RX8 yX8_isCanon wsX8_isCanon) := goodIn_app (goodIn_of _ (by decide +kernel)) ggX8_leaves_X8_isCanon
set_option maxRecDepth 20000 in
theorem ggX8_leaves_X8_unvotes : GoodIn wsX8_leaves wsX8_unvotes := goodIn_sl _ [(18, 4), (11, 1), (32, 51)] rfl (by decide +kernel)
set_option maxRecDepth 20000 in
theorem gX8_leaves_X8_unvotes : GoodIn wsX8_leaves (wsV RX8 136 RX8 yX8_unvotes wsX8_unvotes) := goodIn_app (goodIn_of _ (by decide +kernel)) ggX8_leaves_X8_unvotes
set_option maxRecDepth 20000 in
theorem ggX8_leaves_X8_falls : GoodIn wsX8_leaves wsX8_falls := goodIn_sl _ [(25, 1), (5, 1), (26, 1), (11, 1), (2, 1), (27, 1), (3, 1), (28, 4), (4, 1), (32, 51)] rfl (by decide +kernel)
set_option maxRecDepth 20000 in
theorem gX8_leaves_X8_falls : GoodIn wsX8_leaves (wsV RX8 125 RX8 yX8_falls wsX8_falls) := goodIn_app (goodIn_of _ (by decide +kernel)) ggX8_leaves_X8_falls
theorem dX8_leaves_0 : decode cX8_leaves 0 = .ok (.aload_n 0, 1) := by decide +kernel
theorem dX8_leaves_1 : decode cX8_leaves 1 = .ok (.iload_n 1, 1) := by decide +kernel
theorem dX8_leaves_2 : decode cX8_leaves 2 = .ok (.invokevirtual 129, 3) := by decide +kernel
theorem dX8_leaves_5 : decode cX8_leaves 5 = .ok (.ifCond .eq 22, 3) := by decide +kernel
theorem dX8_leaves_8 : decode cX8_leaves 8 = .ok (.aload_n 0, 1) := by decide +kernel
theorem dX8_leaves_9 : decode cX8_leaves 9 = .ok (.getfield 122, 3) := by decide +kernel
theorem dX8_leaves_12 : decode cX8_leaves 12 = .ok (.sipush 400, 3) := by decide +kernel
theorem dX8_leaves_15 : decode cX8_leaves 15 = .ok (.if_icmp .eq 12, 3) := by decide +kernel
theorem dX8_leaves_18 : decode cX8_leaves 18 = .ok (.aload_n 0, 1) := by decide +kernel
theorem dX8_leaves_19 : decode cX8_leaves 19 = .ok (.getfield 16, 3) := by decide +kernel
theorem dX8_leaves_22 : decode cX8_leaves 22 = .ok (.iload_n 1, 1) := by decide +kernel
theorem dX8_leaves_23 : decode cX8_leaves 23 = .ok (.baload, 1) := by decide +kernel
theorem dX8_leaves_24 : decode cX8_leaves 24 = .ok (.ifCond .ne 5, 3) := by decide +kernel
theorem dX8_leaves_27 : decode cX8_leaves 27 = .ok (.iconst (-1), 1) := by decide +kernel
theorem dX8_leaves_28 : decode cX8_leaves 28 = .ok (.ireturn, 1) := by decide +kernel
theorem dX8_leaves_29 : decode cX8_leaves 29 = .ok (.aload_n 0, 1) := by decide +kernel
theorem dX8_leaves_30 : decode cX8_leaves 30 = .ok (.getfield 16, 3) := by decide +kernel
theorem dX8_leaves_33 : decode cX8_leaves 33 = .ok (.iload_n 1, 1) := by decide +kernel
theorem dX8_leaves_34 : decode cX8_leaves 34 = .ok (.iconst 0, 1) := by decide +kernel
theorem dX8_leaves_35 : decode cX8_leaves 35 = .ok (.bastore, 1) := by decide +kernel
theorem dX8_leaves_36 : decode cX8_leaves 36 = .ok (.aload_n 0, 1) := by decide +kernel
theorem dX8_leaves_37 : decode cX8_leaves 37 = .ok (.getfield 20, 3) := by decide +kernel
theorem dX8_leaves_40 : decode cX8_leaves 40 = .ok (.iload_n 1, 1) := by decide +kernel
theorem dX8_leaves_41 : decode cX8_leaves 41 = .ok (.iaload, 1) := by decide +kernel
theorem dX8_leaves_42 : decode cX8_leaves 42 = .ok (.istore_n 2, 1) := by decide +kernel
theorem dX8_leaves_43 : decode cX8_leaves 43 = .ok (.aload_n 0, 1) := by decide +kernel
theorem dX8_leaves_44 : decode cX8_leaves 44 = .ok (.getfield 20, 3) := by decide +kernel
theorem dX8_leaves_47 : decode cX8_leaves 47 = .ok (.iload_n 1, 1) := by decide +kernel
theorem dX8_leaves_48 : decode cX8_leaves 48 = .ok (.iconst (-1), 1) := by decide +kernel
theorem dX8_leaves_49 : decode cX8_leaves 49 = .ok (.iastore, 1) := by decide +kernel
theorem dX8_leaves_50 : decode cX8_leaves 50 = .ok (.aload_n 0, 1) := by decide +kernel
theorem dX8_leaves_51 : decode cX8_leaves 51 = .ok (.iload_n 1, 1) := by decide +kernel
theorem dX8_leaves_52 : decode cX8_leaves 52 = .ok (.invokevirtual 136, 3) := by decide +kernel
theorem dX8_leaves_55 : decode cX8_leaves 55 = .ok (.iload_n 2, 1) := by decide +kernel
theorem dX8_leaves_56 : decode cX8_leaves 56 = .ok (.ifCond .lt 10, 3) := by decide +kernel
theorem dX8_leaves_59 : decode cX8_leaves 59 = .ok (.aload_n 0, 1) := by decide +kernel
theorem dX8_leaves_60 : decode cX8_leaves 60 = .ok (.getfield 13, 3) := by decide +kernel
theorem dX8_leaves_63 : decode cX8_leaves 63 = .ok (.iload_n 2, 1) := by decide +kernel
theorem dX8_leaves_64 : decode cX8_leaves 64 = .ok (.iconst (-1), 1) := by decide +kernel
theorem dX8_leaves_65 : decode cX8_leaves 65 = .ok (.iastore, 1) := by decide +kernel
theorem dX8_leaves_66 : decode cX8_leaves 66 = .ok (.aload_n 0, 1) := by decide +kernel
theorem dX8_leaves_67 : decode cX8_leaves 67 = .ok (.iload_n 2, 1) := by decide +kernel
theorem dX8_leaves_68 : decode cX8_leaves 68 = .ok (.invokevirtual 125, 3) := by decide +kernel
theorem dX8_leaves_71 : decode cX8_leaves 71 = .ok (.aload_n 0, 1) := by decide +kernel
theorem dX8_leaves_72 : decode cX8_leaves 72 = .ok (.getfield 119, 3) := by decide +kernel
theorem dX8_leaves_75 : decode cX8_leaves 75 = .ok (.ireturn, 1) := by decide +kernel
set_option maxRecDepth 20000 in
theorem ggX8_moved_X8_in : GoodIn wsX8_moved wsX8_in := goodIn_sl _ [(8, 1)] rfl (by decide +kernel)
set_option maxRecDepth 20000 in
theorem gX8_moved_X8_in : GoodIn wsX8_moved (va_wsS RX8 108 yX8_in wsX8_in) := goodIn_app (goodIn_of _ (by decide +kernel)) ggX8_moved_X8_in
theorem dX8_moved_0 : decode cX8_moved 0 = .ok (.iload_n 1, 1) := by decide +kernel
theorem dX8_moved_1 : decode cX8_moved 1 = .ok (.iconst 0, 1) := by decide +kernel
theorem dX8_moved_2 : decode cX8_moved 2 = .ok (.aload_n 0, 1) := by decide +kernel
theorem dX8_moved_3 : decode cX8_moved 3 = .ok (.getfield 119, 3) := by decide +kernel
theorem dX8_moved_6 : decode cX8_moved 6 = .ok (.iconst 1, 1) := by decide +kernel
theorem dX8_moved_7 : decode cX8_moved 7 = .ok (.isub, 1) := by decide +kernel
theorem dX8_moved_8 : decode cX8_moved 8 = .ok (.invokestatic 108, 3) := by decide +kernel
theorem dX8_moved_11 : decode cX8_moved 11 = .ok (.ifCond .ne 5, 3) := by decide +kernel
theorem dX8_moved_14 : decode cX8_moved 14 = .ok (.iconst (-1), 1) := by decide +kernel
theorem dX8_moved_15 : decode cX8_moved 15 = .ok (.ireturn, 1) := by decide +kernel
theorem dX8_moved_16 : decode cX8_moved 16 = .ok (.iload_n 2, 1) := by decide +kernel
theorem dX8_moved_17 : decode cX8_moved 17 = .ok (.ifCond .ne 12, 3) := by decide +kernel
theorem dX8_moved_20 : decode cX8_moved 20 = .ok (.aload_n 0, 1) := by decide +kernel
theorem dX8_moved_21 : decode cX8_moved 21 = .ok (.getfield 68, 3) := by decide +kernel
theorem dX8_moved_24 : decode cX8_moved 24 = .ok (.iload_n 1, 1) := by decide +kernel
theorem dX8_moved_25 : decode cX8_moved 25 = .ok (.iaload, 1) := by decide +kernel
theorem dX8_moved_26 : decode cX8_moved 26 = .ok (.goto 32, 3) := by decide +kernel
theorem dX8_moved_29 : decode cX8_moved 29 = .ok (.iload_n 2, 1) := by decide +kernel
theorem dX8_moved_30 : decode cX8_moved 30 = .ok (.iconst 1, 1) := by decide +kernel
theorem dX8_moved_31 : decode cX8_moved 31 = .ok (.if_icmp .ne 12, 3) := by decide +kernel
theorem dX8_moved_34 : decode cX8_moved 34 = .ok (.aload_n 0, 1) := by decide +kernel
theorem dX8_moved_35 : decode cX8_moved 35 = .ok (.getfield 71, 3) := by decide +kernel
theorem dX8_moved_38 : decode cX8_moved 38 = .ok (.iload_n 1, 1) := by decide +kernel
theorem dX8_moved_39 : decode cX8_moved 39 = .ok (.iaload, 1) := by decide +kernel
theorem dX8_moved_40 : decode cX8_moved 40 = .ok (.goto 18, 3) := by decide +kernel
theorem dX8_moved_43 : decode cX8_moved 43 = .ok (.iload_n 2, 1) := by decide +kernel
theorem dX8_moved_44 : decode cX8_moved 44 = .ok (.iconst 2, 1) := by decide +kernel
theorem dX8_moved_45 : decode cX8_moved 45 = .ok (.if_icmp .ne 12, 3) := by decide +kernel
theorem dX8_moved_48 : decode cX8_moved 48 = .ok (.aload_n 0, 1) := by decide +kernel
theorem dX8_moved_49 : decode cX8_moved 49 = .ok (.getfield 74, 3) := by decide +kernel
theorem dX8_moved_52 : decode cX8_moved 52 = .ok (.iload_n 1, 1) := by decide +kernel
theorem dX8_moved_53 : decode cX8_moved 53 = .ok (.iaload, 1) := by decide +kernel
theorem dX8_moved_54 : decode cX8_moved 54 = .ok (.goto 4, 3) := by decide +kernel
theorem dX8_moved_57 : decode cX8_moved 57 = .ok (.iconst (-1), 1) := by decide +kernel
theorem dX8_moved_58 : decode cX8_moved 58 = .ok (.ireturn, 1) := by decide +kernel
set_option maxRecDepth 20000 in
theorem ggX8_mark_X8_isCanon : GoodIn wsX8_mark wsX8_isCanon := goodIn_sl _ [(12, 4), (11, 1), (16, 52)] rfl (by decide +kernel)
set_option maxRecDepth 20000 in
theorem gX8_mark_X8_isCanon : GoodIn wsX8_mark (wsV RX8 129 RX8 yX8_isCanon wsX8_isCanon) := goodIn_app (goodIn_of _ (by decide +kernel)) ggX8_mark_X8_isCanon
set_option maxRecDepth 20000 in
theorem ggX8_mark_X8_in : GoodIn wsX8_mark wsX8_in := goodIn_sl _ [(16, 1)] rfl (by decide +kernel)
set_option maxRecDepth 20000 in
theorem gX8_mark_X8_in : GoodIn wsX8_mark (va_wsS RX8 108 yX8_in wsX8_in) := goodIn_app (goodIn_of _ (by decide +kernel)) ggX8_mark_X8_in
theorem dX8_mark_0 : decode cX8_mark 0 = .ok (.aload_n 0, 1) := by decide +kernel
theorem dX8_mark_1 : decode cX8_mark 1 = .ok (.getfield 139, 3) := by decide +kernel
theorem dX8_mark_4 : decode cX8_mark 4 = .ok (.sipush 400, 3) := by decide +kernel
theorem dX8_mark_7 : decode cX8_mark 7 = .ok (.if_icmp .eq 53, 3) := by decide +kernel
theorem dX8_mark_10 : decode cX8_mark 10 = .ok (.aload_n 0, 1) := by decide +kernel
theorem dX8_mark_11 : decode cX8_mark 11 = .ok (.getfield 122, 3) := by decide +kernel
theorem dX8_mark_14 : decode cX8_mark 14 = .ok (.sipush 400, 3) := by decide +kernel
theorem dX8_mark_17 : decode cX8_mark 17 = .ok (.if_icmp .eq 43, 3) := by decide +kernel
theorem dX8_mark_20 : decode cX8_mark 20 = .ok (.aload_n 0, 1) := by decide +kernel
theorem dX8_mark_21 : decode cX8_mark 21 = .ok (.iload_n 1, 1) := by decide +kernel
theorem dX8_mark_22 : decode cX8_mark 22 = .ok (.invokevirtual 129, 3) := by decide +kernel
theorem dX8_mark_25 : decode cX8_mark 25 = .ok (.ifCond .eq 35, 3) := by decide +kernel
theorem dX8_mark_28 : decode cX8_mark 28 = .ok (.iload_n 2, 1) := by decide +kernel
theorem dX8_mark_29 : decode cX8_mark 29 = .ok (.iconst 0, 1) := by decide +kernel
theorem dX8_mark_30 : decode cX8_mark 30 = .ok (.aload_n 0, 1) := by decide +kernel
theorem dX8_mark_31 : decode cX8_mark 31 = .ok (.getfield 122, 3) := by decide +kernel
theorem dX8_mark_34 : decode cX8_mark 34 = .ok (.invokestatic 108, 3) := by decide +kernel
theorem dX8_mark_37 : decode cX8_mark 37 = .ok (.ifCond .eq 23, 3) := by decide +kernel
theorem dX8_mark_40 : decode cX8_mark 40 = .ok (.iload_n 3, 1) := by decide +kernel
theorem dX8_mark_41 : decode cX8_mark 41 = .ok (.iconst 0, 1) := by decide +kernel
theorem dX8_mark_42 : decode cX8_mark 42 = .ok (.bipush 6, 2) := by decide +kernel
theorem dX8_mark_44 : decode cX8_mark 44 = .ok (.invokestatic 108, 3) := by decide +kernel
theorem dX8_mark_47 : decode cX8_mark 47 = .ok (.ifCond .eq 13, 3) := by decide +kernel
theorem dX8_mark_50 : decode cX8_mark 50 = .ok (.iload 4, 2) := by decide +kernel
theorem dX8_mark_52 : decode cX8_mark 52 = .ok (.iconst 0, 1) := by decide +kernel
theorem dX8_mark_53 : decode cX8_mark 53 = .ok (.iconst 4, 1) := by decide +kernel
theorem dX8_mark_54 : decode cX8_mark 54 = .ok (.invokestatic 108, 3) := by decide +kernel
theorem dX8_mark_57 : decode cX8_mark 57 = .ok (.ifCond .ne 5, 3) := by decide +kernel
theorem dX8_mark_60 : decode cX8_mark 60 = .ok (.iconst (-1), 1) := by decide +kernel
theorem dX8_mark_61 : decode cX8_mark 61 = .ok (.ireturn, 1) := by decide +kernel
theorem dX8_mark_62 : decode cX8_mark 62 = .ok (.aload_n 0, 1) := by decide +kernel
theorem dX8_mark_63 : decode cX8_mark 63 = .ok (.getfield 32, 3) := by decide +kernel
theorem dX8_mark_66 : decode cX8_mark 66 = .ok (.aload_n 0, 1) := by decide +kernel
theorem dX8_mark_67 : decode cX8_mark 67 = .ok (.getfield 139, 3) := by decide +kernel
theorem dX8_mark_70 : decode cX8_mark 70 = .ok (.iload_n 1, 1) := by decide +kernel
theorem dX8_mark_71 : decode cX8_mark 71 = .ok (.iastore, 1) := by decide +kernel
theorem dX8_mark_72 : decode cX8_mark 72 = .ok (.aload_n 0, 1) := by decide +kernel
theorem dX8_mark_73 : decode cX8_mark 73 = .ok (.getfield 35, 3) := by decide +kernel
theorem dX8_mark_76 : decode cX8_mark 76 = .ok (.aload_n 0, 1) := by decide +kernel
theorem dX8_mark_77 : decode cX8_mark 77 = .ok (.getfield 139, 3) := by decide +kernel
theorem dX8_mark_80 : decode cX8_mark 80 = .ok (.iload_n 2, 1) := by decide +kernel
theorem dX8_mark_81 : decode cX8_mark 81 = .ok (.iastore, 1) := by decide +kernel
theorem dX8_mark_82 : decode cX8_mark 82 = .ok (.aload_n 0, 1) := by decide +kernel
theorem dX8_mark_83 : decode cX8_mark 83 = .ok (.getfield 38, 3) := by decide +kernel
theorem dX8_mark_86 : decode cX8_mark 86 = .ok (.aload_n 0, 1) := by decide +kernel
theorem dX8_mark_87 : decode cX8_mark 87 = .ok (.getfield 139, 3) := by decide +kernel
theorem dX8_mark_90 : decode cX8_mark 90 = .ok (.iload_n 3, 1) := by decide +kernel
theorem dX8_mark_91 : decode cX8_mark 91 = .ok (.iastore, 1) := by decide +kernel
theorem dX8_mark_92 : decode cX8_mark 92 = .ok (.aload_n 0, 1) := by decide +kernel
theorem dX8_mark_93 : decode cX8_mark 93 = .ok (.getfield 41, 3) := by decide +kernel
theorem dX8_mark_96 : decode cX8_mark 96 = .ok (.aload_n 0, 1) := by decide +kernel
theorem dX8_mark_97 : decode cX8_mark 97 = .ok (.getfield 139, 3) := by decide +kernel
theorem dX8_mark_100 : decode cX8_mark 100 = .ok (.iload 4, 2) := by decide +kernel
theorem dX8_mark_102 : decode cX8_mark 102 = .ok (.iastore, 1) := by decide +kernel
theorem dX8_mark_103 : decode cX8_mark 103 = .ok (.aload_n 0, 1) := by decide +kernel
theorem dX8_mark_104 : decode cX8_mark 104 = .ok (.getfield 44, 3) := by decide +kernel
theorem dX8_mark_107 : decode cX8_mark 107 = .ok (.aload_n 0, 1) := by decide +kernel
theorem dX8_mark_108 : decode cX8_mark 108 = .ok (.getfield 139, 3) := by decide +kernel
theorem dX8_mark_111 : decode cX8_mark 111 = .ok (.aload_n 0, 1) := by decide +kernel
theorem dX8_mark_112 : decode cX8_mark 112 = .ok (.getfield 122, 3) := by decide +kernel
theorem dX8_mark_115 : decode cX8_mark 115 = .ok (.iastore, 1) := by decide +kernel
theorem dX8_mark_116 : decode cX8_mark 116 = .ok (.aload_n 0, 1) := by decide +kernel
theorem dX8_mark_117 : decode cX8_mark 117 = .ok (.dup, 1) := by decide +kernel
theorem dX8_mark_118 : decode cX8_mark 118 = .ok (.getfield 139, 3) := by decide +kernel
theorem dX8_mark_121 : decode cX8_mark 121 = .ok (.iconst 1, 1) := by decide +kernel
theorem dX8_mark_122 : decode cX8_mark 122 = .ok (.iadd, 1) := by decide +kernel
theorem dX8_mark_123 : decode cX8_mark 123 = .ok (.putfield 139, 3) := by decide +kernel
theorem dX8_mark_126 : decode cX8_mark 126 = .ok (.aload_n 0, 1) := by decide +kernel
theorem dX8_mark_127 : decode cX8_mark 127 = .ok (.getfield 139, 3) := by decide +kernel
theorem dX8_mark_130 : decode cX8_mark 130 = .ok (.ireturn, 1) := by decide +kernel
set_option maxRecDepth 20000 in
theorem ggX8_box_X8_in : GoodIn wsX8_box wsX8_in := goodIn_sl _ [(8, 1)] rfl (by decide +kernel)
set_option maxRecDepth 20000 in
theorem gX8_box_X8_in : GoodIn wsX8_box (va_wsS RX8 108 yX8_in wsX8_in) := goodIn_app (goodIn_of _ (by decide +kernel)) ggX8_box_X8_in
theorem dX8_box_0 : decode cX8_box 0 = .ok (.aload_n 0, 1) := by decide +kernel
theorem dX8_box_1 : decode cX8_box 1 = .ok (.getfield 122, 3) := by decide +kernel
theorem dX8_box_4 : decode cX8_box 4 = .ok (.sipush 400, 3) := by decide +kernel
theorem dX8_box_7 : decode cX8_box 7 = .ok (.if_icmp .eq 36, 3) := by decide +kernel
theorem dX8_box_10 : decode cX8_box 10 = .ok (.iload_n 1, 1) := by decide +kernel
theorem dX8_box_11 : decode cX8_box 11 = .ok (.aload_n 0, 1) := by decide +kernel
theorem dX8_box_12 : decode cX8_box 12 = .ok (.getfield 122, 3) := by decide +kernel
theorem dX8_box_15 : decode cX8_box 15 = .ok (.sipush 399, 3) := by decide +kernel
theorem dX8_box_18 : decode cX8_box 18 = .ok (.invokestatic 108, 3) := by decide +kernel
theorem dX8_box_21 : decode cX8_box 21 = .ok (.ifCond .eq 22, 3) := by decide +kernel
theorem dX8_box_24 : decode cX8_box 24 = .ok (.aload_n 0, 1) := by decide +kernel
theorem dX8_box_25 : decode cX8_box 25 = .ok (.getfield 50, 3) := by decide +kernel
theorem dX8_box_28 : decode cX8_box 28 = .ok (.iload_n 1, 1) := by decide +kernel
theorem dX8_box_29 : decode cX8_box 29 = .ok (.baload, 1) := by decide +kernel
theorem dX8_box_30 : decode cX8_box 30 = .ok (.ifCond .ne 13, 3) := by decide +kernel
theorem dX8_box_33 : decode cX8_box 33 = .ok (.iload_n 2, 1) := by decide +kernel
theorem dX8_box_34 : decode cX8_box 34 = .ok (.iconst 0, 1) := by decide +kernel
theorem dX8_box_35 : decode cX8_box 35 = .ok (.ldc 142, 2) := by decide +kernel
theorem dX8_box_37 : decode cX8_box 37 = .ok (.invokestatic 108, 3) := by decide +kernel
theorem dX8_box_40 : decode cX8_box 40 = .ok (.ifCond .ne 5, 3) := by decide +kernel
theorem dX8_box_43 : decode cX8_box 43 = .ok (.iconst 0, 1) := by decide +kernel
theorem dX8_box_44 : decode cX8_box 44 = .ok (.ireturn, 1) := by decide +kernel
theorem dX8_box_45 : decode cX8_box 45 = .ok (.aload_n 0, 1) := by decide +kernel
theorem dX8_box_46 : decode cX8_box 46 = .ok (.getfield 50, 3) := by decide +kernel
theorem dX8_box_49 : decode cX8_box 49 = .ok (.iload_n 1, 1) := by decide +kernel
theorem dX8_box_50 : decode cX8_box 50 = .ok (.iconst 1, 1) := by decide +kernel
theorem dX8_box_51 : decode cX8_box 51 = .ok (.bastore, 1) := by decide +kernel
theorem dX8_box_52 : decode cX8_box 52 = .ok (.aload_n 0, 1) := by decide +kernel
theorem dX8_box_53 : decode cX8_box 53 = .ok (.getfield 47, 3) := by decide +kernel
theorem dX8_box_56 : decode cX8_box 56 = .ok (.iload_n 1, 1) := by decide +kernel
theorem dX8_box_57 : decode cX8_box 57 = .ok (.iload_n 2, 1) := by decide +kernel
theorem dX8_box_58 : decode cX8_box 58 = .ok (.iastore, 1) := by decide +kernel
theorem dX8_box_59 : decode cX8_box 59 = .ok (.iconst 1, 1) := by decide +kernel
theorem dX8_box_60 : decode cX8_box 60 = .ok (.ireturn, 1) := by decide +kernel
theorem dX8_markAt_0 : decode cX8_markAt 0 = .ok (.iconst 0, 1) := by decide +kernel
theorem dX8_markAt_1 : decode cX8_markAt 1 = .ok (.istore 5, 2) := by decide +kernel
theorem dX8_markAt_3 : decode cX8_markAt 3 = .ok (.iconst 0, 1) := by decide +kernel
theorem dX8_markAt_4 : decode cX8_markAt 4 = .ok (.istore 6, 2) := by decide +kernel
theorem dX8_markAt_6 : decode cX8_markAt 6 = .ok (.iload 6, 2) := by decide +kernel
theorem dX8_markAt_8 : decode cX8_markAt 8 = .ok (.aload_n 0, 1) := by decide +kernel
theorem dX8_markAt_9 : decode cX8_markAt 9 = .ok (.getfield 139, 3) := by decide +kernel
theorem dX8_markAt_12 : decode cX8_markAt 12 = .ok (.if_icmp .ge 63, 3) := by decide +kernel
theorem dX8_markAt_15 : decode cX8_markAt 15 = .ok (.aload_n 0, 1) := by decide +kernel
theorem dX8_markAt_16 : decode cX8_markAt 16 = .ok (.getfield 32, 3) := by decide +kernel
theorem dX8_markAt_19 : decode cX8_markAt 19 = .ok (.iload 6, 2) := by decide +kernel
theorem dX8_markAt_21 : decode cX8_markAt 21 = .ok (.iaload, 1) := by decide +kernel
theorem dX8_markAt_22 : decode cX8_markAt 22 = .ok (.iload_n 1, 1) := by decide +kernel
theorem dX8_markAt_23 : decode cX8_markAt 23 = .ok (.if_icmp .ne 46, 3) := by decide +kernel
theorem dX8_markAt_26 : decode cX8_markAt 26 = .ok (.aload_n 0, 1) := by decide +kernel
theorem dX8_markAt_27 : decode cX8_markAt 27 = .ok (.getfield 35, 3) := by decide +kernel
theorem dX8_markAt_30 : decode cX8_markAt 30 = .ok (.iload 6, 2) := by decide +kernel
theorem dX8_markAt_32 : decode cX8_markAt 32 = .ok (.iaload, 1) := by decide +kernel
theorem dX8_markAt_33 : decode cX8_markAt 33 = .ok (.iload_n 2, 1) := by decide +kernel
theorem dX8_markAt_34 : decode cX8_markAt 34 = .ok (.if_icmp .ne 35, 3) := by decide +kernel
theorem dX8_markAt_37 : decode cX8_markAt 37 = .ok (.aload_n 0, 1) := by decide +kernel
theorem dX8_markAt_38 : decode cX8_markAt 38 = .ok (.getfield 38, 3) := by decide +kernel
theorem dX8_markAt_41 : decode cX8_markAt 41 = .ok (.iload 6, 2) := by decide +kernel
theorem dX8_markAt_43 : decode cX8_markAt 43 = .ok (.iaload, 1) := by decide +kernel
theorem dX8_markAt_44 : decode cX8_markAt 44 = .ok (.iload_n 3, 1) := by decide +kernel
theorem dX8_markAt_45 : decode cX8_markAt 45 = .ok (.if_icmp .ne 24, 3) := by decide +kernel
theorem dX8_markAt_48 : decode cX8_markAt 48 = .ok (.aload_n 0, 1) := by decide +kernel
theorem dX8_markAt_49 : decode cX8_markAt 49 = .ok (.getfield 44, 3) := by decide +kernel
theorem dX8_markAt_52 : decode cX8_markAt 52 = .ok (.iload 6, 2) := by decide +kernel
theorem dX8_markAt_54 : decode cX8_markAt 54 = .ok (.iaload, 1) := by decide +kernel
theorem dX8_markAt_55 : decode cX8_markAt 55 = .ok (.iload 4, 2) := by decide +kernel
theorem dX8_markAt_57 : decode cX8_markAt 57 = .ok (.if_icmp .gt 12, 3) := by decide +kernel
theorem dX8_markAt_60 : decode cX8_markAt 60 = .ok (.aload_n 0, 1) := by decide +kernel
theorem dX8_markAt_61 : decode cX8_markAt 61 = .ok (.getfield 41, 3) := by decide +kernel
theorem dX8_markAt_64 : decode cX8_markAt 64 = .ok (.iload 6, 2) := by decide +kernel
theorem dX8_markAt_66 : decode cX8_markAt 66 = .ok (.iaload, 1) := by decide +kernel
theorem dX8_markAt_67 : decode cX8_markAt 67 = .ok (.istore 5, 2) := by decide +kernel
theorem dX8_markAt_69 : decode cX8_markAt 69 = .ok (.iinc 6 1, 3) := by decide +kernel
theorem dX8_markAt_72 : decode cX8_markAt 72 = .ok (.goto (-66), 3) := by decide +kernel
theorem dX8_markAt_75 : decode cX8_markAt 75 = .ok (.iload 5, 2) := by decide +kernel
theorem dX8_markAt_77 : decode cX8_markAt 77 = .ok (.ireturn, 1) := by decide +kernel
set_option maxRecDepth 20000 in
theorem ggX8_marked_X8_isCanon : GoodIn wsX8_marked wsX8_isCanon := goodIn_sl _ [(5, 4), (4, 1), (9, 1), (23, 51)] rfl (by decide +kernel)
set_option maxRecDepth 20000 in
theorem gX8_marked_X8_isCanon : GoodIn wsX8_marked (wsV RX8 129 RX8 yX8_isCanon wsX8_isCanon) := goodIn_app (goodIn_of _ (by decide +kernel)) ggX8_marked_X8_isCanon
set_option maxRecDepth 20000 in
theorem ggX8_marked_X8_isDay : GoodIn wsX8_marked wsX8_isDay := goodIn_sl _ [(12, 1), (7, 2), (4, 1), (9, 1)] rfl (by decide +kernel)
set_option maxRecDepth 20000 in
theorem gX8_marked_X8_isDay : GoodIn wsX8_marked (va_wsS RX8 143 yX8_isDay wsX8_isDay) := goodIn_app (goodIn_of _ (by decide +kernel)) ggX8_marked_X8_isDay
set_option maxRecDepth 20000 in
theorem ggX8_marked_X8_in : GoodIn wsX8_marked wsX8_in := goodIn_sl _ [(9, 1)] rfl (by decide +kernel)
set_option maxRecDepth 20000 in
theorem gX8_marked_X8_in : GoodIn wsX8_marked (va_wsS RX8 108 yX8_in wsX8_in) := goodIn_app (goodIn_of _ (by decide +kernel)) ggX8_marked_X8_in
set_option maxRecDepth 20000 in
theorem ggX8_marked_X8_markAt : GoodIn wsX8_marked wsX8_markAt := goodIn_sl _ [(16, 58)] rfl (by decide +kernel)
set_option maxRecDepth 20000 in
theorem gX8_marked_X8_markAt : GoodIn wsX8_marked (wsV RX8 146 RX8 yX8_markAt wsX8_markAt) := goodIn_app (goodIn_of _ (by decide +kernel)) ggX8_marked_X8_markAt
theorem dX8_marked_0 : decode cX8_marked 0 = .ok (.aload_n 0, 1) := by decide +kernel
theorem dX8_marked_1 : decode cX8_marked 1 = .ok (.iload_n 1, 1) := by decide +kernel
theorem dX8_marked_2 : decode cX8_marked 2 = .ok (.invokevirtual 129, 3) := by decide +kernel
theorem dX8_marked_5 : decode cX8_marked 5 = .ok (.ifCond .eq 40, 3) := by decide +kernel
theorem dX8_marked_8 : decode cX8_marked 8 = .ok (.iload_n 2, 1) := by decide +kernel
theorem dX8_marked_9 : decode cX8_marked 9 = .ok (.invokestatic 143, 3) := by decide +kernel
theorem dX8_marked_12 : decode cX8_marked 12 = .ok (.ifCond .eq 33, 3) := by decide +kernel
theorem dX8_marked_15 : decode cX8_marked 15 = .ok (.iload_n 3, 1) := by decide +kernel
theorem dX8_marked_16 : decode cX8_marked 16 = .ok (.iconst 0, 1) := by decide +kernel
theorem dX8_marked_17 : decode cX8_marked 17 = .ok (.bipush 6, 2) := by decide +kernel
theorem dX8_marked_19 : decode cX8_marked 19 = .ok (.invokestatic 108, 3) := by decide +kernel
theorem dX8_marked_22 : decode cX8_marked 22 = .ok (.ifCond .eq 23, 3) := by decide +kernel
theorem dX8_marked_25 : decode cX8_marked 25 = .ok (.iload 4, 2) := by decide +kernel
theorem dX8_marked_27 : decode cX8_marked 27 = .ok (.invokestatic 143, 3) := by decide +kernel
theorem dX8_marked_30 : decode cX8_marked 30 = .ok (.ifCond .eq 15, 3) := by decide +kernel
theorem dX8_marked_33 : decode cX8_marked 33 = .ok (.aload_n 0, 1) := by decide +kernel
theorem dX8_marked_34 : decode cX8_marked 34 = .ok (.iload_n 1, 1) := by decide +kernel
theorem dX8_marked_35 : decode cX8_marked 35 = .ok (.iload_n 2, 1) := by decide +kernel
theorem dX8_marked_36 : decode cX8_marked 36 = .ok (.iload_n 3, 1) := by decide +kernel
theorem dX8_marked_37 : decode cX8_marked 37 = .ok (.iload 4, 2) := by decide +kernel
theorem dX8_marked_39 : decode cX8_marked 39 = .ok (.invokevirtual 146, 3) := by decide +kernel
theorem dX8_marked_42 : decode cX8_marked 42 = .ok (.goto 4, 3) := by decide +kernel
theorem dX8_marked_45 : decode cX8_marked 45 = .ok (.iconst (-1), 1) := by decide +kernel
theorem dX8_marked_46 : decode cX8_marked 46 = .ok (.ireturn, 1) := by decide +kernel
theorem dX8_actAt_0 : decode cX8_actAt 0 = .ok (.iconst (-1), 1) := by decide +kernel
theorem dX8_actAt_1 : decode cX8_actAt 1 = .ok (.istore_n 3, 1) := by decide +kernel
theorem dX8_actAt_2 : decode cX8_actAt 2 = .ok (.iconst 0, 1) := by decide +kernel
theorem dX8_actAt_3 : decode cX8_actAt 3 = .ok (.istore 4, 2) := by decide +kernel
theorem dX8_actAt_5 : decode cX8_actAt 5 = .ok (.iload 4, 2) := by decide +kernel
theorem dX8_actAt_7 : decode cX8_actAt 7 = .ok (.aload_n 0, 1) := by decide +kernel
theorem dX8_actAt_8 : decode cX8_actAt 8 = .ok (.getfield 150, 3) := by decide +kernel
theorem dX8_actAt_11 : decode cX8_actAt 11 = .ok (.if_icmp .ge 78, 3) := by decide +kernel
theorem dX8_actAt_14 : decode cX8_actAt 14 = .ok (.aload_n 0, 1) := by decide +kernel
theorem dX8_actAt_15 : decode cX8_actAt 15 = .ok (.getfield 62, 3) := by decide +kernel
theorem dX8_actAt_18 : decode cX8_actAt 18 = .ok (.iload 4, 2) := by decide +kernel
theorem dX8_actAt_20 : decode cX8_actAt 20 = .ok (.iaload, 1) := by decide +kernel
theorem dX8_actAt_21 : decode cX8_actAt 21 = .ok (.iload_n 2, 1) := by decide +kernel
theorem dX8_actAt_22 : decode cX8_actAt 22 = .ok (.if_icmp .gt 61, 3) := by decide +kernel
theorem dX8_actAt_25 : decode cX8_actAt 25 = .ok (.aload_n 0, 1) := by decide +kernel
theorem dX8_actAt_26 : decode cX8_actAt 26 = .ok (.getfield 65, 3) := by decide +kernel
theorem dX8_actAt_29 : decode cX8_actAt 29 = .ok (.iload 4, 2) := by decide +kernel
theorem dX8_actAt_31 : decode cX8_actAt 31 = .ok (.iaload, 1) := by decide +kernel
theorem dX8_actAt_32 : decode cX8_actAt 32 = .ok (.ifCond .lt 14, 3) := by decide +kernel
theorem dX8_actAt_35 : decode cX8_actAt 35 = .ok (.aload_n 0, 1) := by decide +kernel
theorem dX8_actAt_36 : decode cX8_actAt 36 = .ok (.getfield 65, 3) := by decide +kernel
theorem dX8_actAt_39 : decode cX8_actAt 39 = .ok (.iload 4, 2) := by decide +kernel
theorem dX8_actAt_41 : decode cX8_actAt 41 = .ok (.iaload, 1) := by decide +kernel
theorem dX8_actAt_42 : decode cX8_actAt 42 = .ok (.iload_n 2, 1) := by decide +kernel
theorem dX8_actAt_43 : decode cX8_actAt 43 = .ok (.if_icmp .le 40, 3) := by decide +kernel
theorem dX8_actAt_46 : decode cX8_actAt 46 = .ok (.aload_n 0, 1) := by decide +kernel
theorem dX8_actAt_47 : decode cX8_actAt 47 = .ok (.getfield 59, 3) := by decide +kernel
theorem dX8_actAt_50 : decode cX8_actAt 50 = .ok (.iload 4, 2) := by decide +kernel
theorem dX8_actAt_52 : decode cX8_actAt 52 = .ok (.iaload, 1) := by decide +kernel
theorem dX8_actAt_53 : decode cX8_actAt 53 = .ok (.iload_n 1, 1) := by decide +kernel
theorem dX8_actAt_54 : decode cX8_actAt 54 = .ok (.if_icmp .le 6, 3) := by decide +kernel
theorem dX8_actAt_57 : decode cX8_actAt 57 = .ok (.goto 26, 3) := by decide +kernel
theorem dX8_actAt_60 : decode cX8_actAt 60 = .ok (.iload_n 3, 1) := by decide +kernel
theorem dX8_actAt_61 : decode cX8_actAt 61 = .ok (.ifCond .lt 19, 3) := by decide +kernel
theorem dX8_actAt_64 : decode cX8_actAt 64 = .ok (.aload_n 0, 1) := by decide +kernel
theorem dX8_actAt_65 : decode cX8_actAt 65 = .ok (.getfield 59, 3) := by decide +kernel
theorem dX8_actAt_68 : decode cX8_actAt 68 = .ok (.iload 4, 2) := by decide +kernel
theorem dX8_actAt_70 : decode cX8_actAt 70 = .ok (.iaload, 1) := by decide +kernel
theorem dX8_actAt_71 : decode cX8_actAt 71 = .ok (.aload_n 0, 1) := by decide +kernel
theorem dX8_actAt_72 : decode cX8_actAt 72 = .ok (.getfield 59, 3) := by decide +kernel
theorem dX8_actAt_75 : decode cX8_actAt 75 = .ok (.iload_n 3, 1) := by decide +kernel
theorem dX8_actAt_76 : decode cX8_actAt 76 = .ok (.iaload, 1) := by decide +kernel
theorem dX8_actAt_77 : decode cX8_actAt 77 = .ok (.if_icmp .lt 6, 3) := by decide +kernel
theorem dX8_actAt_80 : decode cX8_actAt 80 = .ok (.iload 4, 2) := by decide +kernel
theorem dX8_actAt_82 : decode cX8_actAt 82 = .ok (.istore_n 3, 1) := by decide +kernel
theorem dX8_actAt_83 : decode cX8_actAt 83 = .ok (.iinc 4 1, 3) := by decide +kernel
theorem dX8_actAt_86 : decode cX8_actAt 86 = .ok (.goto (-81), 3) := by decide +kernel
theorem dX8_actAt_89 : decode cX8_actAt 89 = .ok (.iload_n 3, 1) := by decide +kernel
theorem dX8_actAt_90 : decode cX8_actAt 90 = .ok (.ireturn, 1) := by decide +kernel
theorem dX8_without_0 : decode cX8_without 0 = .ok (.iload_n 0, 1) := by decide +kernel
theorem dX8_without_1 : decode cX8_without 1 = .ok (.ifCond .eq 13, 3) := by decide +kernel
theorem dX8_without_4 : decode cX8_without 4 = .ok (.iload_n 0, 1) := by decide +kernel
theorem dX8_without_5 : decode cX8_without 5 = .ok (.iconst 2, 1) := by decide +kernel
theorem dX8_without_6 : decode cX8_without 6 = .ok (.if_icmp .eq 8, 3) := by decide +kernel
theorem dX8_without_9 : decode cX8_without 9 = .ok (.iload_n 0, 1) := by decide +kernel
theorem dX8_without_10 : decode cX8_without 10 = .ok (.iconst 5, 1) := by decide +kernel
theorem dX8_without_11 : decode cX8_without 11 = .ok (.if_icmp .ne 7, 3) := by decide +kernel
theorem dX8_without_14 : decode cX8_without 14 = .ok (.iconst 2, 1) := by decide +kernel
theorem dX8_without_15 : decode cX8_without 15 = .ok (.goto 14, 3) := by decide +kernel
theorem dX8_without_18 : decode cX8_without 18 = .ok (.iload_n 0, 1) := by decide +kernel
theorem dX8_without_19 : decode cX8_without 19 = .ok (.iconst 4, 1) := by decide +kernel
theorem dX8_without_20 : decode cX8_without 20 = .ok (.if_icmp .ne 8, 3) := by decide +kernel
theorem dX8_without_23 : decode cX8_without 23 = .ok (.bipush 50, 2) := by decide +kernel
theorem dX8_without_25 : decode cX8_without 25 = .ok (.goto 4, 3) := by decide +kernel
theorem dX8_without_28 : decode cX8_without 28 = .ok (.iconst 1, 1) := by decide +kernel
theorem dX8_without_29 : decode cX8_without 29 = .ok (.ireturn, 1) := by decide +kernel
set_option maxRecDepth 20000 in
theorem ggX8_numberAt_X8_actAt : GoodIn wsX8_numberAt wsX8_actAt := goodIn_sl _ [(6, 5), (14, 51)] rfl (by decide +kernel)
set_option maxRecDepth 20000 in
theorem gX8_numberAt_X8_actAt : GoodIn wsX8_numberAt (wsV RX8 153 RX8 yX8_actAt wsX8_actAt) := goodIn_app (goodIn_of _ (by decide +kernel)) ggX8_numberAt_X8_actAt
set_option maxRecDepth 20000 in
theorem ggX8_numberAt_X8_without : GoodIn wsX8_numberAt wsX8_without := goodIn_sl _ [(13, 1)] rfl (by decide +kernel)
set_option maxRecDepth 20000 in
theorem gX8_numberAt_X8_without : GoodIn wsX8_numberAt (va_wsS RX8 157 yX8_without wsX8_without) := goodIn_app (goodIn_of _ (by decide +kernel)) ggX8_numberAt_X8_without
theorem dX8_numberAt_0 : decode cX8_numberAt 0 = .ok (.aload_n 0, 1) := by decide +kernel
theorem dX8_numberAt_1 : decode cX8_numberAt 1 = .ok (.iload_n 1, 1) := by decide +kernel
theorem dX8_numberAt_2 : decode cX8_numberAt 2 = .ok (.iload_n 2, 1) := by decide +kernel
theorem dX8_numberAt_3 : decode cX8_numberAt 3 = .ok (.invokevirtual 153, 3) := by decide +kernel
theorem dX8_numberAt_6 : decode cX8_numberAt 6 = .ok (.istore 4, 2) := by decide +kernel
theorem dX8_numberAt_8 : decode cX8_numberAt 8 = .ok (.iload 4, 2) := by decide +kernel
theorem dX8_numberAt_10 : decode cX8_numberAt 10 = .ok (.ifCond .ge 10, 3) := by decide +kernel
theorem dX8_numberAt_13 : decode cX8_numberAt 13 = .ok (.iload_n 3, 1) := by decide +kernel
theorem dX8_numberAt_14 : decode cX8_numberAt 14 = .ok (.invokestatic 157, 3) := by decide +kernel
theorem dX8_numberAt_17 : decode cX8_numberAt 17 = .ok (.goto 15, 3) := by decide +kernel
theorem dX8_numberAt_20 : decode cX8_numberAt 20 = .ok (.aload_n 0, 1) := by decide +kernel
theorem dX8_numberAt_21 : decode cX8_numberAt 21 = .ok (.getfield 56, 3) := by decide +kernel
theorem dX8_numberAt_24 : decode cX8_numberAt 24 = .ok (.bipush 13, 2) := by decide +kernel
theorem dX8_numberAt_26 : decode cX8_numberAt 26 = .ok (.iload 4, 2) := by decide +kernel
theorem dX8_numberAt_28 : decode cX8_numberAt 28 = .ok (.imul, 1) := by decide +kernel
theorem dX8_numberAt_29 : decode cX8_numberAt 29 = .ok (.iload_n 3, 1) := by decide +kernel
theorem dX8_numberAt_30 : decode cX8_numberAt 30 = .ok (.iadd, 1) := by decide +kernel
theorem dX8_numberAt_31 : decode cX8_numberAt 31 = .ok (.iaload, 1) := by decide +kernel
theorem dX8_numberAt_32 : decode cX8_numberAt 32 = .ok (.ireturn, 1) := by decide +kernel
set_option maxRecDepth 20000 in
theorem ggX8_holds_X8_isDay : GoodIn wsX8_holds wsX8_isDay := goodIn_sl _ [(4, 3), (3, 1), (7, 1)] rfl (by decide +kernel)
set_option maxRecDepth 20000 in
theorem gX8_holds_X8_isDay : GoodIn wsX8_holds (va_wsS RX8 143 yX8_isDay wsX8_isDay) := goodIn_app (goodIn_of _ (by decide +kernel)) ggX8_holds_X8_isDay
set_option maxRecDepth 20000 in
theorem ggX8_holds_X8_in : GoodIn wsX8_holds wsX8_in := goodIn_sl _ [(7, 1)] rfl (by decide +kernel)
set_option maxRecDepth 20000 in
theorem gX8_holds_X8_in : GoodIn wsX8_holds (va_wsS RX8 108 yX8_in wsX8_in) := goodIn_app (goodIn_of _ (by decide +kernel)) ggX8_holds_X8_in
set_option maxRecDepth 20000 in
theorem ggX8_holds_X8_numberAt : GoodIn wsX8_holds wsX8_numberAt := goodIn_sl _ [(11, 5), (3, 1), (16, 59)] rfl (by decide +kernel)
set_option maxRecDepth 20000 in
theorem gX8_holds_X8_numberAt : GoodIn wsX8_holds (wsV RX8 161 RX8 yX8_numberAt wsX8_numberAt) := goodIn_app (goodIn_of _ (by decide +kernel)) ggX8_holds_X8_numberAt
set_option maxRecDepth 20000 in
theorem ggX8_holds_X8_actAt : GoodIn wsX8_holds wsX8_actAt := goodIn_sl _ [(16, 5), (24, 51)] rfl (by decide +kernel)
set_option maxRecDepth 20000 in
theorem gX8_holds_X8_actAt : GoodIn wsX8_holds (wsV RX8 153 RX8 yX8_actAt wsX8_actAt) := goodIn_app (goodIn_of _ (by decide +kernel)) ggX8_holds_X8_actAt
theorem dX8_holds_0 : decode cX8_holds 0 = .ok (.iload_n 1, 1) := by decide +kernel
theorem dX8_holds_1 : decode cX8_holds 1 = .ok (.invokestatic 143, 3) := by decide +kernel
theorem dX8_holds_4 : decode cX8_holds 4 = .ok (.ifCond .eq 10, 3) := by decide +kernel
theorem dX8_holds_7 : decode cX8_holds 7 = .ok (.iload_n 2, 1) := by decide +kernel
theorem dX8_holds_8 : decode cX8_holds 8 = .ok (.invokestatic 143, 3) := by decide +kernel
theorem dX8_holds_11 : decode cX8_holds 11 = .ok (.ifCond .ne 5, 3) := by decide +kernel
theorem dX8_holds_14 : decode cX8_holds 14 = .ok (.iconst (-1), 1) := by decide +kernel
theorem dX8_holds_15 : decode cX8_holds 15 = .ok (.ireturn, 1) := by decide +kernel
theorem dX8_holds_16 : decode cX8_holds 16 = .ok (.iload_n 3, 1) := by decide +kernel
theorem dX8_holds_17 : decode cX8_holds 17 = .ok (.iconst 0, 1) := by decide +kernel
theorem dX8_holds_18 : decode cX8_holds 18 = .ok (.iconst 5, 1) := by decide +kernel
theorem dX8_holds_19 : decode cX8_holds 19 = .ok (.invokestatic 108, 3) := by decide +kernel
theorem dX8_holds_22 : decode cX8_holds 22 = .ok (.ifCond .eq 11, 3) := by decide +kernel
theorem dX8_holds_25 : decode cX8_holds 25 = .ok (.aload_n 0, 1) := by decide +kernel
theorem dX8_holds_26 : decode cX8_holds 26 = .ok (.iload_n 1, 1) := by decide +kernel
theorem dX8_holds_27 : decode cX8_holds 27 = .ok (.iload_n 2, 1) := by decide +kernel
theorem dX8_holds_28 : decode cX8_holds 28 = .ok (.iload_n 3, 1) := by decide +kernel
theorem dX8_holds_29 : decode cX8_holds 29 = .ok (.invokevirtual 161, 3) := by decide +kernel
theorem dX8_holds_32 : decode cX8_holds 32 = .ok (.ireturn, 1) := by decide +kernel
theorem dX8_holds_33 : decode cX8_holds 33 = .ok (.iload_n 3, 1) := by decide +kernel
theorem dX8_holds_34 : decode cX8_holds 34 = .ok (.bipush 6, 2) := by decide +kernel
theorem dX8_holds_36 : decode cX8_holds 36 = .ok (.if_icmp .ne 10, 3) := by decide +kernel
theorem dX8_holds_39 : decode cX8_holds 39 = .ok (.aload_n 0, 1) := by decide +kernel
theorem dX8_holds_40 : decode cX8_holds 40 = .ok (.iload_n 1, 1) := by decide +kernel
theorem dX8_holds_41 : decode cX8_holds 41 = .ok (.iload_n 2, 1) := by decide +kernel
theorem dX8_holds_42 : decode cX8_holds 42 = .ok (.invokevirtual 153, 3) := by decide +kernel
theorem dX8_holds_45 : decode cX8_holds 45 = .ok (.ireturn, 1) := by decide +kernel
theorem dX8_holds_46 : decode cX8_holds 46 = .ok (.iload_n 3, 1) := by decide +kernel
theorem dX8_holds_47 : decode cX8_holds 47 = .ok (.bipush 10, 2) := by decide +kernel
theorem dX8_holds_49 : decode cX8_holds 49 = .ok (.bipush 16, 2) := by decide +kernel
theorem dX8_holds_51 : decode cX8_holds 51 = .ok (.invokestatic 108, 3) := by decide +kernel
theorem dX8_holds_54 : decode cX8_holds 54 = .ok (.ifCond .eq 19, 3) := by decide +kernel
theorem dX8_holds_57 : decode cX8_holds 57 = .ok (.aload_n 0, 1) := by decide +kernel
theorem dX8_holds_58 : decode cX8_holds 58 = .ok (.iload_n 1, 1) := by decide +kernel
theorem dX8_holds_59 : decode cX8_holds 59 = .ok (.iload_n 2, 1) := by decide +kernel
theorem dX8_holds_60 : decode cX8_holds 60 = .ok (.bipush 6, 2) := by decide +kernel
theorem dX8_holds_62 : decode cX8_holds 62 = .ok (.iload_n 3, 1) := by decide +kernel
theorem dX8_holds_63 : decode cX8_holds 63 = .ok (.iadd, 1) := by decide +kernel
theorem dX8_holds_64 : decode cX8_holds 64 = .ok (.bipush 10, 2) := by decide +kernel
theorem dX8_holds_66 : decode cX8_holds 66 = .ok (.isub, 1) := by decide +kernel
theorem dX8_holds_67 : decode cX8_holds 67 = .ok (.invokevirtual 161, 3) := by decide +kernel
theorem dX8_holds_70 : decode cX8_holds 70 = .ok (.goto 4, 3) := by decide +kernel
theorem dX8_holds_73 : decode cX8_holds 73 = .ok (.iconst (-1), 1) := by decide +kernel
theorem dX8_holds_74 : decode cX8_holds 74 = .ok (.ireturn, 1) := by decide +kernel
set_option maxRecDepth 20000 in
theorem ggX8_pointsAt_X8_actAt : GoodIn wsX8_pointsAt wsX8_actAt := goodIn_sl _ [(16, 5), (24, 51)] rfl (by decide +kernel)
set_option maxRecDepth 20000 in
theorem gX8_pointsAt_X8_actAt : GoodIn wsX8_pointsAt (wsV RX8 153 RX8 yX8_actAt wsX8_actAt) := goodIn_app (goodIn_of _ (by decide +kernel)) ggX8_pointsAt_X8_actAt
set_option maxRecDepth 20000 in
theorem ggX8_pointsAt_X8_without : GoodIn wsX8_pointsAt wsX8_without := goodIn_sl _ [(23, 1)] rfl (by decide +kernel)
set_option maxRecDepth 20000 in
theorem gX8_pointsAt_X8_without : GoodIn wsX8_pointsAt (va_wsS RX8 157 yX8_without wsX8_without) := goodIn_app (goodIn_of _ (by decide +kernel)) ggX8_pointsAt_X8_without
theorem dX8_pointsAt_0 : decode cX8_pointsAt 0 = .ok (.iconst 0, 1) := by decide +kernel
theorem dX8_pointsAt_1 : decode cX8_pointsAt 1 = .ok (.istore_n 3, 1) := by decide +kernel
theorem dX8_pointsAt_2 : decode cX8_pointsAt 2 = .ok (.iload_n 3, 1) := by decide +kernel
theorem dX8_pointsAt_3 : decode cX8_pointsAt 3 = .ok (.sipush 140, 3) := by decide +kernel
theorem dX8_pointsAt_6 : decode cX8_pointsAt 6 = .ok (.if_icmp .ge 16, 3) := by decide +kernel
theorem dX8_pointsAt_9 : decode cX8_pointsAt 9 = .ok (.aload_n 0, 1) := by decide +kernel
theorem dX8_pointsAt_10 : decode cX8_pointsAt 10 = .ok (.getfield 80, 3) := by decide +kernel
theorem dX8_pointsAt_13 : decode cX8_pointsAt 13 = .ok (.iload_n 3, 1) := by decide +kernel
theorem dX8_pointsAt_14 : decode cX8_pointsAt 14 = .ok (.iconst 0, 1) := by decide +kernel
theorem dX8_pointsAt_15 : decode cX8_pointsAt 15 = .ok (.iastore, 1) := by decide +kernel
theorem dX8_pointsAt_16 : decode cX8_pointsAt 16 = .ok (.iinc 3 1, 3) := by decide +kernel
theorem dX8_pointsAt_19 : decode cX8_pointsAt 19 = .ok (.goto (-17), 3) := by decide +kernel
theorem dX8_pointsAt_22 : decode cX8_pointsAt 22 = .ok (.iconst 0, 1) := by decide +kernel
theorem dX8_pointsAt_23 : decode cX8_pointsAt 23 = .ok (.istore_n 3, 1) := by decide +kernel
theorem dX8_pointsAt_24 : decode cX8_pointsAt 24 = .ok (.iload_n 3, 1) := by decide +kernel
theorem dX8_pointsAt_25 : decode cX8_pointsAt 25 = .ok (.aload_n 0, 1) := by decide +kernel
theorem dX8_pointsAt_26 : decode cX8_pointsAt 26 = .ok (.getfield 139, 3) := by decide +kernel
theorem dX8_pointsAt_29 : decode cX8_pointsAt 29 = .ok (.if_icmp .ge 56, 3) := by decide +kernel
theorem dX8_pointsAt_32 : decode cX8_pointsAt 32 = .ok (.aload_n 0, 1) := by decide +kernel
theorem dX8_pointsAt_33 : decode cX8_pointsAt 33 = .ok (.getfield 35, 3) := by decide +kernel
theorem dX8_pointsAt_36 : decode cX8_pointsAt 36 = .ok (.iload_n 3, 1) := by decide +kernel
theorem dX8_pointsAt_37 : decode cX8_pointsAt 37 = .ok (.iaload, 1) := by decide +kernel
theorem dX8_pointsAt_38 : decode cX8_pointsAt 38 = .ok (.iload_n 1, 1) := by decide +kernel
theorem dX8_pointsAt_39 : decode cX8_pointsAt 39 = .ok (.if_icmp .ne 40, 3) := by decide +kernel
theorem dX8_pointsAt_42 : decode cX8_pointsAt 42 = .ok (.aload_n 0, 1) := by decide +kernel
theorem dX8_pointsAt_43 : decode cX8_pointsAt 43 = .ok (.getfield 44, 3) := by decide +kernel
theorem dX8_pointsAt_46 : decode cX8_pointsAt 46 = .ok (.iload_n 3, 1) := by decide +kernel
theorem dX8_pointsAt_47 : decode cX8_pointsAt 47 = .ok (.iaload, 1) := by decide +kernel
theorem dX8_pointsAt_48 : decode cX8_pointsAt 48 = .ok (.iload_n 2, 1) := by decide +kernel
theorem dX8_pointsAt_49 : decode cX8_pointsAt 49 = .ok (.if_icmp .gt 30, 3) := by decide +kernel
theorem dX8_pointsAt_52 : decode cX8_pointsAt 52 = .ok (.aload_n 0, 1) := by decide +kernel
theorem dX8_pointsAt_53 : decode cX8_pointsAt 53 = .ok (.getfield 80, 3) := by decide +kernel
theorem dX8_pointsAt_56 : decode cX8_pointsAt 56 = .ok (.bipush 7, 2) := by decide +kernel
theorem dX8_pointsAt_58 : decode cX8_pointsAt 58 = .ok (.aload_n 0, 1) := by decide +kernel
theorem dX8_pointsAt_59 : decode cX8_pointsAt 59 = .ok (.getfield 32, 3) := by decide +kernel
theorem dX8_pointsAt_62 : decode cX8_pointsAt 62 = .ok (.iload_n 3, 1) := by decide +kernel
theorem dX8_pointsAt_63 : decode cX8_pointsAt 63 = .ok (.iaload, 1) := by decide +kernel
theorem dX8_pointsAt_64 : decode cX8_pointsAt 64 = .ok (.imul, 1) := by decide +kernel
theorem dX8_pointsAt_65 : decode cX8_pointsAt 65 = .ok (.aload_n 0, 1) := by decide +kernel
theorem dX8_pointsAt_66 : decode cX8_pointsAt 66 = .ok (.getfield 38, 3) := by decide +kernel
theorem dX8_pointsAt_69 : decode cX8_pointsAt 69 = .ok (.iload_n 3, 1) := by decide +kernel
theorem dX8_pointsAt_70 : decode cX8_pointsAt 70 = .ok (.iaload, 1) := by decide +kernel
theorem dX8_pointsAt_71 : decode cX8_pointsAt 71 = .ok (.iadd, 1) := by decide +kernel
theorem dX8_pointsAt_72 : decode cX8_pointsAt 72 = .ok (.aload_n 0, 1) := by decide +kernel
theorem dX8_pointsAt_73 : decode cX8_pointsAt 73 = .ok (.getfield 41, 3) := by decide +kernel
theorem dX8_pointsAt_76 : decode cX8_pointsAt 76 = .ok (.iload_n 3, 1) := by decide +kernel
theorem dX8_pointsAt_77 : decode cX8_pointsAt 77 = .ok (.iaload, 1) := by decide +kernel
theorem dX8_pointsAt_78 : decode cX8_pointsAt 78 = .ok (.iastore, 1) := by decide +kernel
theorem dX8_pointsAt_79 : decode cX8_pointsAt 79 = .ok (.iinc 3 1, 3) := by decide +kernel
theorem dX8_pointsAt_82 : decode cX8_pointsAt 82 = .ok (.goto (-58), 3) := by decide +kernel
theorem dX8_pointsAt_85 : decode cX8_pointsAt 85 = .ok (.aload_n 0, 1) := by decide +kernel
theorem dX8_pointsAt_86 : decode cX8_pointsAt 86 = .ok (.iload_n 1, 1) := by decide +kernel
theorem dX8_pointsAt_87 : decode cX8_pointsAt 87 = .ok (.iload_n 2, 1) := by decide +kernel
theorem dX8_pointsAt_88 : decode cX8_pointsAt 88 = .ok (.invokevirtual 153, 3) := by decide +kernel
theorem dX8_pointsAt_91 : decode cX8_pointsAt 91 = .ok (.istore_n 3, 1) := by decide +kernel
theorem dX8_pointsAt_92 : decode cX8_pointsAt 92 = .ok (.aload_n 0, 1) := by decide +kernel
theorem dX8_pointsAt_93 : decode cX8_pointsAt 93 = .ok (.iconst 0, 1) := by decide +kernel
theorem dX8_pointsAt_94 : decode cX8_pointsAt 94 = .ok (.putfield 165, 3) := by decide +kernel
theorem dX8_pointsAt_97 : decode cX8_pointsAt 97 = .ok (.iconst 0, 1) := by decide +kernel
theorem dX8_pointsAt_98 : decode cX8_pointsAt 98 = .ok (.istore 4, 2) := by decide +kernel
theorem dX8_pointsAt_100 : decode cX8_pointsAt 100 = .ok (.iload 4, 2) := by decide +kernel
theorem dX8_pointsAt_102 : decode cX8_pointsAt 102 = .ok (.aload_n 0, 1) := by decide +kernel
theorem dX8_pointsAt_103 : decode cX8_pointsAt 103 = .ok (.getfield 112, 3) := by decide +kernel
theorem dX8_pointsAt_106 : decode cX8_pointsAt 106 = .ok (.if_icmp .ge 129, 3) := by decide +kernel
theorem dX8_pointsAt_109 : decode cX8_pointsAt 109 = .ok (.iconst 0, 1) := by decide +kernel
theorem dX8_pointsAt_110 : decode cX8_pointsAt 110 = .ok (.istore 5, 2) := by decide +kernel
theorem dX8_pointsAt_112 : decode cX8_pointsAt 112 = .ok (.iconst 0, 1) := by decide +kernel
theorem dX8_pointsAt_113 : decode cX8_pointsAt 113 = .ok (.istore 6, 2) := by decide +kernel
theorem dX8_pointsAt_115 : decode cX8_pointsAt 115 = .ok (.iload 6, 2) := by decide +kernel
theorem dX8_pointsAt_117 : decode cX8_pointsAt 117 = .ok (.bipush 7, 2) := by decide +kernel
theorem dX8_pointsAt_119 : decode cX8_pointsAt 119 = .ok (.if_icmp .ge 90, 3) := by decide +kernel
theorem dX8_pointsAt_122 : decode cX8_pointsAt 122 = .ok (.aload_n 0, 1) := by decide +kernel
theorem dX8_pointsAt_123 : decode cX8_pointsAt 123 = .ok (.getfield 80, 3) := by decide +kernel
theorem dX8_pointsAt_126 : decode cX8_pointsAt 126 = .ok (.bipush 7, 2) := by decide +kernel
theorem dX8_pointsAt_128 : decode cX8_pointsAt 128 = .ok (.iload 4, 2) := by decide +kernel
theorem dX8_pointsAt_130 : decode cX8_pointsAt 130 = .ok (.imul, 1) := by decide +kernel
theorem dX8_pointsAt_131 : decode cX8_pointsAt 131 = .ok (.iload 6, 2) := by decide +kernel
theorem dX8_pointsAt_133 : decode cX8_pointsAt 133 = .ok (.iadd, 1) := by decide +kernel
theorem dX8_pointsAt_134 : decode cX8_pointsAt 134 = .ok (.iaload, 1) := by decide +kernel
theorem dX8_pointsAt_135 : decode cX8_pointsAt 135 = .ok (.istore 7, 2) := by decide +kernel
theorem dX8_pointsAt_137 : decode cX8_pointsAt 137 = .ok (.iload 7, 2) := by decide +kernel
theorem dX8_pointsAt_139 : decode cX8_pointsAt 139 = .ok (.ifCond .ne 6, 3) := by decide +kernel
theorem dX8_pointsAt_142 : decode cX8_pointsAt 142 = .ok (.goto 61, 3) := by decide +kernel
theorem dX8_pointsAt_145 : decode cX8_pointsAt 145 = .ok (.iload 5, 2) := by decide +kernel
theorem dX8_pointsAt_147 : decode cX8_pointsAt 147 = .ok (.iload_n 3, 1) := by decide +kernel
theorem dX8_pointsAt_148 : decode cX8_pointsAt 148 = .ok (.ifCond .ge 22, 3) := by decide +kernel
theorem dX8_pointsAt_151 : decode cX8_pointsAt 151 = .ok (.bipush 6, 2) := by decide +kernel
theorem dX8_pointsAt_153 : decode cX8_pointsAt 153 = .ok (.iload 6, 2) := by decide +kernel
theorem dX8_pointsAt_155 : decode cX8_pointsAt 155 = .ok (.iadd, 1) := by decide +kernel
theorem dX8_pointsAt_156 : decode cX8_pointsAt 156 = .ok (.invokestatic 157, 3) := by decide +kernel
theorem dX8_pointsAt_159 : decode cX8_pointsAt 159 = .ok (.iload 7, 2) := by decide +kernel
theorem dX8_pointsAt_161 : decode cX8_pointsAt 161 = .ok (.iconst 1, 1) := by decide +kernel
theorem dX8_pointsAt_162 : decode cX8_pointsAt 162 = .ok (.isub, 1) := by decide +kernel
theorem dX8_pointsAt_163 : decode cX8_pointsAt 163 = .ok (.invokestatic 157, 3) := by decide +kernel
theorem dX8_pointsAt_166 : decode cX8_pointsAt 166 = .ok (.imul, 1) := by decide +kernel
theorem dX8_pointsAt_167 : decode cX8_pointsAt 167 = .ok (.goto 33, 3) := by decide +kernel
theorem dX8_pointsAt_170 : decode cX8_pointsAt 170 = .ok (.aload_n 0, 1) := by decide +kernel
theorem dX8_pointsAt_171 : decode cX8_pointsAt 171 = .ok (.getfield 56, 3) := by decide +kernel
theorem dX8_pointsAt_174 : decode cX8_pointsAt 174 = .ok (.bipush 13, 2) := by decide +kernel
theorem dX8_pointsAt_176 : decode cX8_pointsAt 176 = .ok (.iload_n 3, 1) := by decide +kernel
theorem dX8_pointsAt_177 : decode cX8_pointsAt 177 = .ok (.imul, 1) := by decide +kernel
theorem dX8_pointsAt_178 : decode cX8_pointsAt 178 = .ok (.bipush 6, 2) := by decide +kernel
theorem dX8_pointsAt_180 : decode cX8_pointsAt 180 = .ok (.iadd, 1) := by decide +kernel
theorem dX8_pointsAt_181 : decode cX8_pointsAt 181 = .ok (.iload 6, 2) := by decide +kernel
theorem dX8_pointsAt_183 : decode cX8_pointsAt 183 = .ok (.iadd, 1) := by decide +kernel
theorem dX8_pointsAt_184 : decode cX8_pointsAt 184 = .ok (.iaload, 1) := by decide +kernel
theorem dX8_pointsAt_185 : decode cX8_pointsAt 185 = .ok (.aload_n 0, 1) := by decide +kernel
theorem dX8_pointsAt_186 : decode cX8_pointsAt 186 = .ok (.getfield 56, 3) := by decide +kernel
theorem dX8_pointsAt_189 : decode cX8_pointsAt 189 = .ok (.bipush 13, 2) := by decide +kernel
theorem dX8_pointsAt_191 : decode cX8_pointsAt 191 = .ok (.iload_n 3, 1) := by decide +kernel
theorem dX8_pointsAt_192 : decode cX8_pointsAt 192 = .ok (.imul, 1) := by decide +kernel
theorem dX8_pointsAt_193 : decode cX8_pointsAt 193 = .ok (.iload 7, 2) := by decide +kernel
theorem dX8_pointsAt_195 : decode cX8_pointsAt 195 = .ok (.iadd, 1) := by decide +kernel
theorem dX8_pointsAt_196 : decode cX8_pointsAt 196 = .ok (.iconst 1, 1) := by decide +kernel
theorem dX8_pointsAt_197 : decode cX8_pointsAt 197 = .ok (.isub, 1) := by decide +kernel
theorem dX8_pointsAt_198 : decode cX8_pointsAt 198 = .ok (.iaload, 1) := by decide +kernel
theorem dX8_pointsAt_199 : decode cX8_pointsAt 199 = .ok (.imul, 1) := by decide +kernel
theorem dX8_pointsAt_200 : decode cX8_pointsAt 200 = .ok (.iadd, 1) := by decide +kernel
theorem dX8_pointsAt_201 : decode cX8_pointsAt 201 = .ok (.istore 5, 2) := by decide +kernel
theorem dX8_pointsAt_203 : decode cX8_pointsAt 203 = .ok (.iinc 6 1, 3) := by decide +kernel
theorem dX8_pointsAt_206 : decode cX8_pointsAt 206 = .ok (.goto (-91), 3) := by decide +kernel
theorem dX8_pointsAt_209 : decode cX8_pointsAt 209 = .ok (.aload_n 0, 1) := by decide +kernel
theorem dX8_pointsAt_210 : decode cX8_pointsAt 210 = .ok (.getfield 83, 3) := by decide +kernel
theorem dX8_pointsAt_213 : decode cX8_pointsAt 213 = .ok (.iload 4, 2) := by decide +kernel
theorem dX8_pointsAt_215 : decode cX8_pointsAt 215 = .ok (.iload 5, 2) := by decide +kernel
theorem dX8_pointsAt_217 : decode cX8_pointsAt 217 = .ok (.iastore, 1) := by decide +kernel
theorem dX8_pointsAt_218 : decode cX8_pointsAt 218 = .ok (.aload_n 0, 1) := by decide +kernel
theorem dX8_pointsAt_219 : decode cX8_pointsAt 219 = .ok (.dup, 1) := by decide +kernel
theorem dX8_pointsAt_220 : decode cX8_pointsAt 220 = .ok (.getfield 165, 3) := by decide +kernel
theorem dX8_pointsAt_223 : decode cX8_pointsAt 223 = .ok (.iload 5, 2) := by decide +kernel
theorem dX8_pointsAt_225 : decode cX8_pointsAt 225 = .ok (.iadd, 1) := by decide +kernel
theorem dX8_pointsAt_226 : decode cX8_pointsAt 226 = .ok (.putfield 165, 3) := by decide +kernel
theorem dX8_pointsAt_229 : decode cX8_pointsAt 229 = .ok (.iinc 4 1, 3) := by decide +kernel
theorem dX8_pointsAt_232 : decode cX8_pointsAt 232 = .ok (.goto (-132), 3) := by decide +kernel
theorem dX8_pointsAt_235 : decode cX8_pointsAt 235 = .ok (.return_, 1) := by decide +kernel
set_option maxRecDepth 20000 in
theorem ggX8_sharesAt_X8_pointsAt : GoodIn wsX8_sharesAt wsX8_pointsAt := goodIn_sl _ [(10, 8), (4, 1), (2, 1), (18, 1), (5, 1), (19, 3), (9, 1), (22, 59)] rfl (by decide +kernel)
set_option maxRecDepth 20000 in
theorem gX8_sharesAt_X8_pointsAt : GoodIn wsX8_sharesAt (wsV RX8 168 RX8 yX8_pointsAt wsX8_pointsAt) := goodIn_app (goodIn_of _ (by decide +kernel)) ggX8_sharesAt_X8_pointsAt
theorem dX8_sharesAt_0 : decode cX8_sharesAt 0 = .ok (.aload_n 0, 1) := by decide +kernel
theorem dX8_sharesAt_1 : decode cX8_sharesAt 1 = .ok (.iload_n 1, 1) := by decide +kernel
theorem dX8_sharesAt_2 : decode cX8_sharesAt 2 = .ok (.iload_n 2, 1) := by decide +kernel
theorem dX8_sharesAt_3 : decode cX8_sharesAt 3 = .ok (.invokevirtual 168, 3) := by decide +kernel
theorem dX8_sharesAt_6 : decode cX8_sharesAt 6 = .ok (.aload_n 0, 1) := by decide +kernel
theorem dX8_sharesAt_7 : decode cX8_sharesAt 7 = .ok (.getfield 47, 3) := by decide +kernel
theorem dX8_sharesAt_10 : decode cX8_sharesAt 10 = .ok (.iload_n 1, 1) := by decide +kernel
theorem dX8_sharesAt_11 : decode cX8_sharesAt 11 = .ok (.iaload, 1) := by decide +kernel
theorem dX8_sharesAt_12 : decode cX8_sharesAt 12 = .ok (.istore_n 3, 1) := by decide +kernel
theorem dX8_sharesAt_13 : decode cX8_sharesAt 13 = .ok (.iconst 0, 1) := by decide +kernel
theorem dX8_sharesAt_14 : decode cX8_sharesAt 14 = .ok (.istore 4, 2) := by decide +kernel
theorem dX8_sharesAt_16 : decode cX8_sharesAt 16 = .ok (.iload 4, 2) := by decide +kernel
theorem dX8_sharesAt_18 : decode cX8_sharesAt 18 = .ok (.aload_n 0, 1) := by decide +kernel
theorem dX8_sharesAt_19 : decode cX8_sharesAt 19 = .ok (.getfield 112, 3) := by decide +kernel
theorem dX8_sharesAt_22 : decode cX8_sharesAt 22 = .ok (.if_icmp .ge 60, 3) := by decide +kernel
theorem dX8_sharesAt_25 : decode cX8_sharesAt 25 = .ok (.aload_n 0, 1) := by decide +kernel
theorem dX8_sharesAt_26 : decode cX8_sharesAt 26 = .ok (.getfield 86, 3) := by decide +kernel
theorem dX8_sharesAt_29 : decode cX8_sharesAt 29 = .ok (.iload 4, 2) := by decide +kernel
theorem dX8_sharesAt_31 : decode cX8_sharesAt 31 = .ok (.aload_n 0, 1) := by decide +kernel
theorem dX8_sharesAt_32 : decode cX8_sharesAt 32 = .ok (.getfield 165, 3) := by decide +kernel
theorem dX8_sharesAt_35 : decode cX8_sharesAt 35 = .ok (.ifCond .ne 7, 3) := by decide +kernel
theorem dX8_sharesAt_38 : decode cX8_sharesAt 38 = .ok (.iconst 0, 1) := by decide +kernel
theorem dX8_sharesAt_39 : decode cX8_sharesAt 39 = .ok (.goto 26, 3) := by decide +kernel
theorem dX8_sharesAt_42 : decode cX8_sharesAt 42 = .ok (.aload_n 0, 1) := by decide +kernel
theorem dX8_sharesAt_43 : decode cX8_sharesAt 43 = .ok (.getfield 47, 3) := by decide +kernel
theorem dX8_sharesAt_46 : decode cX8_sharesAt 46 = .ok (.iload_n 1, 1) := by decide +kernel
theorem dX8_sharesAt_47 : decode cX8_sharesAt 47 = .ok (.iaload, 1) := by decide +kernel
theorem dX8_sharesAt_48 : decode cX8_sharesAt 48 = .ok (.i2l, 1) := by decide +kernel
theorem dX8_sharesAt_49 : decode cX8_sharesAt 49 = .ok (.aload_n 0, 1) := by decide +kernel
theorem dX8_sharesAt_50 : decode cX8_sharesAt 50 = .ok (.getfield 83, 3) := by decide +kernel
theorem dX8_sharesAt_53 : decode cX8_sharesAt 53 = .ok (.iload 4, 2) := by decide +kernel
theorem dX8_sharesAt_55 : decode cX8_sharesAt 55 = .ok (.iaload, 1) := by decide +kernel
theorem dX8_sharesAt_56 : decode cX8_sharesAt 56 = .ok (.i2l, 1) := by decide +kernel
theorem dX8_sharesAt_57 : decode cX8_sharesAt 57 = .ok (.lmul, 1) := by decide +kernel
theorem dX8_sharesAt_58 : decode cX8_sharesAt 58 = .ok (.aload_n 0, 1) := by decide +kernel
theorem dX8_sharesAt_59 : decode cX8_sharesAt 59 = .ok (.getfield 165, 3) := by decide +kernel
theorem dX8_sharesAt_62 : decode cX8_sharesAt 62 = .ok (.i2l, 1) := by decide +kernel
theorem dX8_sharesAt_63 : decode cX8_sharesAt 63 = .ok (.ldiv, 1) := by decide +kernel
theorem dX8_sharesAt_64 : decode cX8_sharesAt 64 = .ok (.l2i, 1) := by decide +kernel
theorem dX8_sharesAt_65 : decode cX8_sharesAt 65 = .ok (.iastore, 1) := by decide +kernel
theorem dX8_sharesAt_66 : decode cX8_sharesAt 66 = .ok (.iload_n 3, 1) := by decide +kernel
theorem dX8_sharesAt_67 : decode cX8_sharesAt 67 = .ok (.aload_n 0, 1) := by decide +kernel
theorem dX8_sharesAt_68 : decode cX8_sharesAt 68 = .ok (.getfield 86, 3) := by decide +kernel
theorem dX8_sharesAt_71 : decode cX8_sharesAt 71 = .ok (.iload 4, 2) := by decide +kernel
theorem dX8_sharesAt_73 : decode cX8_sharesAt 73 = .ok (.iaload, 1) := by decide +kernel
theorem dX8_sharesAt_74 : decode cX8_sharesAt 74 = .ok (.isub, 1) := by decide +kernel
theorem dX8_sharesAt_75 : decode cX8_sharesAt 75 = .ok (.istore_n 3, 1) := by decide +kernel
theorem dX8_sharesAt_76 : decode cX8_sharesAt 76 = .ok (.iinc 4 1, 3) := by decide +kernel
theorem dX8_sharesAt_79 : decode cX8_sharesAt 79 = .ok (.goto (-63), 3) := by decide +kernel
theorem dX8_sharesAt_82 : decode cX8_sharesAt 82 = .ok (.aload_n 0, 1) := by decide +kernel
theorem dX8_sharesAt_83 : decode cX8_sharesAt 83 = .ok (.getfield 165, 3) := by decide +kernel
theorem dX8_sharesAt_86 : decode cX8_sharesAt 86 = .ok (.ifCond .ne 5, 3) := by decide +kernel
theorem dX8_sharesAt_89 : decode cX8_sharesAt 89 = .ok (.iload_n 3, 1) := by decide +kernel
theorem dX8_sharesAt_90 : decode cX8_sharesAt 90 = .ok (.ireturn, 1) := by decide +kernel
theorem dX8_sharesAt_91 : decode cX8_sharesAt 91 = .ok (.iconst 0, 1) := by decide +kernel
theorem dX8_sharesAt_92 : decode cX8_sharesAt 92 = .ok (.istore 4, 2) := by decide +kernel
theorem dX8_sharesAt_94 : decode cX8_sharesAt 94 = .ok (.iload 4, 2) := by decide +kernel
theorem dX8_sharesAt_96 : decode cX8_sharesAt 96 = .ok (.aload_n 0, 1) := by decide +kernel
theorem dX8_sharesAt_97 : decode cX8_sharesAt 97 = .ok (.getfield 112, 3) := by decide +kernel
