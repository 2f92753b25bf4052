/-! the instructions, decoded -/
theorem dX8_init_0 : decode cX8_init 0 = .ok (.aload_n 0, 1) := by decide +kernel
theorem dX8_init_1 : decode cX8_init 1 = .ok (.invokespecial 3, 3) := by decide +kernel
theorem dX8_init_4 : decode cX8_init 4 = .ok (.aload_n 0, 1) := by decide +kernel
theorem dX8_init_5 : decode cX8_init 5 = .ok (.bipush 12, 2) := by decide +kernel
theorem dX8_init_7 : decode cX8_init 7 = .ok (.newarray .int, 2) := by decide +kernel
theorem dX8_init_9 : decode cX8_init 9 = .ok (.putfield 9, 3) := by decide +kernel
theorem dX8_init_12 : decode cX8_init 12 = .ok (.aload_n 0, 1) := by decide +kernel
theorem dX8_init_13 : decode cX8_init 13 = .ok (.bipush 12, 2) := by decide +kernel
theorem dX8_init_15 : decode cX8_init 15 = .ok (.newarray .int, 2) := by decide +kernel
theorem dX8_init_17 : decode cX8_init 17 = .ok (.putfield 13, 3) := by decide +kernel
theorem dX8_init_20 : decode cX8_init 20 = .ok (.aload_n 0, 1) := by decide +kernel
theorem dX8_init_21 : decode cX8_init 21 = .ok (.bipush 12, 2) := by decide +kernel
theorem dX8_init_23 : decode cX8_init 23 = .ok (.newarray .int, 2) := by decide +kernel
theorem dX8_init_25 : decode cX8_init 25 = .ok (.putfield 16, 3) := by decide +kernel
theorem dX8_init_28 : decode cX8_init 28 = .ok (.aload_n 0, 1) := by decide +kernel
theorem dX8_init_29 : decode cX8_init 29 = .ok (.bipush 12, 2) := by decide +kernel
theorem dX8_init_31 : decode cX8_init 31 = .ok (.newarray .int, 2) := by decide +kernel
theorem dX8_init_33 : decode cX8_init 33 = .ok (.putfield 19, 3) := by decide +kernel
theorem dX8_init_36 : decode cX8_init 36 = .ok (.aload_n 0, 1) := by decide +kernel
theorem dX8_init_37 : decode cX8_init 37 = .ok (.bipush 12, 2) := by decide +kernel
theorem dX8_init_39 : decode cX8_init 39 = .ok (.newarray .int, 2) := by decide +kernel
theorem dX8_init_41 : decode cX8_init 41 = .ok (.putfield 22, 3) := by decide +kernel
theorem dX8_init_44 : decode cX8_init 44 = .ok (.aload_n 0, 1) := by decide +kernel
theorem dX8_init_45 : decode cX8_init 45 = .ok (.bipush 12, 2) := by decide +kernel
theorem dX8_init_47 : decode cX8_init 47 = .ok (.newarray .int, 2) := by decide +kernel
theorem dX8_init_49 : decode cX8_init 49 = .ok (.putfield 25, 3) := by decide +kernel
theorem dX8_init_52 : decode cX8_init 52 = .ok (.aload_n 0, 1) := by decide +kernel
theorem dX8_init_53 : decode cX8_init 53 = .ok (.bipush 12, 2) := by decide +kernel
theorem dX8_init_55 : decode cX8_init 55 = .ok (.newarray .boolean, 2) := by decide +kernel
theorem dX8_init_57 : decode cX8_init 57 = .ok (.putfield 28, 3) := by decide +kernel
theorem dX8_init_60 : decode cX8_init 60 = .ok (.aload_n 0, 1) := by decide +kernel
theorem dX8_init_61 : decode cX8_init 61 = .ok (.bipush 12, 2) := by decide +kernel
theorem dX8_init_63 : decode cX8_init 63 = .ok (.newarray .boolean, 2) := by decide +kernel
theorem dX8_init_65 : decode cX8_init 65 = .ok (.putfield 32, 3) := by decide +kernel
theorem dX8_init_68 : decode cX8_init 68 = .ok (.aload_n 0, 1) := by decide +kernel
theorem dX8_init_69 : decode cX8_init 69 = .ok (.bipush 12, 2) := by decide +kernel
theorem dX8_init_71 : decode cX8_init 71 = .ok (.newarray .boolean, 2) := by decide +kernel
theorem dX8_init_73 : decode cX8_init 73 = .ok (.putfield 35, 3) := by decide +kernel
theorem dX8_init_76 : decode cX8_init 76 = .ok (.aload_n 0, 1) := by decide +kernel
theorem dX8_init_77 : decode cX8_init 77 = .ok (.bipush 12, 2) := by decide +kernel
theorem dX8_init_79 : decode cX8_init 79 = .ok (.newarray .int, 2) := by decide +kernel
theorem dX8_init_81 : decode cX8_init 81 = .ok (.putfield 38, 3) := by decide +kernel
theorem dX8_init_84 : decode cX8_init 84 = .ok (.aload_n 0, 1) := by decide +kernel
theorem dX8_init_85 : decode cX8_init 85 = .ok (.bipush 12, 2) := by decide +kernel
theorem dX8_init_87 : decode cX8_init 87 = .ok (.newarray .int, 2) := by decide +kernel
theorem dX8_init_89 : decode cX8_init 89 = .ok (.putfield 41, 3) := by decide +kernel
theorem dX8_init_92 : decode cX8_init 92 = .ok (.aload_n 0, 1) := by decide +kernel
theorem dX8_init_93 : decode cX8_init 93 = .ok (.bipush 12, 2) := by decide +kernel
theorem dX8_init_95 : decode cX8_init 95 = .ok (.newarray .int, 2) := by decide +kernel
theorem dX8_init_97 : decode cX8_init 97 = .ok (.putfield 44, 3) := by decide +kernel
theorem dX8_init_100 : decode cX8_init 100 = .ok (.aload_n 0, 1) := by decide +kernel
theorem dX8_init_101 : decode cX8_init 101 = .ok (.bipush 12, 2) := by decide +kernel
theorem dX8_init_103 : decode cX8_init 103 = .ok (.newarray .int, 2) := by decide +kernel
theorem dX8_init_105 : decode cX8_init 105 = .ok (.putfield 47, 3) := by decide +kernel
theorem dX8_init_108 : decode cX8_init 108 = .ok (.aload_n 0, 1) := by decide +kernel
theorem dX8_init_109 : decode cX8_init 109 = .ok (.bipush 12, 2) := by decide +kernel
theorem dX8_init_111 : decode cX8_init 111 = .ok (.newarray .int, 2) := by decide +kernel
theorem dX8_init_113 : decode cX8_init 113 = .ok (.putfield 50, 3) := by decide +kernel
theorem dX8_init_116 : decode cX8_init 116 = .ok (.aload_n 0, 1) := by decide +kernel
theorem dX8_init_117 : decode cX8_init 117 = .ok (.bipush 32, 2) := by decide +kernel
theorem dX8_init_119 : decode cX8_init 119 = .ok (.newarray .int, 2) := by decide +kernel
theorem dX8_init_121 : decode cX8_init 121 = .ok (.putfield 53, 3) := by decide +kernel
theorem dX8_init_124 : decode cX8_init 124 = .ok (.aload_n 0, 1) := by decide +kernel
theorem dX8_init_125 : decode cX8_init 125 = .ok (.bipush 32, 2) := by decide +kernel
theorem dX8_init_127 : decode cX8_init 127 = .ok (.newarray .int, 2) := by decide +kernel
theorem dX8_init_129 : decode cX8_init 129 = .ok (.putfield 56, 3) := by decide +kernel
theorem dX8_init_132 : decode cX8_init 132 = .ok (.aload_n 0, 1) := by decide +kernel
theorem dX8_init_133 : decode cX8_init 133 = .ok (.bipush 32, 2) := by decide +kernel
theorem dX8_init_135 : decode cX8_init 135 = .ok (.newarray .int, 2) := by decide +kernel
theorem dX8_init_137 : decode cX8_init 137 = .ok (.putfield 59, 3) := by decide +kernel
theorem dX8_init_140 : decode cX8_init 140 = .ok (.aload_n 0, 1) := by decide +kernel
theorem dX8_init_141 : decode cX8_init 141 = .ok (.bipush 32, 2) := by decide +kernel
theorem dX8_init_143 : decode cX8_init 143 = .ok (.newarray .int, 2) := by decide +kernel
theorem dX8_init_145 : decode cX8_init 145 = .ok (.putfield 62, 3) := by decide +kernel
theorem dX8_init_148 : decode cX8_init 148 = .ok (.aload_n 0, 1) := by decide +kernel
theorem dX8_init_149 : decode cX8_init 149 = .ok (.bipush 32, 2) := by decide +kernel
theorem dX8_init_151 : decode cX8_init 151 = .ok (.newarray .int, 2) := by decide +kernel
theorem dX8_init_153 : decode cX8_init 153 = .ok (.putfield 65, 3) := by decide +kernel
theorem dX8_init_156 : decode cX8_init 156 = .ok (.aload_n 0, 1) := by decide +kernel
theorem dX8_init_157 : decode cX8_init 157 = .ok (.bipush 32, 2) := by decide +kernel
theorem dX8_init_159 : decode cX8_init 159 = .ok (.newarray .int, 2) := by decide +kernel
theorem dX8_init_161 : decode cX8_init 161 = .ok (.putfield 68, 3) := by decide +kernel
theorem dX8_init_164 : decode cX8_init 164 = .ok (.aload_n 0, 1) := by decide +kernel
theorem dX8_init_165 : decode cX8_init 165 = .ok (.bipush 32, 2) := by decide +kernel
theorem dX8_init_167 : decode cX8_init 167 = .ok (.newarray .int, 2) := by decide +kernel
theorem dX8_init_169 : decode cX8_init 169 = .ok (.putfield 71, 3) := by decide +kernel
theorem dX8_init_172 : decode cX8_init 172 = .ok (.aload_n 0, 1) := by decide +kernel
theorem dX8_init_173 : decode cX8_init 173 = .ok (.bipush 32, 2) := by decide +kernel
theorem dX8_init_175 : decode cX8_init 175 = .ok (.newarray .int, 2) := by decide +kernel
theorem dX8_init_177 : decode cX8_init 177 = .ok (.putfield 74, 3) := by decide +kernel
theorem dX8_init_180 : decode cX8_init 180 = .ok (.aload_n 0, 1) := by decide +kernel
theorem dX8_init_181 : decode cX8_init 181 = .ok (.bipush 32, 2) := by decide +kernel
theorem dX8_init_183 : decode cX8_init 183 = .ok (.newarray .int, 2) := by decide +kernel
theorem dX8_init_185 : decode cX8_init 185 = .ok (.putfield 77, 3) := by decide +kernel
theorem dX8_init_188 : decode cX8_init 188 = .ok (.aload_n 0, 1) := by decide +kernel
theorem dX8_init_189 : decode cX8_init 189 = .ok (.bipush 32, 2) := by decide +kernel
theorem dX8_init_191 : decode cX8_init 191 = .ok (.newarray .boolean, 2) := by decide +kernel
theorem dX8_init_193 : decode cX8_init 193 = .ok (.putfield 80, 3) := by decide +kernel
theorem dX8_init_196 : decode cX8_init 196 = .ok (.aload_n 0, 1) := by decide +kernel
theorem dX8_init_197 : decode cX8_init 197 = .ok (.bipush 32, 2) := by decide +kernel
theorem dX8_init_199 : decode cX8_init 199 = .ok (.newarray .boolean, 2) := by decide +kernel
theorem dX8_init_201 : decode cX8_init 201 = .ok (.putfield 83, 3) := by decide +kernel
theorem dX8_init_204 : decode cX8_init 204 = .ok (.aload_n 0, 1) := by decide +kernel
theorem dX8_init_205 : decode cX8_init 205 = .ok (.sipush 384, 3) := by decide +kernel
theorem dX8_init_208 : decode cX8_init 208 = .ok (.newarray .boolean, 2) := by decide +kernel
theorem dX8_init_210 : decode cX8_init 210 = .ok (.putfield 86, 3) := by decide +kernel
theorem dX8_init_213 : decode cX8_init 213 = .ok (.aload_n 0, 1) := by decide +kernel
theorem dX8_init_214 : decode cX8_init 214 = .ok (.sipush 384, 3) := by decide +kernel
theorem dX8_init_217 : decode cX8_init 217 = .ok (.newarray .int, 2) := by decide +kernel
theorem dX8_init_219 : decode cX8_init 219 = .ok (.putfield 89, 3) := by decide +kernel
theorem dX8_init_222 : decode cX8_init 222 = .ok (.aload_n 0, 1) := by decide +kernel
theorem dX8_init_223 : decode cX8_init 223 = .ok (.sipush 384, 3) := by decide +kernel
theorem dX8_init_226 : decode cX8_init 226 = .ok (.newarray .int, 2) := by decide +kernel
theorem dX8_init_228 : decode cX8_init 228 = .ok (.putfield 92, 3) := by decide +kernel
theorem dX8_init_231 : decode cX8_init 231 = .ok (.aload_n 0, 1) := by decide +kernel
theorem dX8_init_232 : decode cX8_init 232 = .ok (.sipush 384, 3) := by decide +kernel
theorem dX8_init_235 : decode cX8_init 235 = .ok (.newarray .int, 2) := by decide +kernel
theorem dX8_init_237 : decode cX8_init 237 = .ok (.putfield 95, 3) := by decide +kernel
theorem dX8_init_240 : decode cX8_init 240 = .ok (.aload_n 0, 1) := by decide +kernel
theorem dX8_init_241 : decode cX8_init 241 = .ok (.sipush 384, 3) := by decide +kernel
theorem dX8_init_244 : decode cX8_init 244 = .ok (.newarray .int, 2) := by decide +kernel
theorem dX8_init_246 : decode cX8_init 246 = .ok (.putfield 98, 3) := by decide +kernel
theorem dX8_init_249 : decode cX8_init 249 = .ok (.aload_n 0, 1) := by decide +kernel
theorem dX8_init_250 : decode cX8_init 250 = .ok (.sipush 384, 3) := by decide +kernel
theorem dX8_init_253 : decode cX8_init 253 = .ok (.newarray .int, 2) := by decide +kernel
theorem dX8_init_255 : decode cX8_init 255 = .ok (.putfield 101, 3) := by decide +kernel
theorem dX8_init_258 : decode cX8_init 258 = .ok (.aload_n 0, 1) := by decide +kernel
theorem dX8_init_259 : decode cX8_init 259 = .ok (.sipush 192, 3) := by decide +kernel
theorem dX8_init_262 : decode cX8_init 262 = .ok (.newarray .boolean, 2) := by decide +kernel
theorem dX8_init_264 : decode cX8_init 264 = .ok (.putfield 104, 3) := by decide +kernel
theorem dX8_init_267 : decode cX8_init 267 = .ok (.aload_n 0, 1) := by decide +kernel
theorem dX8_init_268 : decode cX8_init 268 = .ok (.sipush 192, 3) := by decide +kernel
theorem dX8_init_271 : decode cX8_init 271 = .ok (.newarray .int, 2) := by decide +kernel
theorem dX8_init_273 : decode cX8_init 273 = .ok (.putfield 107, 3) := by decide +kernel
theorem dX8_init_276 : decode cX8_init 276 = .ok (.aload_n 0, 1) := by decide +kernel
theorem dX8_init_277 : decode cX8_init 277 = .ok (.sipush 192, 3) := by decide +kernel
theorem dX8_init_280 : decode cX8_init 280 = .ok (.newarray .int, 2) := by decide +kernel
theorem dX8_init_282 : decode cX8_init 282 = .ok (.putfield 110, 3) := by decide +kernel
theorem dX8_init_285 : decode cX8_init 285 = .ok (.aload_n 0, 1) := by decide +kernel
theorem dX8_init_286 : decode cX8_init 286 = .ok (.bipush 24, 2) := by decide +kernel
theorem dX8_init_288 : decode cX8_init 288 = .ok (.newarray .int, 2) := by decide +kernel
theorem dX8_init_290 : decode cX8_init 290 = .ok (.putfield 113, 3) := by decide +kernel
theorem dX8_init_293 : decode cX8_init 293 = .ok (.aload_n 0, 1) := by decide +kernel
theorem dX8_init_294 : decode cX8_init 294 = .ok (.bipush 24, 2) := by decide +kernel
theorem dX8_init_296 : decode cX8_init 296 = .ok (.newarray .int, 2) := by decide +kernel
theorem dX8_init_298 : decode cX8_init 298 = .ok (.putfield 116, 3) := by decide +kernel
theorem dX8_init_301 : decode cX8_init 301 = .ok (.aload_n 0, 1) := by decide +kernel
theorem dX8_init_302 : decode cX8_init 302 = .ok (.sipush 768, 3) := by decide +kernel
theorem dX8_init_305 : decode cX8_init 305 = .ok (.newarray .boolean, 2) := by decide +kernel
theorem dX8_init_307 : decode cX8_init 307 = .ok (.putfield 119, 3) := by decide +kernel
theorem dX8_init_310 : decode cX8_init 310 = .ok (.aload_n 0, 1) := by decide +kernel
theorem dX8_init_311 : decode cX8_init 311 = .ok (.sipush 768, 3) := by decide +kernel
theorem dX8_init_314 : decode cX8_init 314 = .ok (.newarray .int, 2) := by decide +kernel
theorem dX8_init_316 : decode cX8_init 316 = .ok (.putfield 122, 3) := by decide +kernel
theorem dX8_init_319 : decode cX8_init 319 = .ok (.aload_n 0, 1) := by decide +kernel
theorem dX8_init_320 : decode cX8_init 320 = .ok (.sipush 768, 3) := by decide +kernel
theorem dX8_init_323 : decode cX8_init 323 = .ok (.newarray .int, 2) := by decide +kernel
theorem dX8_init_325 : decode cX8_init 325 = .ok (.putfield 125, 3) := by decide +kernel
theorem dX8_init_328 : decode cX8_init 328 = .ok (.aload_n 0, 1) := by decide +kernel
theorem dX8_init_329 : decode cX8_init 329 = .ok (.sipush 768, 3) := by decide +kernel
theorem dX8_init_332 : decode cX8_init 332 = .ok (.newarray .int, 2) := by decide +kernel
theorem dX8_init_334 : decode cX8_init 334 = .ok (.putfield 128, 3) := by decide +kernel
theorem dX8_init_337 : decode cX8_init 337 = .ok (.aload_n 0, 1) := by decide +kernel
theorem dX8_init_338 : decode cX8_init 338 = .ok (.sipush 1536, 3) := by decide +kernel
theorem dX8_init_341 : decode cX8_init 341 = .ok (.newarray .int, 2) := by decide +kernel
theorem dX8_init_343 : decode cX8_init 343 = .ok (.putfield 131, 3) := by decide +kernel
theorem dX8_init_346 : decode cX8_init 346 = .ok (.aload_n 0, 1) := by decide +kernel
theorem dX8_init_347 : decode cX8_init 347 = .ok (.sipush 1536, 3) := by decide +kernel
theorem dX8_init_350 : decode cX8_init 350 = .ok (.newarray .int, 2) := by decide +kernel
theorem dX8_init_352 : decode cX8_init 352 = .ok (.putfield 134, 3) := by decide +kernel
theorem dX8_init_355 : decode cX8_init 355 = .ok (.aload_n 0, 1) := by decide +kernel
theorem dX8_init_356 : decode cX8_init 356 = .ok (.sipush 1536, 3) := by decide +kernel
theorem dX8_init_359 : decode cX8_init 359 = .ok (.newarray .boolean, 2) := by decide +kernel
theorem dX8_init_361 : decode cX8_init 361 = .ok (.putfield 137, 3) := by decide +kernel
theorem dX8_init_364 : decode cX8_init 364 = .ok (.aload_n 0, 1) := by decide +kernel
theorem dX8_init_365 : decode cX8_init 365 = .ok (.sipush 1536, 3) := by decide +kernel
theorem dX8_init_368 : decode cX8_init 368 = .ok (.newarray .int, 2) := by decide +kernel
theorem dX8_init_370 : decode cX8_init 370 = .ok (.putfield 140, 3) := by decide +kernel
theorem dX8_init_373 : decode cX8_init 373 = .ok (.aload_n 0, 1) := by decide +kernel
theorem dX8_init_374 : decode cX8_init 374 = .ok (.sipush 1536, 3) := by decide +kernel
theorem dX8_init_377 : decode cX8_init 377 = .ok (.newarray .int, 2) := by decide +kernel
theorem dX8_init_379 : decode cX8_init 379 = .ok (.putfield 143, 3) := by decide +kernel
theorem dX8_init_382 : decode cX8_init 382 = .ok (.aload_n 0, 1) := by decide +kernel
theorem dX8_init_383 : decode cX8_init 383 = .ok (.sipush 1536, 3) := by decide +kernel
theorem dX8_init_386 : decode cX8_init 386 = .ok (.newarray .int, 2) := by decide +kernel
theorem dX8_init_388 : decode cX8_init 388 = .ok (.putfield 146, 3) := by decide +kernel
theorem dX8_init_391 : decode cX8_init 391 = .ok (.aload_n 0, 1) := by decide +kernel
theorem dX8_init_392 : decode cX8_init 392 = .ok (.sipush 1536, 3) := by decide +kernel
theorem dX8_init_395 : decode cX8_init 395 = .ok (.newarray .int, 2) := by decide +kernel
theorem dX8_init_397 : decode cX8_init 397 = .ok (.putfield 149, 3) := by decide +kernel
theorem dX8_init_400 : decode cX8_init 400 = .ok (.aload_n 0, 1) := by decide +kernel
theorem dX8_init_401 : decode cX8_init 401 = .ok (.sipush 1536, 3) := by decide +kernel
theorem dX8_init_404 : decode cX8_init 404 = .ok (.newarray .int, 2) := by decide +kernel
theorem dX8_init_406 : decode cX8_init 406 = .ok (.putfield 152, 3) := by decide +kernel
theorem dX8_init_409 : decode cX8_init 409 = .ok (.iconst 0, 1) := by decide +kernel
theorem dX8_init_410 : decode cX8_init 410 = .ok (.istore_n 1, 1) := by decide +kernel
theorem dX8_init_411 : decode cX8_init 411 = .ok (.iload_n 1, 1) := by decide +kernel
theorem dX8_init_412 : decode cX8_init 412 = .ok (.sipush 384, 3) := by decide +kernel
theorem dX8_init_415 : decode cX8_init 415 = .ok (.if_icmp .ge 16, 3) := by decide +kernel
theorem dX8_init_418 : decode cX8_init 418 = .ok (.aload_n 0, 1) := by decide +kernel
theorem dX8_init_419 : decode cX8_init 419 = .ok (.getfield 101, 3) := by decide +kernel
theorem dX8_init_422 : decode cX8_init 422 = .ok (.iload_n 1, 1) := by decide +kernel
theorem dX8_init_423 : decode cX8_init 423 = .ok (.iconst (-1), 1) := by decide +kernel
theorem dX8_init_424 : decode cX8_init 424 = .ok (.iastore, 1) := by decide +kernel
theorem dX8_init_425 : decode cX8_init 425 = .ok (.iinc 1 1, 3) := by decide +kernel
theorem dX8_init_428 : decode cX8_init 428 = .ok (.goto (-17), 3) := by decide +kernel
theorem dX8_init_431 : decode cX8_init 431 = .ok (.return_, 1) := by decide +kernel
theorem dX8_in_0 : decode cX8_in 0 = .ok (.iload_n 0, 1) := by decide +kernel
theorem dX8_in_1 : decode cX8_in 1 = .ok (.iload_n 1, 1) := by decide +kernel
theorem dX8_in_2 : decode cX8_in 2 = .ok (.if_icmp .lt 12, 3) := by decide +kernel
theorem dX8_in_5 : decode cX8_in 5 = .ok (.iload_n 0, 1) := by decide +kernel
theorem dX8_in_6 : decode cX8_in 6 = .ok (.iload_n 2, 1) := by decide +kernel
theorem dX8_in_7 : decode cX8_in 7 = .ok (.if_icmp .gt 7, 3) := by decide +kernel
theorem dX8_in_10 : decode cX8_in 10 = .ok (.iconst 1, 1) := by decide +kernel
theorem dX8_in_11 : decode cX8_in 11 = .ok (.goto 4, 3) := by decide +kernel
theorem dX8_in_14 : decode cX8_in 14 = .ok (.iconst 0, 1) := by decide +kernel
theorem dX8_in_15 : decode cX8_in 15 = .ok (.ireturn, 1) := by decide +kernel
theorem dX8_isHost_0 : decode cX8_isHost 0 = .ok (.iload_n 1, 1) := by decide +kernel
theorem dX8_isHost_1 : decode cX8_isHost 1 = .ok (.iconst 0, 1) := by decide +kernel
theorem dX8_isHost_2 : decode cX8_isHost 2 = .ok (.aload_n 0, 1) := by decide +kernel
theorem dX8_isHost_3 : decode cX8_isHost 3 = .ok (.getfield 155, 3) := by decide +kernel
theorem dX8_isHost_6 : decode cX8_isHost 6 = .ok (.iconst 1, 1) := by decide +kernel
theorem dX8_isHost_7 : decode cX8_isHost 7 = .ok (.isub, 1) := by decide +kernel
theorem dX8_isHost_8 : decode cX8_isHost 8 = .ok (.invokestatic 159, 3) := by decide +kernel
theorem dX8_isHost_11 : decode cX8_isHost 11 = .ok (.ireturn, 1) := by decide +kernel
theorem dX8_isAwake_0 : decode cX8_isAwake 0 = .ok (.aload_n 0, 1) := by decide +kernel
theorem dX8_isAwake_1 : decode cX8_isAwake 1 = .ok (.iload_n 1, 1) := by decide +kernel
theorem dX8_isAwake_2 : decode cX8_isAwake 2 = .ok (.invokevirtual 163, 3) := by decide +kernel
theorem dX8_isAwake_5 : decode cX8_isAwake 5 = .ok (.ifCond .eq 17, 3) := by decide +kernel
theorem dX8_isAwake_8 : decode cX8_isAwake 8 = .ok (.aload_n 0, 1) := by decide +kernel
theorem dX8_isAwake_9 : decode cX8_isAwake 9 = .ok (.getfield 25, 3) := by decide +kernel
theorem dX8_isAwake_12 : decode cX8_isAwake 12 = .ok (.iload_n 1, 1) := by decide +kernel
theorem dX8_isAwake_13 : decode cX8_isAwake 13 = .ok (.iaload, 1) := by decide +kernel
theorem dX8_isAwake_14 : decode cX8_isAwake 14 = .ok (.iconst 2, 1) := by decide +kernel
theorem dX8_isAwake_15 : decode cX8_isAwake 15 = .ok (.if_icmp .ne 7, 3) := by decide +kernel
theorem dX8_isAwake_18 : decode cX8_isAwake 18 = .ok (.iconst 1, 1) := by decide +kernel
theorem dX8_isAwake_19 : decode cX8_isAwake 19 = .ok (.goto 4, 3) := by decide +kernel
theorem dX8_isAwake_22 : decode cX8_isAwake 22 = .ok (.iconst 0, 1) := by decide +kernel
theorem dX8_isAwake_23 : decode cX8_isAwake 23 = .ok (.ireturn, 1) := by decide +kernel
theorem dX8_isUp_0 : decode cX8_isUp 0 = .ok (.aload_n 0, 1) := by decide +kernel
theorem dX8_isUp_1 : decode cX8_isUp 1 = .ok (.iload_n 1, 1) := by decide +kernel
theorem dX8_isUp_2 : decode cX8_isUp 2 = .ok (.invokevirtual 167, 3) := by decide +kernel
theorem dX8_isUp_5 : decode cX8_isUp 5 = .ok (.ifCond .eq 16, 3) := by decide +kernel
theorem dX8_isUp_8 : decode cX8_isUp 8 = .ok (.aload_n 0, 1) := by decide +kernel
theorem dX8_isUp_9 : decode cX8_isUp 9 = .ok (.getfield 28, 3) := by decide +kernel
theorem dX8_isUp_12 : decode cX8_isUp 12 = .ok (.iload_n 1, 1) := by decide +kernel
theorem dX8_isUp_13 : decode cX8_isUp 13 = .ok (.baload, 1) := by decide +kernel
theorem dX8_isUp_14 : decode cX8_isUp 14 = .ok (.ifCond .ne 7, 3) := by decide +kernel
theorem dX8_isUp_17 : decode cX8_isUp 17 = .ok (.iconst 1, 1) := by decide +kernel
theorem dX8_isUp_18 : decode cX8_isUp 18 = .ok (.goto 4, 3) := by decide +kernel
theorem dX8_isUp_21 : decode cX8_isUp 21 = .ok (.iconst 0, 1) := by decide +kernel
theorem dX8_isUp_22 : decode cX8_isUp 22 = .ok (.ireturn, 1) := by decide +kernel
theorem dX8_isService_0 : decode cX8_isService 0 = .ok (.iload_n 1, 1) := by decide +kernel
theorem dX8_isService_1 : decode cX8_isService 1 = .ok (.iconst 0, 1) := by decide +kernel
theorem dX8_isService_2 : decode cX8_isService 2 = .ok (.aload_n 0, 1) := by decide +kernel
theorem dX8_isService_3 : decode cX8_isService 3 = .ok (.getfield 170, 3) := by decide +kernel
theorem dX8_isService_6 : decode cX8_isService 6 = .ok (.iconst 1, 1) := by decide +kernel
theorem dX8_isService_7 : decode cX8_isService 7 = .ok (.isub, 1) := by decide +kernel
theorem dX8_isService_8 : decode cX8_isService 8 = .ok (.invokestatic 159, 3) := by decide +kernel
theorem dX8_isService_11 : decode cX8_isService 11 = .ok (.ireturn, 1) := by decide +kernel
theorem dX8_host_0 : decode cX8_host 0 = .ok (.iload_n 1, 1) := by decide +kernel
theorem dX8_host_1 : decode cX8_host 1 = .ok (.iconst 0, 1) := by decide +kernel
theorem dX8_host_2 : decode cX8_host 2 = .ok (.iconst 3, 1) := by decide +kernel
theorem dX8_host_3 : decode cX8_host 3 = .ok (.invokestatic 159, 3) := by decide +kernel
theorem dX8_host_6 : decode cX8_host 6 = .ok (.ifCond .eq 46, 3) := by decide +kernel
theorem dX8_host_9 : decode cX8_host 9 = .ok (.iload_n 2, 1) := by decide +kernel
theorem dX8_host_10 : decode cX8_host 10 = .ok (.iconst 1, 1) := by decide +kernel
theorem dX8_host_11 : decode cX8_host 11 = .ok (.sipush 250, 3) := by decide +kernel
theorem dX8_host_14 : decode cX8_host 14 = .ok (.invokestatic 159, 3) := by decide +kernel
theorem dX8_host_17 : decode cX8_host 17 = .ok (.ifCond .eq 35, 3) := by decide +kernel
theorem dX8_host_20 : decode cX8_host 20 = .ok (.iload_n 3, 1) := by decide +kernel
theorem dX8_host_21 : decode cX8_host 21 = .ok (.iload_n 2, 1) := by decide +kernel
theorem dX8_host_22 : decode cX8_host 22 = .ok (.sipush 250, 3) := by decide +kernel
theorem dX8_host_25 : decode cX8_host 25 = .ok (.invokestatic 159, 3) := by decide +kernel
theorem dX8_host_28 : decode cX8_host 28 = .ok (.ifCond .eq 24, 3) := by decide +kernel
theorem dX8_host_31 : decode cX8_host 31 = .ok (.iload 4, 2) := by decide +kernel
theorem dX8_host_33 : decode cX8_host 33 = .ok (.iconst 0, 1) := by decide +kernel
theorem dX8_host_34 : decode cX8_host 34 = .ok (.sipush 1000, 3) := by decide +kernel
theorem dX8_host_37 : decode cX8_host 37 = .ok (.invokestatic 159, 3) := by decide +kernel
theorem dX8_host_40 : decode cX8_host 40 = .ok (.ifCond .eq 12, 3) := by decide +kernel
theorem dX8_host_43 : decode cX8_host 43 = .ok (.aload_n 0, 1) := by decide +kernel
theorem dX8_host_44 : decode cX8_host 44 = .ok (.getfield 155, 3) := by decide +kernel
theorem dX8_host_47 : decode cX8_host 47 = .ok (.bipush 12, 2) := by decide +kernel
theorem dX8_host_49 : decode cX8_host 49 = .ok (.if_icmp .ne 5, 3) := by decide +kernel
theorem dX8_host_52 : decode cX8_host 52 = .ok (.iconst (-1), 1) := by decide +kernel
theorem dX8_host_53 : decode cX8_host 53 = .ok (.ireturn, 1) := by decide +kernel
theorem dX8_host_54 : decode cX8_host 54 = .ok (.aload_n 0, 1) := by decide +kernel
theorem dX8_host_55 : decode cX8_host 55 = .ok (.getfield 155, 3) := by decide +kernel
theorem dX8_host_58 : decode cX8_host 58 = .ok (.istore 5, 2) := by decide +kernel
theorem dX8_host_60 : decode cX8_host 60 = .ok (.aload_n 0, 1) := by decide +kernel
theorem dX8_host_61 : decode cX8_host 61 = .ok (.getfield 9, 3) := by decide +kernel
theorem dX8_host_64 : decode cX8_host 64 = .ok (.iload 5, 2) := by decide +kernel
theorem dX8_host_66 : decode cX8_host 66 = .ok (.iload_n 1, 1) := by decide +kernel
theorem dX8_host_67 : decode cX8_host 67 = .ok (.iastore, 1) := by decide +kernel
theorem dX8_host_68 : decode cX8_host 68 = .ok (.aload_n 0, 1) := by decide +kernel
theorem dX8_host_69 : decode cX8_host 69 = .ok (.getfield 13, 3) := by decide +kernel
theorem dX8_host_72 : decode cX8_host 72 = .ok (.iload 5, 2) := by decide +kernel
theorem dX8_host_74 : decode cX8_host 74 = .ok (.iconst (-1), 1) := by decide +kernel
theorem dX8_host_75 : decode cX8_host 75 = .ok (.iastore, 1) := by decide +kernel
theorem dX8_host_76 : decode cX8_host 76 = .ok (.aload_n 0, 1) := by decide +kernel
theorem dX8_host_77 : decode cX8_host 77 = .ok (.getfield 16, 3) := by decide +kernel
theorem dX8_host_80 : decode cX8_host 80 = .ok (.iload 5, 2) := by decide +kernel
theorem dX8_host_82 : decode cX8_host 82 = .ok (.iload_n 2, 1) := by decide +kernel
theorem dX8_host_83 : decode cX8_host 83 = .ok (.iastore, 1) := by decide +kernel
theorem dX8_host_84 : decode cX8_host 84 = .ok (.aload_n 0, 1) := by decide +kernel
theorem dX8_host_85 : decode cX8_host 85 = .ok (.getfield 19, 3) := by decide +kernel
theorem dX8_host_88 : decode cX8_host 88 = .ok (.iload 5, 2) := by decide +kernel
theorem dX8_host_90 : decode cX8_host 90 = .ok (.iload_n 3, 1) := by decide +kernel
theorem dX8_host_91 : decode cX8_host 91 = .ok (.iastore, 1) := by decide +kernel
theorem dX8_host_92 : decode cX8_host 92 = .ok (.aload_n 0, 1) := by decide +kernel
theorem dX8_host_93 : decode cX8_host 93 = .ok (.getfield 22, 3) := by decide +kernel
theorem dX8_host_96 : decode cX8_host 96 = .ok (.iload 5, 2) := by decide +kernel
theorem dX8_host_98 : decode cX8_host 98 = .ok (.iload 4, 2) := by decide +kernel
theorem dX8_host_100 : decode cX8_host 100 = .ok (.iastore, 1) := by decide +kernel
theorem dX8_host_101 : decode cX8_host 101 = .ok (.aload_n 0, 1) := by decide +kernel
theorem dX8_host_102 : decode cX8_host 102 = .ok (.getfield 25, 3) := by decide +kernel
theorem dX8_host_105 : decode cX8_host 105 = .ok (.iload 5, 2) := by decide +kernel
theorem dX8_host_107 : decode cX8_host 107 = .ok (.iconst 2, 1) := by decide +kernel
theorem dX8_host_108 : decode cX8_host 108 = .ok (.iastore, 1) := by decide +kernel
theorem dX8_host_109 : decode cX8_host 109 = .ok (.aload_n 0, 1) := by decide +kernel
theorem dX8_host_110 : decode cX8_host 110 = .ok (.getfield 41, 3) := by decide +kernel
theorem dX8_host_113 : decode cX8_host 113 = .ok (.iload 5, 2) := by decide +kernel
theorem dX8_host_115 : decode cX8_host 115 = .ok (.iconst (-1), 1) := by decide +kernel
theorem dX8_host_116 : decode cX8_host 116 = .ok (.iastore, 1) := by decide +kernel
theorem dX8_host_117 : decode cX8_host 117 = .ok (.aload_n 0, 1) := by decide +kernel
theorem dX8_host_118 : decode cX8_host 118 = .ok (.dup, 1) := by decide +kernel
theorem dX8_host_119 : decode cX8_host 119 = .ok (.getfield 155, 3) := by decide +kernel
theorem dX8_host_122 : decode cX8_host 122 = .ok (.iconst 1, 1) := by decide +kernel
theorem dX8_host_123 : decode cX8_host 123 = .ok (.iadd, 1) := by decide +kernel
theorem dX8_host_124 : decode cX8_host 124 = .ok (.putfield 155, 3) := by decide +kernel
theorem dX8_host_127 : decode cX8_host 127 = .ok (.iload 5, 2) := by decide +kernel
theorem dX8_host_129 : decode cX8_host 129 = .ok (.ireturn, 1) := by decide +kernel
theorem dX8_many_0 : decode cX8_many 0 = .ok (.iconst 0, 1) := by decide +kernel
theorem dX8_many_1 : decode cX8_many 1 = .ok (.istore_n 2, 1) := by decide +kernel
theorem dX8_many_2 : decode cX8_many 2 = .ok (.iconst 0, 1) := by decide +kernel
theorem dX8_many_3 : decode cX8_many 3 = .ok (.istore_n 3, 1) := by decide +kernel
theorem dX8_many_4 : decode cX8_many 4 = .ok (.iload_n 3, 1) := by decide +kernel
theorem dX8_many_5 : decode cX8_many 5 = .ok (.aload_n 0, 1) := by decide +kernel
theorem dX8_many_6 : decode cX8_many 6 = .ok (.getfield 170, 3) := by decide +kernel
theorem dX8_many_9 : decode cX8_many 9 = .ok (.if_icmp .ge 36, 3) := by decide +kernel
theorem dX8_many_12 : decode cX8_many 12 = .ok (.iload_n 2, 1) := by decide +kernel
theorem dX8_many_13 : decode cX8_many 13 = .ok (.aload_n 0, 1) := by decide +kernel
theorem dX8_many_14 : decode cX8_many 14 = .ok (.getfield 53, 3) := by decide +kernel
theorem dX8_many_17 : decode cX8_many 17 = .ok (.iload_n 3, 1) := by decide +kernel
theorem dX8_many_18 : decode cX8_many 18 = .ok (.iaload, 1) := by decide +kernel
theorem dX8_many_19 : decode cX8_many 19 = .ok (.iload_n 1, 1) := by decide +kernel
theorem dX8_many_20 : decode cX8_many 20 = .ok (.if_icmp .ne 16, 3) := by decide +kernel
theorem dX8_many_23 : decode cX8_many 23 = .ok (.aload_n 0, 1) := by decide +kernel
theorem dX8_many_24 : decode cX8_many 24 = .ok (.getfield 68, 3) := by decide +kernel
theorem dX8_many_27 : decode cX8_many 27 = .ok (.iload_n 3, 1) := by decide +kernel
theorem dX8_many_28 : decode cX8_many 28 = .ok (.iaload, 1) := by decide +kernel
theorem dX8_many_29 : decode cX8_many 29 = .ok (.ifCond .eq 7, 3) := by decide +kernel
theorem dX8_many_32 : decode cX8_many 32 = .ok (.iconst 1, 1) := by decide +kernel
theorem dX8_many_33 : decode cX8_many 33 = .ok (.goto 4, 3) := by decide +kernel
theorem dX8_many_36 : decode cX8_many 36 = .ok (.iconst 0, 1) := by decide +kernel
theorem dX8_many_37 : decode cX8_many 37 = .ok (.iadd, 1) := by decide +kernel
theorem dX8_many_38 : decode cX8_many 38 = .ok (.istore_n 2, 1) := by decide +kernel
theorem dX8_many_39 : decode cX8_many 39 = .ok (.iinc 3 1, 3) := by decide +kernel
theorem dX8_many_42 : decode cX8_many 42 = .ok (.goto (-38), 3) := by decide +kernel
theorem dX8_many_45 : decode cX8_many 45 = .ok (.iload_n 2, 1) := by decide +kernel
theorem dX8_many_46 : decode cX8_many 46 = .ok (.ireturn, 1) := by decide +kernel
theorem dX8_isNamed_0 : decode cX8_isNamed 0 = .ok (.iconst 0, 1) := by decide +kernel
theorem dX8_isNamed_1 : decode cX8_isNamed 1 = .ok (.istore 4, 2) := by decide +kernel
theorem dX8_isNamed_3 : decode cX8_isNamed 3 = .ok (.iload 4, 2) := by decide +kernel
theorem dX8_isNamed_5 : decode cX8_isNamed 5 = .ok (.aload_n 0, 1) := by decide +kernel
theorem dX8_isNamed_6 : decode cX8_isNamed 6 = .ok (.getfield 170, 3) := by decide +kernel
theorem dX8_isNamed_9 : decode cX8_isNamed 9 = .ok (.if_icmp .ge 49, 3) := by decide +kernel
theorem dX8_isNamed_12 : decode cX8_isNamed 12 = .ok (.iload 4, 2) := by decide +kernel
theorem dX8_isNamed_14 : decode cX8_isNamed 14 = .ok (.iload_n 3, 1) := by decide +kernel
theorem dX8_isNamed_15 : decode cX8_isNamed 15 = .ok (.if_icmp .eq 37, 3) := by decide +kernel
theorem dX8_isNamed_18 : decode cX8_isNamed 18 = .ok (.aload_n 0, 1) := by decide +kernel
theorem dX8_isNamed_19 : decode cX8_isNamed 19 = .ok (.getfield 53, 3) := by decide +kernel
theorem dX8_isNamed_22 : decode cX8_isNamed 22 = .ok (.iload 4, 2) := by decide +kernel
theorem dX8_isNamed_24 : decode cX8_isNamed 24 = .ok (.iaload, 1) := by decide +kernel
theorem dX8_isNamed_25 : decode cX8_isNamed 25 = .ok (.iload_n 1, 1) := by decide +kernel
theorem dX8_isNamed_26 : decode cX8_isNamed 26 = .ok (.if_icmp .ne 26, 3) := by decide +kernel
theorem dX8_isNamed_29 : decode cX8_isNamed 29 = .ok (.aload_n 0, 1) := by decide +kernel
theorem dX8_isNamed_30 : decode cX8_isNamed 30 = .ok (.getfield 68, 3) := by decide +kernel
theorem dX8_isNamed_33 : decode cX8_isNamed 33 = .ok (.iload 4, 2) := by decide +kernel
theorem dX8_isNamed_35 : decode cX8_isNamed 35 = .ok (.iaload, 1) := by decide +kernel
theorem dX8_isNamed_36 : decode cX8_isNamed 36 = .ok (.ifCond .eq 16, 3) := by decide +kernel
theorem dX8_isNamed_39 : decode cX8_isNamed 39 = .ok (.aload_n 0, 1) := by decide +kernel
theorem dX8_isNamed_40 : decode cX8_isNamed 40 = .ok (.getfield 59, 3) := by decide +kernel
theorem dX8_isNamed_43 : decode cX8_isNamed 43 = .ok (.iload 4, 2) := by decide +kernel
theorem dX8_isNamed_45 : decode cX8_isNamed 45 = .ok (.iaload, 1) := by decide +kernel
theorem dX8_isNamed_46 : decode cX8_isNamed 46 = .ok (.iload_n 2, 1) := by decide +kernel
theorem dX8_isNamed_47 : decode cX8_isNamed 47 = .ok (.if_icmp .ne 5, 3) := by decide +kernel
theorem dX8_isNamed_50 : decode cX8_isNamed 50 = .ok (.iconst 1, 1) := by decide +kernel
theorem dX8_isNamed_51 : decode cX8_isNamed 51 = .ok (.ireturn, 1) := by decide +kernel
theorem dX8_isNamed_52 : decode cX8_isNamed 52 = .ok (.iinc 4 1, 3) := by decide +kernel
theorem dX8_isNamed_55 : decode cX8_isNamed 55 = .ok (.goto (-52), 3) := by decide +kernel
theorem dX8_isNamed_58 : decode cX8_isNamed 58 = .ok (.iconst 0, 1) := by decide +kernel
theorem dX8_isNamed_59 : decode cX8_isNamed 59 = .ok (.ireturn, 1) := by decide +kernel
theorem dX8_mayOffer_0 : decode cX8_mayOffer 0 = .ok (.aload_n 0, 1) := by decide +kernel
theorem dX8_mayOffer_1 : decode cX8_mayOffer 1 = .ok (.iload_n 1, 1) := by decide +kernel
theorem dX8_mayOffer_2 : decode cX8_mayOffer 2 = .ok (.invokevirtual 173, 3) := by decide +kernel
theorem dX8_mayOffer_5 : decode cX8_mayOffer 5 = .ok (.ifCond .eq 67, 3) := by decide +kernel
theorem dX8_mayOffer_8 : decode cX8_mayOffer 8 = .ok (.aload_n 0, 1) := by decide +kernel
theorem dX8_mayOffer_9 : decode cX8_mayOffer 9 = .ok (.getfield 35, 3) := by decide +kernel
theorem dX8_mayOffer_12 : decode cX8_mayOffer 12 = .ok (.iload_n 1, 1) := by decide +kernel
theorem dX8_mayOffer_13 : decode cX8_mayOffer 13 = .ok (.baload, 1) := by decide +kernel
theorem dX8_mayOffer_14 : decode cX8_mayOffer 14 = .ok (.ifCond .ne 58, 3) := by decide +kernel
theorem dX8_mayOffer_17 : decode cX8_mayOffer 17 = .ok (.aload_n 0, 1) := by decide +kernel
theorem dX8_mayOffer_18 : decode cX8_mayOffer 18 = .ok (.iload_n 1, 1) := by decide +kernel
theorem dX8_mayOffer_19 : decode cX8_mayOffer 19 = .ok (.invokevirtual 176, 3) := by decide +kernel
theorem dX8_mayOffer_22 : decode cX8_mayOffer 22 = .ok (.iconst 4, 1) := by decide +kernel
theorem dX8_mayOffer_23 : decode cX8_mayOffer 23 = .ok (.if_icmp .ge 49, 3) := by decide +kernel
theorem dX8_mayOffer_26 : decode cX8_mayOffer 26 = .ok (.iload_n 2, 1) := by decide +kernel
theorem dX8_mayOffer_27 : decode cX8_mayOffer 27 = .ok (.iconst 0, 1) := by decide +kernel
theorem dX8_mayOffer_28 : decode cX8_mayOffer 28 = .ok (.bipush 15, 2) := by decide +kernel
theorem dX8_mayOffer_30 : decode cX8_mayOffer 30 = .ok (.invokestatic 159, 3) := by decide +kernel
theorem dX8_mayOffer_33 : decode cX8_mayOffer 33 = .ok (.ifCond .eq 39, 3) := by decide +kernel
theorem dX8_mayOffer_36 : decode cX8_mayOffer 36 = .ok (.iload_n 3, 1) := by decide +kernel
theorem dX8_mayOffer_37 : decode cX8_mayOffer 37 = .ok (.iconst 0, 1) := by decide +kernel
theorem dX8_mayOffer_38 : decode cX8_mayOffer 38 = .ok (.sipush 255, 3) := by decide +kernel
theorem dX8_mayOffer_41 : decode cX8_mayOffer 41 = .ok (.invokestatic 159, 3) := by decide +kernel
theorem dX8_mayOffer_44 : decode cX8_mayOffer 44 = .ok (.ifCond .eq 28, 3) := by decide +kernel
theorem dX8_mayOffer_47 : decode cX8_mayOffer 47 = .ok (.iload 4, 2) := by decide +kernel
theorem dX8_mayOffer_49 : decode cX8_mayOffer 49 = .ok (.iconst 4, 1) := by decide +kernel
theorem dX8_mayOffer_50 : decode cX8_mayOffer 50 = .ok (.sipush 200, 3) := by decide +kernel
theorem dX8_mayOffer_53 : decode cX8_mayOffer 53 = .ok (.invokestatic 159, 3) := by decide +kernel
theorem dX8_mayOffer_56 : decode cX8_mayOffer 56 = .ok (.ifCond .eq 16, 3) := by decide +kernel
theorem dX8_mayOffer_59 : decode cX8_mayOffer 59 = .ok (.aload_n 0, 1) := by decide +kernel
theorem dX8_mayOffer_60 : decode cX8_mayOffer 60 = .ok (.getfield 170, 3) := by decide +kernel
theorem dX8_mayOffer_63 : decode cX8_mayOffer 63 = .ok (.bipush 32, 2) := by decide +kernel
theorem dX8_mayOffer_65 : decode cX8_mayOffer 65 = .ok (.if_icmp .ge 7, 3) := by decide +kernel
theorem dX8_mayOffer_68 : decode cX8_mayOffer 68 = .ok (.iconst 1, 1) := by decide +kernel
theorem dX8_mayOffer_69 : decode cX8_mayOffer 69 = .ok (.goto 4, 3) := by decide +kernel
theorem dX8_mayOffer_72 : decode cX8_mayOffer 72 = .ok (.iconst 0, 1) := by decide +kernel
theorem dX8_mayOffer_73 : decode cX8_mayOffer 73 = .ok (.ireturn, 1) := by decide +kernel
theorem dX8_comes_0 : decode cX8_comes 0 = .ok (.aload_n 0, 1) := by decide +kernel
theorem dX8_comes_1 : decode cX8_comes 1 = .ok (.getfield 170, 3) := by decide +kernel
theorem dX8_comes_4 : decode cX8_comes 4 = .ok (.istore 6, 2) := by decide +kernel
theorem dX8_comes_6 : decode cX8_comes 6 = .ok (.aload_n 0, 1) := by decide +kernel
theorem dX8_comes_7 : decode cX8_comes 7 = .ok (.getfield 53, 3) := by decide +kernel
theorem dX8_comes_10 : decode cX8_comes 10 = .ok (.iload 6, 2) := by decide +kernel
theorem dX8_comes_12 : decode cX8_comes 12 = .ok (.iload_n 1, 1) := by decide +kernel
theorem dX8_comes_13 : decode cX8_comes 13 = .ok (.iastore, 1) := by decide +kernel
theorem dX8_comes_14 : decode cX8_comes 14 = .ok (.aload_n 0, 1) := by decide +kernel
theorem dX8_comes_15 : decode cX8_comes 15 = .ok (.getfield 56, 3) := by decide +kernel
theorem dX8_comes_18 : decode cX8_comes 18 = .ok (.iload 6, 2) := by decide +kernel
theorem dX8_comes_20 : decode cX8_comes 20 = .ok (.iload_n 2, 1) := by decide +kernel
theorem dX8_comes_21 : decode cX8_comes 21 = .ok (.iastore, 1) := by decide +kernel
theorem dX8_comes_22 : decode cX8_comes 22 = .ok (.aload_n 0, 1) := by decide +kernel
theorem dX8_comes_23 : decode cX8_comes 23 = .ok (.getfield 59, 3) := by decide +kernel
theorem dX8_comes_26 : decode cX8_comes 26 = .ok (.iload 6, 2) := by decide +kernel
theorem dX8_comes_28 : decode cX8_comes 28 = .ok (.iload_n 3, 1) := by decide +kernel
theorem dX8_comes_29 : decode cX8_comes 29 = .ok (.iastore, 1) := by decide +kernel
theorem dX8_comes_30 : decode cX8_comes 30 = .ok (.aload_n 0, 1) := by decide +kernel
theorem dX8_comes_31 : decode cX8_comes 31 = .ok (.getfield 62, 3) := by decide +kernel
theorem dX8_comes_34 : decode cX8_comes 34 = .ok (.iload 6, 2) := by decide +kernel
theorem dX8_comes_36 : decode cX8_comes 36 = .ok (.iload 4, 2) := by decide +kernel
theorem dX8_comes_38 : decode cX8_comes 38 = .ok (.iastore, 1) := by decide +kernel
theorem dX8_comes_39 : decode cX8_comes 39 = .ok (.aload_n 0, 1) := by decide +kernel
theorem dX8_comes_40 : decode cX8_comes 40 = .ok (.getfield 65, 3) := by decide +kernel
theorem dX8_comes_43 : decode cX8_comes 43 = .ok (.iload 6, 2) := by decide +kernel
theorem dX8_comes_45 : decode cX8_comes 45 = .ok (.iload 5, 2) := by decide +kernel
theorem dX8_comes_47 : decode cX8_comes 47 = .ok (.iastore, 1) := by decide +kernel
theorem dX8_comes_48 : decode cX8_comes 48 = .ok (.aload_n 0, 1) := by decide +kernel
theorem dX8_comes_49 : decode cX8_comes 49 = .ok (.getfield 68, 3) := by decide +kernel
theorem dX8_comes_52 : decode cX8_comes 52 = .ok (.iload 6, 2) := by decide +kernel
theorem dX8_comes_54 : decode cX8_comes 54 = .ok (.iconst 1, 1) := by decide +kernel
theorem dX8_comes_55 : decode cX8_comes 55 = .ok (.iastore, 1) := by decide +kernel
theorem dX8_comes_56 : decode cX8_comes 56 = .ok (.aload_n 0, 1) := by decide +kernel
theorem dX8_comes_57 : decode cX8_comes 57 = .ok (.getfield 71, 3) := by decide +kernel
theorem dX8_comes_60 : decode cX8_comes 60 = .ok (.iload 6, 2) := by decide +kernel
theorem dX8_comes_62 : decode cX8_comes 62 = .ok (.iconst 3, 1) := by decide +kernel
theorem dX8_comes_63 : decode cX8_comes 63 = .ok (.iastore, 1) := by decide +kernel
theorem dX8_comes_64 : decode cX8_comes 64 = .ok (.aload_n 0, 1) := by decide +kernel
theorem dX8_comes_65 : decode cX8_comes 65 = .ok (.getfield 74, 3) := by decide +kernel
theorem dX8_comes_68 : decode cX8_comes 68 = .ok (.iload 6, 2) := by decide +kernel
theorem dX8_comes_70 : decode cX8_comes 70 = .ok (.iconst (-1), 1) := by decide +kernel
theorem dX8_comes_71 : decode cX8_comes 71 = .ok (.iastore, 1) := by decide +kernel
theorem dX8_comes_72 : decode cX8_comes 72 = .ok (.aload_n 0, 1) := by decide +kernel
theorem dX8_comes_73 : decode cX8_comes 73 = .ok (.dup, 1) := by decide +kernel
theorem dX8_comes_74 : decode cX8_comes 74 = .ok (.getfield 170, 3) := by decide +kernel
theorem dX8_comes_77 : decode cX8_comes 77 = .ok (.iconst 1, 1) := by decide +kernel
theorem dX8_comes_78 : decode cX8_comes 78 = .ok (.iadd, 1) := by decide +kernel
theorem dX8_comes_79 : decode cX8_comes 79 = .ok (.putfield 170, 3) := by decide +kernel
theorem dX8_comes_82 : decode cX8_comes 82 = .ok (.iload 6, 2) := by decide +kernel
theorem dX8_comes_84 : decode cX8_comes 84 = .ok (.ireturn, 1) := by decide +kernel
theorem dX8_offer_0 : decode cX8_offer 0 = .ok (.aload_n 0, 1) := by decide +kernel
theorem dX8_offer_1 : decode cX8_offer 1 = .ok (.iload_n 1, 1) := by decide +kernel
theorem dX8_offer_2 : decode cX8_offer 2 = .ok (.iload_n 2, 1) := by decide +kernel
theorem dX8_offer_3 : decode cX8_offer 3 = .ok (.iload 4, 2) := by decide +kernel
theorem dX8_offer_5 : decode cX8_offer 5 = .ok (.iload 5, 2) := by decide +kernel
theorem dX8_offer_7 : decode cX8_offer 7 = .ok (.invokevirtual 180, 3) := by decide +kernel
theorem dX8_offer_10 : decode cX8_offer 10 = .ok (.ifCond .eq 32, 3) := by decide +kernel
theorem dX8_offer_13 : decode cX8_offer 13 = .ok (.iload_n 3, 1) := by decide +kernel
theorem dX8_offer_14 : decode cX8_offer 14 = .ok (.aload_n 0, 1) := by decide +kernel
theorem dX8_offer_15 : decode cX8_offer 15 = .ok (.getfield 16, 3) := by decide +kernel
theorem dX8_offer_18 : decode cX8_offer 18 = .ok (.iload_n 1, 1) := by decide +kernel
theorem dX8_offer_19 : decode cX8_offer 19 = .ok (.iaload, 1) := by decide +kernel
theorem dX8_offer_20 : decode cX8_offer 20 = .ok (.aload_n 0, 1) := by decide +kernel
theorem dX8_offer_21 : decode cX8_offer 21 = .ok (.getfield 19, 3) := by decide +kernel
theorem dX8_offer_24 : decode cX8_offer 24 = .ok (.iload_n 1, 1) := by decide +kernel
theorem dX8_offer_25 : decode cX8_offer 25 = .ok (.iaload, 1) := by decide +kernel
theorem dX8_offer_26 : decode cX8_offer 26 = .ok (.invokestatic 159, 3) := by decide +kernel
theorem dX8_offer_29 : decode cX8_offer 29 = .ok (.ifCond .eq 13, 3) := by decide +kernel
theorem dX8_offer_32 : decode cX8_offer 32 = .ok (.aload_n 0, 1) := by decide +kernel
theorem dX8_offer_33 : decode cX8_offer 33 = .ok (.iload_n 1, 1) := by decide +kernel
theorem dX8_offer_34 : decode cX8_offer 34 = .ok (.iload_n 3, 1) := by decide +kernel
theorem dX8_offer_35 : decode cX8_offer 35 = .ok (.iconst (-1), 1) := by decide +kernel
theorem dX8_offer_36 : decode cX8_offer 36 = .ok (.invokevirtual 184, 3) := by decide +kernel
theorem dX8_offer_39 : decode cX8_offer 39 = .ok (.ifCond .eq 5, 3) := by decide +kernel
theorem dX8_offer_42 : decode cX8_offer 42 = .ok (.iconst (-1), 1) := by decide +kernel
theorem dX8_offer_43 : decode cX8_offer 43 = .ok (.ireturn, 1) := by decide +kernel
theorem dX8_offer_44 : decode cX8_offer 44 = .ok (.aload_n 0, 1) := by decide +kernel
theorem dX8_offer_45 : decode cX8_offer 45 = .ok (.iload_n 1, 1) := by decide +kernel
theorem dX8_offer_46 : decode cX8_offer 46 = .ok (.iload_n 2, 1) := by decide +kernel
theorem dX8_offer_47 : decode cX8_offer 47 = .ok (.iload_n 3, 1) := by decide +kernel
theorem dX8_offer_48 : decode cX8_offer 48 = .ok (.iload 4, 2) := by decide +kernel
theorem dX8_offer_50 : decode cX8_offer 50 = .ok (.iload 5, 2) := by decide +kernel
theorem dX8_offer_52 : decode cX8_offer 52 = .ok (.invokevirtual 187, 3) := by decide +kernel
theorem dX8_offer_55 : decode cX8_offer 55 = .ok (.ireturn, 1) := by decide +kernel
theorem dX8_lie_0 : decode cX8_lie 0 = .ok (.aload_n 0, 1) := by decide +kernel
theorem dX8_lie_1 : decode cX8_lie 1 = .ok (.iload_n 1, 1) := by decide +kernel
theorem dX8_lie_2 : decode cX8_lie 2 = .ok (.iload_n 2, 1) := by decide +kernel
theorem dX8_lie_3 : decode cX8_lie 3 = .ok (.iload 4, 2) := by decide +kernel
theorem dX8_lie_5 : decode cX8_lie 5 = .ok (.iload 5, 2) := by decide +kernel
theorem dX8_lie_7 : decode cX8_lie 7 = .ok (.invokevirtual 180, 3) := by decide +kernel
theorem dX8_lie_10 : decode cX8_lie 10 = .ok (.ifCond .eq 24, 3) := by decide +kernel
theorem dX8_lie_13 : decode cX8_lie 13 = .ok (.iload_n 3, 1) := by decide +kernel
theorem dX8_lie_14 : decode cX8_lie 14 = .ok (.iconst 1, 1) := by decide +kernel
theorem dX8_lie_15 : decode cX8_lie 15 = .ok (.sipush 250, 3) := by decide +kernel
theorem dX8_lie_18 : decode cX8_lie 18 = .ok (.invokestatic 159, 3) := by decide +kernel
theorem dX8_lie_21 : decode cX8_lie 21 = .ok (.ifCond .eq 13, 3) := by decide +kernel
theorem dX8_lie_24 : decode cX8_lie 24 = .ok (.aload_n 0, 1) := by decide +kernel
theorem dX8_lie_25 : decode cX8_lie 25 = .ok (.iload_n 1, 1) := by decide +kernel
theorem dX8_lie_26 : decode cX8_lie 26 = .ok (.iload_n 3, 1) := by decide +kernel
theorem dX8_lie_27 : decode cX8_lie 27 = .ok (.iconst (-1), 1) := by decide +kernel
theorem dX8_lie_28 : decode cX8_lie 28 = .ok (.invokevirtual 184, 3) := by decide +kernel
theorem dX8_lie_31 : decode cX8_lie 31 = .ok (.ifCond .eq 5, 3) := by decide +kernel
theorem dX8_lie_34 : decode cX8_lie 34 = .ok (.iconst (-1), 1) := by decide +kernel
theorem dX8_lie_35 : decode cX8_lie 35 = .ok (.ireturn, 1) := by decide +kernel
theorem dX8_lie_36 : decode cX8_lie 36 = .ok (.aload_n 0, 1) := by decide +kernel
theorem dX8_lie_37 : decode cX8_lie 37 = .ok (.iload_n 1, 1) := by decide +kernel
theorem dX8_lie_38 : decode cX8_lie 38 = .ok (.iload_n 2, 1) := by decide +kernel
theorem dX8_lie_39 : decode cX8_lie 39 = .ok (.iload_n 3, 1) := by decide +kernel
theorem dX8_lie_40 : decode cX8_lie 40 = .ok (.iload 4, 2) := by decide +kernel
theorem dX8_lie_42 : decode cX8_lie 42 = .ok (.iload 5, 2) := by decide +kernel
theorem dX8_lie_44 : decode cX8_lie 44 = .ok (.invokevirtual 187, 3) := by decide +kernel
theorem dX8_lie_47 : decode cX8_lie 47 = .ok (.istore 6, 2) := by decide +kernel
theorem dX8_lie_49 : decode cX8_lie 49 = .ok (.aload_n 0, 1) := by decide +kernel
theorem dX8_lie_50 : decode cX8_lie 50 = .ok (.getfield 83, 3) := by decide +kernel
theorem dX8_lie_53 : decode cX8_lie 53 = .ok (.iload 6, 2) := by decide +kernel
theorem dX8_lie_55 : decode cX8_lie 55 = .ok (.iconst 1, 1) := by decide +kernel
theorem dX8_lie_56 : decode cX8_lie 56 = .ok (.bastore, 1) := by decide +kernel
theorem dX8_lie_57 : decode cX8_lie 57 = .ok (.aload_n 0, 1) := by decide +kernel
theorem dX8_lie_58 : decode cX8_lie 58 = .ok (.getfield 68, 3) := by decide +kernel
theorem dX8_lie_61 : decode cX8_lie 61 = .ok (.iload 6, 2) := by decide +kernel
theorem dX8_lie_63 : decode cX8_lie 63 = .ok (.iconst 2, 1) := by decide +kernel
theorem dX8_lie_64 : decode cX8_lie 64 = .ok (.iastore, 1) := by decide +kernel
theorem dX8_lie_65 : decode cX8_lie 65 = .ok (.aload_n 0, 1) := by decide +kernel
theorem dX8_lie_66 : decode cX8_lie 66 = .ok (.getfield 71, 3) := by decide +kernel
theorem dX8_lie_69 : decode cX8_lie 69 = .ok (.iload 6, 2) := by decide +kernel
theorem dX8_lie_71 : decode cX8_lie 71 = .ok (.iconst 0, 1) := by decide +kernel
theorem dX8_lie_72 : decode cX8_lie 72 = .ok (.iastore, 1) := by decide +kernel
theorem dX8_lie_73 : decode cX8_lie 73 = .ok (.aload_n 0, 1) := by decide +kernel
theorem dX8_lie_74 : decode cX8_lie 74 = .ok (.getfield 74, 3) := by decide +kernel
theorem dX8_lie_77 : decode cX8_lie 77 = .ok (.iload 6, 2) := by decide +kernel
theorem dX8_lie_79 : decode cX8_lie 79 = .ok (.aload_n 0, 1) := by decide +kernel
theorem dX8_lie_80 : decode cX8_lie 80 = .ok (.getfield 191, 3) := by decide +kernel
theorem dX8_lie_83 : decode cX8_lie 83 = .ok (.iastore, 1) := by decide +kernel
theorem dX8_lie_84 : decode cX8_lie 84 = .ok (.iload 6, 2) := by decide +kernel
theorem dX8_lie_86 : decode cX8_lie 86 = .ok (.ireturn, 1) := by decide +kernel
theorem dX8_goes_0 : decode cX8_goes 0 = .ok (.aload_n 0, 1) := by decide +kernel
theorem dX8_goes_1 : decode cX8_goes 1 = .ok (.getfield 68, 3) := by decide +kernel
theorem dX8_goes_4 : decode cX8_goes 4 = .ok (.iload_n 1, 1) := by decide +kernel
theorem dX8_goes_5 : decode cX8_goes 5 = .ok (.iaload, 1) := by decide +kernel
theorem dX8_goes_6 : decode cX8_goes 6 = .ok (.iconst 2, 1) := by decide +kernel
theorem dX8_goes_7 : decode cX8_goes 7 = .ok (.if_icmp .ne 14, 3) := by decide +kernel
theorem dX8_goes_10 : decode cX8_goes 10 = .ok (.iload_n 2, 1) := by decide +kernel
theorem dX8_goes_11 : decode cX8_goes 11 = .ok (.ifCond .eq 10, 3) := by decide +kernel
theorem dX8_goes_14 : decode cX8_goes 14 = .ok (.aload_n 0, 1) := by decide +kernel
theorem dX8_goes_15 : decode cX8_goes 15 = .ok (.getfield 80, 3) := by decide +kernel
theorem dX8_goes_18 : decode cX8_goes 18 = .ok (.iload_n 1, 1) := by decide +kernel
theorem dX8_goes_19 : decode cX8_goes 19 = .ok (.iconst 1, 1) := by decide +kernel
theorem dX8_goes_20 : decode cX8_goes 20 = .ok (.bastore, 1) := by decide +kernel
theorem dX8_goes_21 : decode cX8_goes 21 = .ok (.aload_n 0, 1) := by decide +kernel
theorem dX8_goes_22 : decode cX8_goes 22 = .ok (.getfield 68, 3) := by decide +kernel
theorem dX8_goes_25 : decode cX8_goes 25 = .ok (.iload_n 1, 1) := by decide +kernel
theorem dX8_goes_26 : decode cX8_goes 26 = .ok (.iconst 0, 1) := by decide +kernel
theorem dX8_goes_27 : decode cX8_goes 27 = .ok (.iastore, 1) := by decide +kernel
theorem dX8_goes_28 : decode cX8_goes 28 = .ok (.aload_n 0, 1) := by decide +kernel
theorem dX8_goes_29 : decode cX8_goes 29 = .ok (.getfield 71, 3) := by decide +kernel
theorem dX8_goes_32 : decode cX8_goes 32 = .ok (.iload_n 1, 1) := by decide +kernel
theorem dX8_goes_33 : decode cX8_goes 33 = .ok (.iconst 0, 1) := by decide +kernel
theorem dX8_goes_34 : decode cX8_goes 34 = .ok (.iastore, 1) := by decide +kernel
theorem dX8_goes_35 : decode cX8_goes 35 = .ok (.aload_n 0, 1) := by decide +kernel
theorem dX8_goes_36 : decode cX8_goes 36 = .ok (.getfield 74, 3) := by decide +kernel
theorem dX8_goes_39 : decode cX8_goes 39 = .ok (.iload_n 1, 1) := by decide +kernel
theorem dX8_goes_40 : decode cX8_goes 40 = .ok (.iconst (-1), 1) := by decide +kernel
theorem dX8_goes_41 : decode cX8_goes 41 = .ok (.iastore, 1) := by decide +kernel
theorem dX8_goes_42 : decode cX8_goes 42 = .ok (.return_, 1) := by decide +kernel
theorem dX8_isOpen_0 : decode cX8_isOpen 0 = .ok (.aload_n 0, 1) := by decide +kernel
theorem dX8_isOpen_1 : decode cX8_isOpen 1 = .ok (.iload_n 1, 1) := by decide +kernel
theorem dX8_isOpen_2 : decode cX8_isOpen 2 = .ok (.invokevirtual 194, 3) := by decide +kernel
theorem dX8_isOpen_5 : decode cX8_isOpen 5 = .ok (.ifCond .eq 29, 3) := by decide +kernel
theorem dX8_isOpen_8 : decode cX8_isOpen 8 = .ok (.aload_n 0, 1) := by decide +kernel
theorem dX8_isOpen_9 : decode cX8_isOpen 9 = .ok (.getfield 68, 3) := by decide +kernel
theorem dX8_isOpen_12 : decode cX8_isOpen 12 = .ok (.iload_n 1, 1) := by decide +kernel
theorem dX8_isOpen_13 : decode cX8_isOpen 13 = .ok (.iaload, 1) := by decide +kernel
theorem dX8_isOpen_14 : decode cX8_isOpen 14 = .ok (.ifCond .eq 20, 3) := by decide +kernel
theorem dX8_isOpen_17 : decode cX8_isOpen 17 = .ok (.aload_n 0, 1) := by decide +kernel
theorem dX8_isOpen_18 : decode cX8_isOpen 18 = .ok (.aload_n 0, 1) := by decide +kernel
theorem dX8_isOpen_19 : decode cX8_isOpen 19 = .ok (.getfield 53, 3) := by decide +kernel
theorem dX8_isOpen_22 : decode cX8_isOpen 22 = .ok (.iload_n 1, 1) := by decide +kernel
theorem dX8_isOpen_23 : decode cX8_isOpen 23 = .ok (.iaload, 1) := by decide +kernel
theorem dX8_isOpen_24 : decode cX8_isOpen 24 = .ok (.invokevirtual 173, 3) := by decide +kernel
theorem dX8_isOpen_27 : decode cX8_isOpen 27 = .ok (.ifCond .eq 7, 3) := by decide +kernel
theorem dX8_isOpen_30 : decode cX8_isOpen 30 = .ok (.iconst 1, 1) := by decide +kernel
theorem dX8_isOpen_31 : decode cX8_isOpen 31 = .ok (.goto 4, 3) := by decide +kernel
theorem dX8_isOpen_34 : decode cX8_isOpen 34 = .ok (.iconst 0, 1) := by decide +kernel
theorem dX8_isOpen_35 : decode cX8_isOpen 35 = .ok (.ireturn, 1) := by decide +kernel
theorem dX8_drop_0 : decode cX8_drop 0 = .ok (.aload_n 0, 1) := by decide +kernel
theorem dX8_drop_1 : decode cX8_drop 1 = .ok (.iload_n 1, 1) := by decide +kernel
theorem dX8_drop_2 : decode cX8_drop 2 = .ok (.invokevirtual 197, 3) := by decide +kernel
theorem dX8_drop_5 : decode cX8_drop 5 = .ok (.ifCond .ne 5, 3) := by decide +kernel
theorem dX8_drop_8 : decode cX8_drop 8 = .ok (.iconst 0, 1) := by decide +kernel
theorem dX8_drop_9 : decode cX8_drop 9 = .ok (.ireturn, 1) := by decide +kernel
theorem dX8_drop_10 : decode cX8_drop 10 = .ok (.aload_n 0, 1) := by decide +kernel
theorem dX8_drop_11 : decode cX8_drop 11 = .ok (.iload_n 1, 1) := by decide +kernel
theorem dX8_drop_12 : decode cX8_drop 12 = .ok (.iconst 1, 1) := by decide +kernel
theorem dX8_drop_13 : decode cX8_drop 13 = .ok (.invokevirtual 200, 3) := by decide +kernel
theorem dX8_drop_16 : decode cX8_drop 16 = .ok (.iconst 1, 1) := by decide +kernel
theorem dX8_drop_17 : decode cX8_drop 17 = .ok (.ireturn, 1) := by decide +kernel
theorem dX8_change_0 : decode cX8_change 0 = .ok (.aload_n 0, 1) := by decide +kernel
theorem dX8_change_1 : decode cX8_change 1 = .ok (.iload_n 1, 1) := by decide +kernel
theorem dX8_change_2 : decode cX8_change 2 = .ok (.invokevirtual 197, 3) := by decide +kernel
theorem dX8_change_5 : decode cX8_change 5 = .ok (.ifCond .eq 14, 3) := by decide +kernel
theorem dX8_change_8 : decode cX8_change 8 = .ok (.iload_n 2, 1) := by decide +kernel
theorem dX8_change_9 : decode cX8_change 9 = .ok (.iconst 0, 1) := by decide +kernel
theorem dX8_change_10 : decode cX8_change 10 = .ok (.sipush 255, 3) := by decide +kernel
theorem dX8_change_13 : decode cX8_change 13 = .ok (.invokestatic 159, 3) := by decide +kernel
theorem dX8_change_16 : decode cX8_change 16 = .ok (.ifCond .ne 5, 3) := by decide +kernel
theorem dX8_change_19 : decode cX8_change 19 = .ok (.iconst 0, 1) := by decide +kernel
theorem dX8_change_20 : decode cX8_change 20 = .ok (.ireturn, 1) := by decide +kernel
theorem dX8_change_21 : decode cX8_change 21 = .ok (.aload_n 0, 1) := by decide +kernel
theorem dX8_change_22 : decode cX8_change 22 = .ok (.getfield 62, 3) := by decide +kernel
theorem dX8_change_25 : decode cX8_change 25 = .ok (.iload_n 1, 1) := by decide +kernel
theorem dX8_change_26 : decode cX8_change 26 = .ok (.iload_n 2, 1) := by decide +kernel
theorem dX8_change_27 : decode cX8_change 27 = .ok (.iastore, 1) := by decide +kernel
theorem dX8_change_28 : decode cX8_change 28 = .ok (.aload_n 0, 1) := by decide +kernel
theorem dX8_change_29 : decode cX8_change 29 = .ok (.getfield 68, 3) := by decide +kernel
theorem dX8_change_32 : decode cX8_change 32 = .ok (.iload_n 1, 1) := by decide +kernel
theorem dX8_change_33 : decode cX8_change 33 = .ok (.iaload, 1) := by decide +kernel
theorem dX8_change_34 : decode cX8_change 34 = .ok (.iconst 2, 1) := by decide +kernel
theorem dX8_change_35 : decode cX8_change 35 = .ok (.if_icmp .ne 13, 3) := by decide +kernel
theorem dX8_change_38 : decode cX8_change 38 = .ok (.aload_n 0, 1) := by decide +kernel
theorem dX8_change_39 : decode cX8_change 39 = .ok (.getfield 74, 3) := by decide +kernel
theorem dX8_change_42 : decode cX8_change 42 = .ok (.iload_n 1, 1) := by decide +kernel
theorem dX8_change_43 : decode cX8_change 43 = .ok (.aload_n 0, 1) := by decide +kernel
theorem dX8_change_44 : decode cX8_change 44 = .ok (.getfield 191, 3) := by decide +kernel
theorem dX8_change_47 : decode cX8_change 47 = .ok (.iastore, 1) := by decide +kernel
theorem dX8_change_48 : decode cX8_change 48 = .ok (.iconst 1, 1) := by decide +kernel
theorem dX8_change_49 : decode cX8_change 49 = .ok (.ireturn, 1) := by decide +kernel
theorem dX8_lot_0 : decode cX8_lot 0 = .ok (.iconst 5, 1) := by decide +kernel
theorem dX8_lot_1 : decode cX8_lot 1 = .ok (.iload_n 0, 1) := by decide +kernel
theorem dX8_lot_2 : decode cX8_lot 2 = .ok (.imul, 1) := by decide +kernel
theorem dX8_lot_3 : decode cX8_lot 3 = .ok (.iconst 3, 1) := by decide +kernel
theorem dX8_lot_4 : decode cX8_lot 4 = .ok (.iload_n 1, 1) := by decide +kernel
theorem dX8_lot_5 : decode cX8_lot 5 = .ok (.imul, 1) := by decide +kernel
theorem dX8_lot_6 : decode cX8_lot 6 = .ok (.iadd, 1) := by decide +kernel
theorem dX8_lot_7 : decode cX8_lot 7 = .ok (.iconst 4, 1) := by decide +kernel
theorem dX8_lot_8 : decode cX8_lot 8 = .ok (.irem, 1) := by decide +kernel
theorem dX8_lot_9 : decode cX8_lot 9 = .ok (.ireturn, 1) := by decide +kernel
theorem dX8_ask_0 : decode cX8_ask 0 = .ok (.aload_n 0, 1) := by decide +kernel
theorem dX8_ask_1 : decode cX8_ask 1 = .ok (.iload_n 1, 1) := by decide +kernel
theorem dX8_ask_2 : decode cX8_ask 2 = .ok (.invokevirtual 173, 3) := by decide +kernel
theorem dX8_ask_5 : decode cX8_ask 5 = .ok (.ifCond .eq 47, 3) := by decide +kernel
theorem dX8_ask_8 : decode cX8_ask 8 = .ok (.aload_n 0, 1) := by decide +kernel
theorem dX8_ask_9 : decode cX8_ask 9 = .ok (.getfield 35, 3) := by decide +kernel
theorem dX8_ask_12 : decode cX8_ask 12 = .ok (.iload_n 1, 1) := by decide +kernel
theorem dX8_ask_13 : decode cX8_ask 13 = .ok (.baload, 1) := by decide +kernel
theorem dX8_ask_14 : decode cX8_ask 14 = .ok (.ifCond .ne 38, 3) := by decide +kernel
theorem dX8_ask_17 : decode cX8_ask 17 = .ok (.iload_n 2, 1) := by decide +kernel
theorem dX8_ask_18 : decode cX8_ask 18 = .ok (.iconst 0, 1) := by decide +kernel
theorem dX8_ask_19 : decode cX8_ask 19 = .ok (.bipush 15, 2) := by decide +kernel
theorem dX8_ask_21 : decode cX8_ask 21 = .ok (.invokestatic 159, 3) := by decide +kernel
theorem dX8_ask_24 : decode cX8_ask 24 = .ok (.ifCond .eq 28, 3) := by decide +kernel
theorem dX8_ask_27 : decode cX8_ask 27 = .ok (.iload_n 3, 1) := by decide +kernel
theorem dX8_ask_28 : decode cX8_ask 28 = .ok (.iconst 0, 1) := by decide +kernel
theorem dX8_ask_29 : decode cX8_ask 29 = .ok (.sipush 255, 3) := by decide +kernel
theorem dX8_ask_32 : decode cX8_ask 32 = .ok (.invokestatic 159, 3) := by decide +kernel
theorem dX8_ask_35 : decode cX8_ask 35 = .ok (.ifCond .eq 17, 3) := by decide +kernel
theorem dX8_ask_38 : decode cX8_ask 38 = .ok (.aload_n 0, 1) := by decide +kernel
theorem dX8_ask_39 : decode cX8_ask 39 = .ok (.getfield 104, 3) := by decide +kernel
theorem dX8_ask_42 : decode cX8_ask 42 = .ok (.bipush 16, 2) := by decide +kernel
theorem dX8_ask_44 : decode cX8_ask 44 = .ok (.iload_n 1, 1) := by decide +kernel
theorem dX8_ask_45 : decode cX8_ask 45 = .ok (.imul, 1) := by decide +kernel
theorem dX8_ask_46 : decode cX8_ask 46 = .ok (.iload_n 2, 1) := by decide +kernel
theorem dX8_ask_47 : decode cX8_ask 47 = .ok (.iadd, 1) := by decide +kernel
theorem dX8_ask_48 : decode cX8_ask 48 = .ok (.baload, 1) := by decide +kernel
theorem dX8_ask_49 : decode cX8_ask 49 = .ok (.ifCond .eq 5, 3) := by decide +kernel
theorem dX8_ask_52 : decode cX8_ask 52 = .ok (.iconst 0, 1) := by decide +kernel
theorem dX8_ask_53 : decode cX8_ask 53 = .ok (.ireturn, 1) := by decide +kernel
theorem dX8_ask_54 : decode cX8_ask 54 = .ok (.aload_n 0, 1) := by decide +kernel
theorem dX8_ask_55 : decode cX8_ask 55 = .ok (.getfield 104, 3) := by decide +kernel
theorem dX8_ask_58 : decode cX8_ask 58 = .ok (.bipush 16, 2) := by decide +kernel
theorem dX8_ask_60 : decode cX8_ask 60 = .ok (.iload_n 1, 1) := by decide +kernel
theorem dX8_ask_61 : decode cX8_ask 61 = .ok (.imul, 1) := by decide +kernel
theorem dX8_ask_62 : decode cX8_ask 62 = .ok (.iload_n 2, 1) := by decide +kernel
theorem dX8_ask_63 : decode cX8_ask 63 = .ok (.iadd, 1) := by decide +kernel
theorem dX8_ask_64 : decode cX8_ask 64 = .ok (.iconst 1, 1) := by decide +kernel
theorem dX8_ask_65 : decode cX8_ask 65 = .ok (.bastore, 1) := by decide +kernel
theorem dX8_ask_66 : decode cX8_ask 66 = .ok (.aload_n 0, 1) := by decide +kernel
theorem dX8_ask_67 : decode cX8_ask 67 = .ok (.getfield 107, 3) := by decide +kernel
theorem dX8_ask_70 : decode cX8_ask 70 = .ok (.bipush 16, 2) := by decide +kernel
theorem dX8_ask_72 : decode cX8_ask 72 = .ok (.iload_n 1, 1) := by decide +kernel
theorem dX8_ask_73 : decode cX8_ask 73 = .ok (.imul, 1) := by decide +kernel
theorem dX8_ask_74 : decode cX8_ask 74 = .ok (.iload_n 2, 1) := by decide +kernel
theorem dX8_ask_75 : decode cX8_ask 75 = .ok (.iadd, 1) := by decide +kernel
theorem dX8_ask_76 : decode cX8_ask 76 = .ok (.iload_n 3, 1) := by decide +kernel
theorem dX8_ask_77 : decode cX8_ask 77 = .ok (.iastore, 1) := by decide +kernel
theorem dX8_ask_78 : decode cX8_ask 78 = .ok (.aload_n 0, 1) := by decide +kernel
theorem dX8_ask_79 : decode cX8_ask 79 = .ok (.getfield 110, 3) := by decide +kernel
theorem dX8_ask_82 : decode cX8_ask 82 = .ok (.bipush 16, 2) := by decide +kernel
theorem dX8_ask_84 : decode cX8_ask 84 = .ok (.iload_n 1, 1) := by decide +kernel
theorem dX8_ask_85 : decode cX8_ask 85 = .ok (.imul, 1) := by decide +kernel
theorem dX8_ask_86 : decode cX8_ask 86 = .ok (.iload_n 2, 1) := by decide +kernel
theorem dX8_ask_87 : decode cX8_ask 87 = .ok (.iadd, 1) := by decide +kernel
theorem dX8_ask_88 : decode cX8_ask 88 = .ok (.aload_n 0, 1) := by decide +kernel
theorem dX8_ask_89 : decode cX8_ask 89 = .ok (.getfield 191, 3) := by decide +kernel
theorem dX8_ask_92 : decode cX8_ask 92 = .ok (.iload_n 1, 1) := by decide +kernel
theorem dX8_ask_93 : decode cX8_ask 93 = .ok (.aload_n 0, 1) := by decide +kernel
theorem dX8_ask_94 : decode cX8_ask 94 = .ok (.getfield 191, 3) := by decide +kernel
theorem dX8_ask_97 : decode cX8_ask 97 = .ok (.invokestatic 204, 3) := by decide +kernel
theorem dX8_ask_100 : decode cX8_ask 100 = .ok (.iadd, 1) := by decide +kernel
theorem dX8_ask_101 : decode cX8_ask 101 = .ok (.iastore, 1) := by decide +kernel
theorem dX8_ask_102 : decode cX8_ask 102 = .ok (.iconst 1, 1) := by decide +kernel
theorem dX8_ask_103 : decode cX8_ask 103 = .ok (.ireturn, 1) := by decide +kernel
theorem dX8_sleep_0 : decode cX8_sleep 0 = .ok (.aload_n 0, 1) := by decide +kernel
theorem dX8_sleep_1 : decode cX8_sleep 1 = .ok (.iload_n 1, 1) := by decide +kernel
theorem dX8_sleep_2 : decode cX8_sleep 2 = .ok (.invokevirtual 173, 3) := by decide +kernel
theorem dX8_sleep_5 : decode cX8_sleep 5 = .ok (.ifCond .eq 58, 3) := by decide +kernel
theorem dX8_sleep_8 : decode cX8_sleep 8 = .ok (.aload_n 0, 1) := by decide +kernel
theorem dX8_sleep_9 : decode cX8_sleep 9 = .ok (.iload_n 2, 1) := by decide +kernel
theorem dX8_sleep_10 : decode cX8_sleep 10 = .ok (.invokevirtual 173, 3) := by decide +kernel
theorem dX8_sleep_13 : decode cX8_sleep 13 = .ok (.ifCond .eq 50, 3) := by decide +kernel
theorem dX8_sleep_16 : decode cX8_sleep 16 = .ok (.iload_n 1, 1) := by decide +kernel
theorem dX8_sleep_17 : decode cX8_sleep 17 = .ok (.iload_n 2, 1) := by decide +kernel
theorem dX8_sleep_18 : decode cX8_sleep 18 = .ok (.if_icmp .eq 45, 3) := by decide +kernel
theorem dX8_sleep_21 : decode cX8_sleep 21 = .ok (.aload_n 0, 1) := by decide +kernel
theorem dX8_sleep_22 : decode cX8_sleep 22 = .ok (.getfield 9, 3) := by decide +kernel
theorem dX8_sleep_25 : decode cX8_sleep 25 = .ok (.iload_n 1, 1) := by decide +kernel
theorem dX8_sleep_26 : decode cX8_sleep 26 = .ok (.iaload, 1) := by decide +kernel
theorem dX8_sleep_27 : decode cX8_sleep 27 = .ok (.aload_n 0, 1) := by decide +kernel
theorem dX8_sleep_28 : decode cX8_sleep 28 = .ok (.getfield 9, 3) := by decide +kernel
theorem dX8_sleep_31 : decode cX8_sleep 31 = .ok (.iload_n 2, 1) := by decide +kernel
theorem dX8_sleep_32 : decode cX8_sleep 32 = .ok (.iaload, 1) := by decide +kernel
theorem dX8_sleep_33 : decode cX8_sleep 33 = .ok (.if_icmp .ne 30, 3) := by decide +kernel
theorem dX8_sleep_36 : decode cX8_sleep 36 = .ok (.aload_n 0, 1) := by decide +kernel
theorem dX8_sleep_37 : decode cX8_sleep 37 = .ok (.getfield 35, 3) := by decide +kernel
theorem dX8_sleep_40 : decode cX8_sleep 40 = .ok (.iload_n 1, 1) := by decide +kernel
theorem dX8_sleep_41 : decode cX8_sleep 41 = .ok (.baload, 1) := by decide +kernel
theorem dX8_sleep_42 : decode cX8_sleep 42 = .ok (.ifCond .ne 21, 3) := by decide +kernel
theorem dX8_sleep_45 : decode cX8_sleep 45 = .ok (.aload_n 0, 1) := by decide +kernel
theorem dX8_sleep_46 : decode cX8_sleep 46 = .ok (.getfield 35, 3) := by decide +kernel
theorem dX8_sleep_49 : decode cX8_sleep 49 = .ok (.iload_n 2, 1) := by decide +kernel
theorem dX8_sleep_50 : decode cX8_sleep 50 = .ok (.baload, 1) := by decide +kernel
theorem dX8_sleep_51 : decode cX8_sleep 51 = .ok (.ifCond .ne 12, 3) := by decide +kernel
theorem dX8_sleep_54 : decode cX8_sleep 54 = .ok (.aload_n 0, 1) := by decide +kernel
theorem dX8_sleep_55 : decode cX8_sleep 55 = .ok (.getfield 32, 3) := by decide +kernel
theorem dX8_sleep_58 : decode cX8_sleep 58 = .ok (.iload_n 1, 1) := by decide +kernel
theorem dX8_sleep_59 : decode cX8_sleep 59 = .ok (.baload, 1) := by decide +kernel
theorem dX8_sleep_60 : decode cX8_sleep 60 = .ok (.ifCond .eq 5, 3) := by decide +kernel
theorem dX8_sleep_63 : decode cX8_sleep 63 = .ok (.iconst 0, 1) := by decide +kernel
theorem dX8_sleep_64 : decode cX8_sleep 64 = .ok (.ireturn, 1) := by decide +kernel
theorem dX8_sleep_65 : decode cX8_sleep 65 = .ok (.aload_n 0, 1) := by decide +kernel
theorem dX8_sleep_66 : decode cX8_sleep 66 = .ok (.getfield 25, 3) := by decide +kernel
theorem dX8_sleep_69 : decode cX8_sleep 69 = .ok (.iload_n 1, 1) := by decide +kernel
theorem dX8_sleep_70 : decode cX8_sleep 70 = .ok (.iconst 1, 1) := by decide +kernel
theorem dX8_sleep_71 : decode cX8_sleep 71 = .ok (.iastore, 1) := by decide +kernel
theorem dX8_sleep_72 : decode cX8_sleep 72 = .ok (.aload_n 0, 1) := by decide +kernel
theorem dX8_sleep_73 : decode cX8_sleep 73 = .ok (.getfield 41, 3) := by decide +kernel
theorem dX8_sleep_76 : decode cX8_sleep 76 = .ok (.iload_n 1, 1) := by decide +kernel
theorem dX8_sleep_77 : decode cX8_sleep 77 = .ok (.iload_n 2, 1) := by decide +kernel
theorem dX8_sleep_78 : decode cX8_sleep 78 = .ok (.iastore, 1) := by decide +kernel
theorem dX8_sleep_79 : decode cX8_sleep 79 = .ok (.iconst 1, 1) := by decide +kernel
theorem dX8_sleep_80 : decode cX8_sleep 80 = .ok (.ireturn, 1) := by decide +kernel
theorem dX8_wakes_0 : decode cX8_wakes 0 = .ok (.aload_n 0, 1) := by decide +kernel
theorem dX8_wakes_1 : decode cX8_wakes 1 = .ok (.getfield 25, 3) := by decide +kernel
theorem dX8_wakes_4 : decode cX8_wakes 4 = .ok (.iload_n 1, 1) := by decide +kernel
theorem dX8_wakes_5 : decode cX8_wakes 5 = .ok (.iconst 2, 1) := by decide +kernel
theorem dX8_wakes_6 : decode cX8_wakes 6 = .ok (.iastore, 1) := by decide +kernel
theorem dX8_wakes_7 : decode cX8_wakes 7 = .ok (.aload_n 0, 1) := by decide +kernel
theorem dX8_wakes_8 : decode cX8_wakes 8 = .ok (.getfield 41, 3) := by decide +kernel
theorem dX8_wakes_11 : decode cX8_wakes 11 = .ok (.iload_n 1, 1) := by decide +kernel
theorem dX8_wakes_12 : decode cX8_wakes 12 = .ok (.iconst (-1), 1) := by decide +kernel
theorem dX8_wakes_13 : decode cX8_wakes 13 = .ok (.iastore, 1) := by decide +kernel
theorem dX8_wakes_14 : decode cX8_wakes 14 = .ok (.return_, 1) := by decide +kernel
theorem dX8_wake_0 : decode cX8_wake 0 = .ok (.aload_n 0, 1) := by decide +kernel
theorem dX8_wake_1 : decode cX8_wake 1 = .ok (.iload_n 1, 1) := by decide +kernel
theorem dX8_wake_2 : decode cX8_wake 2 = .ok (.invokevirtual 163, 3) := by decide +kernel
theorem dX8_wake_5 : decode cX8_wake 5 = .ok (.ifCond .eq 13, 3) := by decide +kernel
theorem dX8_wake_8 : decode cX8_wake 8 = .ok (.aload_n 0, 1) := by decide +kernel
theorem dX8_wake_9 : decode cX8_wake 9 = .ok (.getfield 25, 3) := by decide +kernel
theorem dX8_wake_12 : decode cX8_wake 12 = .ok (.iload_n 1, 1) := by decide +kernel
theorem dX8_wake_13 : decode cX8_wake 13 = .ok (.iaload, 1) := by decide +kernel
theorem dX8_wake_14 : decode cX8_wake 14 = .ok (.iconst 1, 1) := by decide +kernel
theorem dX8_wake_15 : decode cX8_wake 15 = .ok (.if_icmp .eq 5, 3) := by decide +kernel
theorem dX8_wake_18 : decode cX8_wake 18 = .ok (.iconst 0, 1) := by decide +kernel
theorem dX8_wake_19 : decode cX8_wake 19 = .ok (.ireturn, 1) := by decide +kernel
theorem dX8_wake_20 : decode cX8_wake 20 = .ok (.aload_n 0, 1) := by decide +kernel
theorem dX8_wake_21 : decode cX8_wake 21 = .ok (.iload_n 1, 1) := by decide +kernel
theorem dX8_wake_22 : decode cX8_wake 22 = .ok (.invokevirtual 208, 3) := by decide +kernel
theorem dX8_wake_25 : decode cX8_wake 25 = .ok (.iconst 1, 1) := by decide +kernel
theorem dX8_wake_26 : decode cX8_wake 26 = .ok (.ireturn, 1) := by decide +kernel
theorem dX8_empties_0 : decode cX8_empties 0 = .ok (.iconst 0, 1) := by decide +kernel
theorem dX8_empties_1 : decode cX8_empties 1 = .ok (.istore_n 2, 1) := by decide +kernel
theorem dX8_empties_2 : decode cX8_empties 2 = .ok (.iload_n 2, 1) := by decide +kernel
theorem dX8_empties_3 : decode cX8_empties 3 = .ok (.bipush 32, 2) := by decide +kernel
theorem dX8_empties_5 : decode cX8_empties 5 = .ok (.if_icmp .ge 33, 3) := by decide +kernel
theorem dX8_empties_8 : decode cX8_empties 8 = .ok (.aload_n 0, 1) := by decide +kernel
theorem dX8_empties_9 : decode cX8_empties 9 = .ok (.getfield 86, 3) := by decide +kernel
theorem dX8_empties_12 : decode cX8_empties 12 = .ok (.bipush 32, 2) := by decide +kernel
theorem dX8_empties_14 : decode cX8_empties 14 = .ok (.iload_n 1, 1) := by decide +kernel
theorem dX8_empties_15 : decode cX8_empties 15 = .ok (.imul, 1) := by decide +kernel
theorem dX8_empties_16 : decode cX8_empties 16 = .ok (.iload_n 2, 1) := by decide +kernel
theorem dX8_empties_17 : decode cX8_empties 17 = .ok (.iadd, 1) := by decide +kernel
theorem dX8_empties_18 : decode cX8_empties 18 = .ok (.iconst 0, 1) := by decide +kernel
theorem dX8_empties_19 : decode cX8_empties 19 = .ok (.bastore, 1) := by decide +kernel
theorem dX8_empties_20 : decode cX8_empties 20 = .ok (.aload_n 0, 1) := by decide +kernel
theorem dX8_empties_21 : decode cX8_empties 21 = .ok (.getfield 101, 3) := by decide +kernel
theorem dX8_empties_24 : decode cX8_empties 24 = .ok (.bipush 32, 2) := by decide +kernel
theorem dX8_empties_26 : decode cX8_empties 26 = .ok (.iload_n 1, 1) := by decide +kernel
theorem dX8_empties_27 : decode cX8_empties 27 = .ok (.imul, 1) := by decide +kernel
theorem dX8_empties_28 : decode cX8_empties 28 = .ok (.iload_n 2, 1) := by decide +kernel
theorem dX8_empties_29 : decode cX8_empties 29 = .ok (.iadd, 1) := by decide +kernel
theorem dX8_empties_30 : decode cX8_empties 30 = .ok (.iconst (-1), 1) := by decide +kernel
theorem dX8_empties_31 : decode cX8_empties 31 = .ok (.iastore, 1) := by decide +kernel
theorem dX8_empties_32 : decode cX8_empties 32 = .ok (.iinc 2 1, 3) := by decide +kernel
theorem dX8_empties_35 : decode cX8_empties 35 = .ok (.goto (-33), 3) := by decide +kernel
theorem dX8_empties_38 : decode cX8_empties 38 = .ok (.return_, 1) := by decide +kernel
theorem dX8_isGone_0 : decode cX8_isGone 0 = .ok (.aload_n 0, 1) := by decide +kernel
theorem dX8_isGone_1 : decode cX8_isGone 1 = .ok (.getfield 25, 3) := by decide +kernel
theorem dX8_isGone_4 : decode cX8_isGone 4 = .ok (.iload_n 1, 1) := by decide +kernel
theorem dX8_isGone_5 : decode cX8_isGone 5 = .ok (.iconst 0, 1) := by decide +kernel
theorem dX8_isGone_6 : decode cX8_isGone 6 = .ok (.iastore, 1) := by decide +kernel
theorem dX8_isGone_7 : decode cX8_isGone 7 = .ok (.aload_n 0, 1) := by decide +kernel
theorem dX8_isGone_8 : decode cX8_isGone 8 = .ok (.getfield 28, 3) := by decide +kernel
theorem dX8_isGone_11 : decode cX8_isGone 11 = .ok (.iload_n 1, 1) := by decide +kernel
theorem dX8_isGone_12 : decode cX8_isGone 12 = .ok (.iconst 0, 1) := by decide +kernel
theorem dX8_isGone_13 : decode cX8_isGone 13 = .ok (.bastore, 1) := by decide +kernel
theorem dX8_isGone_14 : decode cX8_isGone 14 = .ok (.aload_n 0, 1) := by decide +kernel
theorem dX8_isGone_15 : decode cX8_isGone 15 = .ok (.getfield 32, 3) := by decide +kernel
theorem dX8_isGone_18 : decode cX8_isGone 18 = .ok (.iload_n 1, 1) := by decide +kernel
theorem dX8_isGone_19 : decode cX8_isGone 19 = .ok (.iconst 0, 1) := by decide +kernel
theorem dX8_isGone_20 : decode cX8_isGone 20 = .ok (.bastore, 1) := by decide +kernel
theorem dX8_isGone_21 : decode cX8_isGone 21 = .ok (.aload_n 0, 1) := by decide +kernel
theorem dX8_isGone_22 : decode cX8_isGone 22 = .ok (.getfield 41, 3) := by decide +kernel
theorem dX8_isGone_25 : decode cX8_isGone 25 = .ok (.iload_n 1, 1) := by decide +kernel
theorem dX8_isGone_26 : decode cX8_isGone 26 = .ok (.iconst (-1), 1) := by decide +kernel
theorem dX8_isGone_27 : decode cX8_isGone 27 = .ok (.iastore, 1) := by decide +kernel
theorem dX8_isGone_28 : decode cX8_isGone 28 = .ok (.aload_n 0, 1) := by decide +kernel
theorem dX8_isGone_29 : decode cX8_isGone 29 = .ok (.iload_n 1, 1) := by decide +kernel
theorem dX8_isGone_30 : decode cX8_isGone 30 = .ok (.invokevirtual 212, 3) := by decide +kernel
theorem dX8_isGone_33 : decode cX8_isGone 33 = .ok (.iconst 0, 1) := by decide +kernel
theorem dX8_isGone_34 : decode cX8_isGone 34 = .ok (.istore_n 2, 1) := by decide +kernel
theorem dX8_isGone_35 : decode cX8_isGone 35 = .ok (.iload_n 2, 1) := by decide +kernel
theorem dX8_isGone_36 : decode cX8_isGone 36 = .ok (.bipush 16, 2) := by decide +kernel
theorem dX8_isGone_38 : decode cX8_isGone 38 = .ok (.if_icmp .ge 21, 3) := by decide +kernel
theorem dX8_isGone_41 : decode cX8_isGone 41 = .ok (.aload_n 0, 1) := by decide +kernel
theorem dX8_isGone_42 : decode cX8_isGone 42 = .ok (.getfield 104, 3) := by decide +kernel
theorem dX8_isGone_45 : decode cX8_isGone 45 = .ok (.bipush 16, 2) := by decide +kernel
theorem dX8_isGone_47 : decode cX8_isGone 47 = .ok (.iload_n 1, 1) := by decide +kernel
theorem dX8_isGone_48 : decode cX8_isGone 48 = .ok (.imul, 1) := by decide +kernel
theorem dX8_isGone_49 : decode cX8_isGone 49 = .ok (.iload_n 2, 1) := by decide +kernel
theorem dX8_isGone_50 : decode cX8_isGone 50 = .ok (.iadd, 1) := by decide +kernel
theorem dX8_isGone_51 : decode cX8_isGone 51 = .ok (.iconst 0, 1) := by decide +kernel
theorem dX8_isGone_52 : decode cX8_isGone 52 = .ok (.bastore, 1) := by decide +kernel
theorem dX8_isGone_53 : decode cX8_isGone 53 = .ok (.iinc 2 1, 3) := by decide +kernel
theorem dX8_isGone_56 : decode cX8_isGone 56 = .ok (.goto (-21), 3) := by decide +kernel
theorem dX8_isGone_59 : decode cX8_isGone 59 = .ok (.aload_n 0, 1) := by decide +kernel
theorem dX8_isGone_60 : decode cX8_isGone 60 = .ok (.bipush 24, 2) := by decide +kernel
theorem dX8_isGone_62 : decode cX8_isGone 62 = .ok (.iconst 2, 1) := by decide +kernel
theorem dX8_isGone_63 : decode cX8_isGone 63 = .ok (.iload_n 1, 1) := by decide +kernel
theorem dX8_isGone_64 : decode cX8_isGone 64 = .ok (.imul, 1) := by decide +kernel
theorem dX8_isGone_65 : decode cX8_isGone 65 = .ok (.iadd, 1) := by decide +kernel
theorem dX8_isGone_66 : decode cX8_isGone 66 = .ok (.invokevirtual 215, 3) := by decide +kernel
theorem dX8_isGone_69 : decode cX8_isGone 69 = .ok (.aload_n 0, 1) := by decide +kernel
theorem dX8_isGone_70 : decode cX8_isGone 70 = .ok (.bipush 24, 2) := by decide +kernel
theorem dX8_isGone_72 : decode cX8_isGone 72 = .ok (.iconst 2, 1) := by decide +kernel
theorem dX8_isGone_73 : decode cX8_isGone 73 = .ok (.iload_n 1, 1) := by decide +kernel
theorem dX8_isGone_74 : decode cX8_isGone 74 = .ok (.imul, 1) := by decide +kernel
theorem dX8_isGone_75 : decode cX8_isGone 75 = .ok (.iadd, 1) := by decide +kernel
theorem dX8_isGone_76 : decode cX8_isGone 76 = .ok (.iconst 1, 1) := by decide +kernel
theorem dX8_isGone_77 : decode cX8_isGone 77 = .ok (.iadd, 1) := by decide +kernel
theorem dX8_isGone_78 : decode cX8_isGone 78 = .ok (.invokevirtual 215, 3) := by decide +kernel
theorem dX8_isGone_81 : decode cX8_isGone 81 = .ok (.return_, 1) := by decide +kernel
theorem dX8_fall_0 : decode cX8_fall 0 = .ok (.aload_n 0, 1) := by decide +kernel
theorem dX8_fall_1 : decode cX8_fall 1 = .ok (.iload_n 1, 1) := by decide +kernel
theorem dX8_fall_2 : decode cX8_fall 2 = .ok (.invokevirtual 163, 3) := by decide +kernel
theorem dX8_fall_5 : decode cX8_fall 5 = .ok (.ifCond .eq 12, 3) := by decide +kernel
theorem dX8_fall_8 : decode cX8_fall 8 = .ok (.aload_n 0, 1) := by decide +kernel
theorem dX8_fall_9 : decode cX8_fall 9 = .ok (.getfield 25, 3) := by decide +kernel
theorem dX8_fall_12 : decode cX8_fall 12 = .ok (.iload_n 1, 1) := by decide +kernel
theorem dX8_fall_13 : decode cX8_fall 13 = .ok (.iaload, 1) := by decide +kernel
theorem dX8_fall_14 : decode cX8_fall 14 = .ok (.ifCond .ne 5, 3) := by decide +kernel
theorem dX8_fall_17 : decode cX8_fall 17 = .ok (.iconst 0, 1) := by decide +kernel
theorem dX8_fall_18 : decode cX8_fall 18 = .ok (.ireturn, 1) := by decide +kernel
theorem dX8_fall_19 : decode cX8_fall 19 = .ok (.iconst 0, 1) := by decide +kernel
theorem dX8_fall_20 : decode cX8_fall 20 = .ok (.istore_n 2, 1) := by decide +kernel
theorem dX8_fall_21 : decode cX8_fall 21 = .ok (.iload_n 2, 1) := by decide +kernel
theorem dX8_fall_22 : decode cX8_fall 22 = .ok (.aload_n 0, 1) := by decide +kernel
theorem dX8_fall_23 : decode cX8_fall 23 = .ok (.getfield 170, 3) := by decide +kernel
theorem dX8_fall_26 : decode cX8_fall 26 = .ok (.if_icmp .ge 35, 3) := by decide +kernel
theorem dX8_fall_29 : decode cX8_fall 29 = .ok (.aload_n 0, 1) := by decide +kernel
theorem dX8_fall_30 : decode cX8_fall 30 = .ok (.getfield 53, 3) := by decide +kernel
theorem dX8_fall_33 : decode cX8_fall 33 = .ok (.iload_n 2, 1) := by decide +kernel
theorem dX8_fall_34 : decode cX8_fall 34 = .ok (.iaload, 1) := by decide +kernel
theorem dX8_fall_35 : decode cX8_fall 35 = .ok (.iload_n 1, 1) := by decide +kernel
theorem dX8_fall_36 : decode cX8_fall 36 = .ok (.if_icmp .eq 6, 3) := by decide +kernel
theorem dX8_fall_39 : decode cX8_fall 39 = .ok (.goto 16, 3) := by decide +kernel
theorem dX8_fall_42 : decode cX8_fall 42 = .ok (.aload_n 0, 1) := by decide +kernel
theorem dX8_fall_43 : decode cX8_fall 43 = .ok (.iload_n 2, 1) := by decide +kernel
theorem dX8_fall_44 : decode cX8_fall 44 = .ok (.iconst 0, 1) := by decide +kernel
theorem dX8_fall_45 : decode cX8_fall 45 = .ok (.invokevirtual 200, 3) := by decide +kernel
theorem dX8_fall_48 : decode cX8_fall 48 = .ok (.aload_n 0, 1) := by decide +kernel
theorem dX8_fall_49 : decode cX8_fall 49 = .ok (.getfield 80, 3) := by decide +kernel
theorem dX8_fall_52 : decode cX8_fall 52 = .ok (.iload_n 2, 1) := by decide +kernel
theorem dX8_fall_53 : decode cX8_fall 53 = .ok (.iconst 0, 1) := by decide +kernel
theorem dX8_fall_54 : decode cX8_fall 54 = .ok (.bastore, 1) := by decide +kernel
theorem dX8_fall_55 : decode cX8_fall 55 = .ok (.iinc 2 1, 3) := by decide +kernel
theorem dX8_fall_58 : decode cX8_fall 58 = .ok (.goto (-37), 3) := by decide +kernel
theorem dX8_fall_61 : decode cX8_fall 61 = .ok (.aload_n 0, 1) := by decide +kernel
theorem dX8_fall_62 : decode cX8_fall 62 = .ok (.iload_n 1, 1) := by decide +kernel
theorem dX8_fall_63 : decode cX8_fall 63 = .ok (.invokevirtual 218, 3) := by decide +kernel
theorem dX8_fall_66 : decode cX8_fall 66 = .ok (.iconst 1, 1) := by decide +kernel
theorem dX8_fall_67 : decode cX8_fall 67 = .ok (.ireturn, 1) := by decide +kernel
theorem dX8_leave_0 : decode cX8_leave 0 = .ok (.aload_n 0, 1) := by decide +kernel
theorem dX8_leave_1 : decode cX8_leave 1 = .ok (.iload_n 1, 1) := by decide +kernel
theorem dX8_leave_2 : decode cX8_leave 2 = .ok (.invokevirtual 173, 3) := by decide +kernel
theorem dX8_leave_5 : decode cX8_leave 5 = .ok (.ifCond .ne 5, 3) := by decide +kernel
theorem dX8_leave_8 : decode cX8_leave 8 = .ok (.iconst 0, 1) := by decide +kernel
theorem dX8_leave_9 : decode cX8_leave 9 = .ok (.ireturn, 1) := by decide +kernel
theorem dX8_leave_10 : decode cX8_leave 10 = .ok (.aload_n 0, 1) := by decide +kernel
theorem dX8_leave_11 : decode cX8_leave 11 = .ok (.getfield 28, 3) := by decide +kernel
theorem dX8_leave_14 : decode cX8_leave 14 = .ok (.iload_n 1, 1) := by decide +kernel
theorem dX8_leave_15 : decode cX8_leave 15 = .ok (.iconst 1, 1) := by decide +kernel
theorem dX8_leave_16 : decode cX8_leave 16 = .ok (.bastore, 1) := by decide +kernel
theorem dX8_leave_17 : decode cX8_leave 17 = .ok (.iconst 0, 1) := by decide +kernel
theorem dX8_leave_18 : decode cX8_leave 18 = .ok (.istore_n 2, 1) := by decide +kernel
theorem dX8_leave_19 : decode cX8_leave 19 = .ok (.iload_n 2, 1) := by decide +kernel
theorem dX8_leave_20 : decode cX8_leave 20 = .ok (.aload_n 0, 1) := by decide +kernel
theorem dX8_leave_21 : decode cX8_leave 21 = .ok (.getfield 170, 3) := by decide +kernel
theorem dX8_leave_24 : decode cX8_leave 24 = .ok (.if_icmp .ge 34, 3) := by decide +kernel
theorem dX8_leave_27 : decode cX8_leave 27 = .ok (.aload_n 0, 1) := by decide +kernel
theorem dX8_leave_28 : decode cX8_leave 28 = .ok (.getfield 53, 3) := by decide +kernel
theorem dX8_leave_31 : decode cX8_leave 31 = .ok (.iload_n 2, 1) := by decide +kernel
theorem dX8_leave_32 : decode cX8_leave 32 = .ok (.iaload, 1) := by decide +kernel
theorem dX8_leave_33 : decode cX8_leave 33 = .ok (.iload_n 1, 1) := by decide +kernel
theorem dX8_leave_34 : decode cX8_leave 34 = .ok (.if_icmp .ne 18, 3) := by decide +kernel
theorem dX8_leave_37 : decode cX8_leave 37 = .ok (.aload_n 0, 1) := by decide +kernel
theorem dX8_leave_38 : decode cX8_leave 38 = .ok (.getfield 68, 3) := by decide +kernel
theorem dX8_leave_41 : decode cX8_leave 41 = .ok (.iload_n 2, 1) := by decide +kernel
theorem dX8_leave_42 : decode cX8_leave 42 = .ok (.iaload, 1) := by decide +kernel
theorem dX8_leave_43 : decode cX8_leave 43 = .ok (.ifCond .eq 9, 3) := by decide +kernel
theorem dX8_leave_46 : decode cX8_leave 46 = .ok (.aload_n 0, 1) := by decide +kernel
theorem dX8_leave_47 : decode cX8_leave 47 = .ok (.iload_n 2, 1) := by decide +kernel
theorem dX8_leave_48 : decode cX8_leave 48 = .ok (.iconst 1, 1) := by decide +kernel
theorem dX8_leave_49 : decode cX8_leave 49 = .ok (.invokevirtual 200, 3) := by decide +kernel
theorem dX8_leave_52 : decode cX8_leave 52 = .ok (.iinc 2 1, 3) := by decide +kernel
theorem dX8_leave_55 : decode cX8_leave 55 = .ok (.goto (-36), 3) := by decide +kernel
theorem dX8_leave_58 : decode cX8_leave 58 = .ok (.iconst 0, 1) := by decide +kernel
theorem dX8_leave_59 : decode cX8_leave 59 = .ok (.istore_n 2, 1) := by decide +kernel
theorem dX8_leave_60 : decode cX8_leave 60 = .ok (.iload_n 2, 1) := by decide +kernel
theorem dX8_leave_61 : decode cX8_leave 61 = .ok (.aload_n 0, 1) := by decide +kernel
theorem dX8_leave_62 : decode cX8_leave 62 = .ok (.getfield 155, 3) := by decide +kernel
theorem dX8_leave_65 : decode cX8_leave 65 = .ok (.if_icmp .ge 47, 3) := by decide +kernel
theorem dX8_leave_68 : decode cX8_leave 68 = .ok (.aload_n 0, 1) := by decide +kernel
theorem dX8_leave_69 : decode cX8_leave 69 = .ok (.getfield 25, 3) := by decide +kernel
theorem dX8_leave_72 : decode cX8_leave 72 = .ok (.iload_n 2, 1) := by decide +kernel
theorem dX8_leave_73 : decode cX8_leave 73 = .ok (.iaload, 1) := by decide +kernel
theorem dX8_leave_74 : decode cX8_leave 74 = .ok (.iconst 1, 1) := by decide +kernel
theorem dX8_leave_75 : decode cX8_leave 75 = .ok (.if_icmp .ne 31, 3) := by decide +kernel
theorem dX8_leave_78 : decode cX8_leave 78 = .ok (.aload_n 0, 1) := by decide +kernel
theorem dX8_leave_79 : decode cX8_leave 79 = .ok (.getfield 41, 3) := by decide +kernel
theorem dX8_leave_82 : decode cX8_leave 82 = .ok (.iload_n 2, 1) := by decide +kernel
theorem dX8_leave_83 : decode cX8_leave 83 = .ok (.iaload, 1) := by decide +kernel
theorem dX8_leave_84 : decode cX8_leave 84 = .ok (.iload_n 1, 1) := by decide +kernel
theorem dX8_leave_85 : decode cX8_leave 85 = .ok (.if_icmp .eq 6, 3) := by decide +kernel
theorem dX8_leave_88 : decode cX8_leave 88 = .ok (.goto 18, 3) := by decide +kernel
theorem dX8_leave_91 : decode cX8_leave 91 = .ok (.aload_n 0, 1) := by decide +kernel
theorem dX8_leave_92 : decode cX8_leave 92 = .ok (.iload_n 2, 1) := by decide +kernel
theorem dX8_leave_93 : decode cX8_leave 93 = .ok (.invokevirtual 208, 3) := by decide +kernel
theorem dX8_leave_96 : decode cX8_leave 96 = .ok (.aload_n 0, 1) := by decide +kernel
theorem dX8_leave_97 : decode cX8_leave 97 = .ok (.dup, 1) := by decide +kernel
theorem dX8_leave_98 : decode cX8_leave 98 = .ok (.getfield 221, 3) := by decide +kernel
theorem dX8_leave_101 : decode cX8_leave 101 = .ok (.iconst 1, 1) := by decide +kernel
theorem dX8_leave_102 : decode cX8_leave 102 = .ok (.iadd, 1) := by decide +kernel
theorem dX8_leave_103 : decode cX8_leave 103 = .ok (.putfield 221, 3) := by decide +kernel
theorem dX8_leave_106 : decode cX8_leave 106 = .ok (.iinc 2 1, 3) := by decide +kernel
theorem dX8_leave_109 : decode cX8_leave 109 = .ok (.goto (-49), 3) := by decide +kernel
theorem dX8_leave_112 : decode cX8_leave 112 = .ok (.iconst 1, 1) := by decide +kernel
theorem dX8_leave_113 : decode cX8_leave 113 = .ok (.ireturn, 1) := by decide +kernel
theorem dX8_keeper_0 : decode cX8_keeper 0 = .ok (.aload_n 0, 1) := by decide +kernel
theorem dX8_keeper_1 : decode cX8_keeper 1 = .ok (.iload_n 1, 1) := by decide +kernel
theorem dX8_keeper_2 : decode cX8_keeper 2 = .ok (.invokevirtual 173, 3) := by decide +kernel
theorem dX8_keeper_5 : decode cX8_keeper 5 = .ok (.ifCond .eq 22, 3) := by decide +kernel
theorem dX8_keeper_8 : decode cX8_keeper 8 = .ok (.aload_n 0, 1) := by decide +kernel
theorem dX8_keeper_9 : decode cX8_keeper 9 = .ok (.getfield 35, 3) := by decide +kernel
theorem dX8_keeper_12 : decode cX8_keeper 12 = .ok (.iload_n 1, 1) := by decide +kernel
theorem dX8_keeper_13 : decode cX8_keeper 13 = .ok (.baload, 1) := by decide +kernel
theorem dX8_keeper_14 : decode cX8_keeper 14 = .ok (.ifCond .ne 13, 3) := by decide +kernel
theorem dX8_keeper_17 : decode cX8_keeper 17 = .ok (.aload_n 0, 1) := by decide +kernel
theorem dX8_keeper_18 : decode cX8_keeper 18 = .ok (.getfield 32, 3) := by decide +kernel
theorem dX8_keeper_21 : decode cX8_keeper 21 = .ok (.iload_n 1, 1) := by decide +kernel
theorem dX8_keeper_22 : decode cX8_keeper 22 = .ok (.baload, 1) := by decide +kernel
theorem dX8_keeper_23 : decode cX8_keeper 23 = .ok (.iload_n 2, 1) := by decide +kernel
theorem dX8_keeper_24 : decode cX8_keeper 24 = .ok (.if_icmp .ne 5, 3) := by decide +kernel
theorem dX8_keeper_27 : decode cX8_keeper 27 = .ok (.iconst 0, 1) := by decide +kernel
theorem dX8_keeper_28 : decode cX8_keeper 28 = .ok (.ireturn, 1) := by decide +kernel
theorem dX8_keeper_29 : decode cX8_keeper 29 = .ok (.aload_n 0, 1) := by decide +kernel
theorem dX8_keeper_30 : decode cX8_keeper 30 = .ok (.getfield 32, 3) := by decide +kernel
theorem dX8_keeper_33 : decode cX8_keeper 33 = .ok (.iload_n 1, 1) := by decide +kernel
theorem dX8_keeper_34 : decode cX8_keeper 34 = .ok (.iload_n 2, 1) := by decide +kernel
theorem dX8_keeper_35 : decode cX8_keeper 35 = .ok (.bastore, 1) := by decide +kernel
theorem dX8_keeper_36 : decode cX8_keeper 36 = .ok (.iconst 1, 1) := by decide +kernel
theorem dX8_keeper_37 : decode cX8_keeper 37 = .ok (.ireturn, 1) := by decide +kernel
theorem dX8_bridge_0 : decode cX8_bridge 0 = .ok (.aload_n 0, 1) := by decide +kernel
theorem dX8_bridge_1 : decode cX8_bridge 1 = .ok (.iload_n 1, 1) := by decide +kernel
theorem dX8_bridge_2 : decode cX8_bridge 2 = .ok (.invokevirtual 173, 3) := by decide +kernel
theorem dX8_bridge_5 : decode cX8_bridge 5 = .ok (.ifCond .eq 50, 3) := by decide +kernel
theorem dX8_bridge_8 : decode cX8_bridge 8 = .ok (.iload_n 2, 1) := by decide +kernel
theorem dX8_bridge_9 : decode cX8_bridge 9 = .ok (.iconst 0, 1) := by decide +kernel
theorem dX8_bridge_10 : decode cX8_bridge 10 = .ok (.iconst 3, 1) := by decide +kernel
theorem dX8_bridge_11 : decode cX8_bridge 11 = .ok (.invokestatic 159, 3) := by decide +kernel
theorem dX8_bridge_14 : decode cX8_bridge 14 = .ok (.ifCond .eq 41, 3) := by decide +kernel
theorem dX8_bridge_17 : decode cX8_bridge 17 = .ok (.iload_n 2, 1) := by decide +kernel
theorem dX8_bridge_18 : decode cX8_bridge 18 = .ok (.aload_n 0, 1) := by decide +kernel
theorem dX8_bridge_19 : decode cX8_bridge 19 = .ok (.getfield 9, 3) := by decide +kernel
theorem dX8_bridge_22 : decode cX8_bridge 22 = .ok (.iload_n 1, 1) := by decide +kernel
theorem dX8_bridge_23 : decode cX8_bridge 23 = .ok (.iaload, 1) := by decide +kernel
theorem dX8_bridge_24 : decode cX8_bridge 24 = .ok (.if_icmp .eq 31, 3) := by decide +kernel
theorem dX8_bridge_27 : decode cX8_bridge 27 = .ok (.iload_n 3, 1) := by decide +kernel
theorem dX8_bridge_28 : decode cX8_bridge 28 = .ok (.iconst 0, 1) := by decide +kernel
theorem dX8_bridge_29 : decode cX8_bridge 29 = .ok (.ldc 224, 2) := by decide +kernel
theorem dX8_bridge_31 : decode cX8_bridge 31 = .ok (.invokestatic 159, 3) := by decide +kernel
theorem dX8_bridge_34 : decode cX8_bridge 34 = .ok (.ifCond .eq 21, 3) := by decide +kernel
theorem dX8_bridge_37 : decode cX8_bridge 37 = .ok (.aload_n 0, 1) := by decide +kernel
theorem dX8_bridge_38 : decode cX8_bridge 38 = .ok (.getfield 35, 3) := by decide +kernel
theorem dX8_bridge_41 : decode cX8_bridge 41 = .ok (.iload_n 1, 1) := by decide +kernel
theorem dX8_bridge_42 : decode cX8_bridge 42 = .ok (.baload, 1) := by decide +kernel
theorem dX8_bridge_43 : decode cX8_bridge 43 = .ok (.ifCond .ne 12, 3) := by decide +kernel
theorem dX8_bridge_46 : decode cX8_bridge 46 = .ok (.aload_n 0, 1) := by decide +kernel
theorem dX8_bridge_47 : decode cX8_bridge 47 = .ok (.getfield 32, 3) := by decide +kernel
theorem dX8_bridge_50 : decode cX8_bridge 50 = .ok (.iload_n 1, 1) := by decide +kernel
theorem dX8_bridge_51 : decode cX8_bridge 51 = .ok (.baload, 1) := by decide +kernel
theorem dX8_bridge_52 : decode cX8_bridge 52 = .ok (.ifCond .eq 5, 3) := by decide +kernel
theorem dX8_bridge_55 : decode cX8_bridge 55 = .ok (.iconst 0, 1) := by decide +kernel
theorem dX8_bridge_56 : decode cX8_bridge 56 = .ok (.ireturn, 1) := by decide +kernel
theorem dX8_bridge_57 : decode cX8_bridge 57 = .ok (.iconst 0, 1) := by decide +kernel
theorem dX8_bridge_58 : decode cX8_bridge 58 = .ok (.istore 4, 2) := by decide +kernel
theorem dX8_bridge_60 : decode cX8_bridge 60 = .ok (.iload 4, 2) := by decide +kernel
theorem dX8_bridge_62 : decode cX8_bridge 62 = .ok (.aload_n 0, 1) := by decide +kernel
theorem dX8_bridge_63 : decode cX8_bridge 63 = .ok (.getfield 170, 3) := by decide +kernel
theorem dX8_bridge_66 : decode cX8_bridge 66 = .ok (.if_icmp .ge 22, 3) := by decide +kernel
theorem dX8_bridge_69 : decode cX8_bridge 69 = .ok (.aload_n 0, 1) := by decide +kernel
theorem dX8_bridge_70 : decode cX8_bridge 70 = .ok (.getfield 53, 3) := by decide +kernel
theorem dX8_bridge_73 : decode cX8_bridge 73 = .ok (.iload 4, 2) := by decide +kernel
theorem dX8_bridge_75 : decode cX8_bridge 75 = .ok (.iaload, 1) := by decide +kernel
theorem dX8_bridge_76 : decode cX8_bridge 76 = .ok (.iload_n 1, 1) := by decide +kernel
theorem dX8_bridge_77 : decode cX8_bridge 77 = .ok (.if_icmp .ne 5, 3) := by decide +kernel
theorem dX8_bridge_80 : decode cX8_bridge 80 = .ok (.iconst 0, 1) := by decide +kernel
theorem dX8_bridge_81 : decode cX8_bridge 81 = .ok (.ireturn, 1) := by decide +kernel
theorem dX8_bridge_82 : decode cX8_bridge 82 = .ok (.iinc 4 1, 3) := by decide +kernel
theorem dX8_bridge_85 : decode cX8_bridge 85 = .ok (.goto (-25), 3) := by decide +kernel
theorem dX8_bridge_88 : decode cX8_bridge 88 = .ok (.iconst 0, 1) := by decide +kernel
theorem dX8_bridge_89 : decode cX8_bridge 89 = .ok (.istore 4, 2) := by decide +kernel
theorem dX8_bridge_91 : decode cX8_bridge 91 = .ok (.iload 4, 2) := by decide +kernel
theorem dX8_bridge_93 : decode cX8_bridge 93 = .ok (.bipush 16, 2) := by decide +kernel
theorem dX8_bridge_95 : decode cX8_bridge 95 = .ok (.if_icmp .ge 26, 3) := by decide +kernel
theorem dX8_bridge_98 : decode cX8_bridge 98 = .ok (.aload_n 0, 1) := by decide +kernel
theorem dX8_bridge_99 : decode cX8_bridge 99 = .ok (.getfield 104, 3) := by decide +kernel
theorem dX8_bridge_102 : decode cX8_bridge 102 = .ok (.bipush 16, 2) := by decide +kernel
theorem dX8_bridge_104 : decode cX8_bridge 104 = .ok (.iload_n 1, 1) := by decide +kernel
theorem dX8_bridge_105 : decode cX8_bridge 105 = .ok (.imul, 1) := by decide +kernel
theorem dX8_bridge_106 : decode cX8_bridge 106 = .ok (.iload 4, 2) := by decide +kernel
theorem dX8_bridge_108 : decode cX8_bridge 108 = .ok (.iadd, 1) := by decide +kernel
theorem dX8_bridge_109 : decode cX8_bridge 109 = .ok (.baload, 1) := by decide +kernel
theorem dX8_bridge_110 : decode cX8_bridge 110 = .ok (.ifCond .eq 5, 3) := by decide +kernel
theorem dX8_bridge_113 : decode cX8_bridge 113 = .ok (.iconst 0, 1) := by decide +kernel
theorem dX8_bridge_114 : decode cX8_bridge 114 = .ok (.ireturn, 1) := by decide +kernel
theorem dX8_bridge_115 : decode cX8_bridge 115 = .ok (.iinc 4 1, 3) := by decide +kernel
theorem dX8_bridge_118 : decode cX8_bridge 118 = .ok (.goto (-27), 3) := by decide +kernel
theorem dX8_bridge_121 : decode cX8_bridge 121 = .ok (.iconst 0, 1) := by decide +kernel
theorem dX8_bridge_122 : decode cX8_bridge 122 = .ok (.istore 4, 2) := by decide +kernel
theorem dX8_bridge_124 : decode cX8_bridge 124 = .ok (.iload 4, 2) := by decide +kernel
theorem dX8_bridge_126 : decode cX8_bridge 126 = .ok (.aload_n 0, 1) := by decide +kernel
theorem dX8_bridge_127 : decode cX8_bridge 127 = .ok (.getfield 155, 3) := by decide +kernel
theorem dX8_bridge_130 : decode cX8_bridge 130 = .ok (.if_icmp .ge 33, 3) := by decide +kernel
theorem dX8_bridge_133 : decode cX8_bridge 133 = .ok (.aload_n 0, 1) := by decide +kernel
theorem dX8_bridge_134 : decode cX8_bridge 134 = .ok (.getfield 25, 3) := by decide +kernel
theorem dX8_bridge_137 : decode cX8_bridge 137 = .ok (.iload 4, 2) := by decide +kernel
theorem dX8_bridge_139 : decode cX8_bridge 139 = .ok (.iaload, 1) := by decide +kernel
theorem dX8_bridge_140 : decode cX8_bridge 140 = .ok (.iconst 1, 1) := by decide +kernel
theorem dX8_bridge_141 : decode cX8_bridge 141 = .ok (.if_icmp .ne 16, 3) := by decide +kernel
theorem dX8_bridge_144 : decode cX8_bridge 144 = .ok (.aload_n 0, 1) := by decide +kernel
theorem dX8_bridge_145 : decode cX8_bridge 145 = .ok (.getfield 41, 3) := by decide +kernel
theorem dX8_bridge_148 : decode cX8_bridge 148 = .ok (.iload 4, 2) := by decide +kernel
theorem dX8_bridge_150 : decode cX8_bridge 150 = .ok (.iaload, 1) := by decide +kernel
theorem dX8_bridge_151 : decode cX8_bridge 151 = .ok (.iload_n 1, 1) := by decide +kernel
theorem dX8_bridge_152 : decode cX8_bridge 152 = .ok (.if_icmp .ne 5, 3) := by decide +kernel
theorem dX8_bridge_155 : decode cX8_bridge 155 = .ok (.iconst 0, 1) := by decide +kernel
theorem dX8_bridge_156 : decode cX8_bridge 156 = .ok (.ireturn, 1) := by decide +kernel
theorem dX8_bridge_157 : decode cX8_bridge 157 = .ok (.iinc 4 1, 3) := by decide +kernel
theorem dX8_bridge_160 : decode cX8_bridge 160 = .ok (.goto (-36), 3) := by decide +kernel
theorem dX8_bridge_163 : decode cX8_bridge 163 = .ok (.aload_n 0, 1) := by decide +kernel
theorem dX8_bridge_164 : decode cX8_bridge 164 = .ok (.getfield 35, 3) := by decide +kernel
theorem dX8_bridge_167 : decode cX8_bridge 167 = .ok (.iload_n 1, 1) := by decide +kernel
theorem dX8_bridge_168 : decode cX8_bridge 168 = .ok (.iconst 1, 1) := by decide +kernel
theorem dX8_bridge_169 : decode cX8_bridge 169 = .ok (.bastore, 1) := by decide +kernel
theorem dX8_bridge_170 : decode cX8_bridge 170 = .ok (.aload_n 0, 1) := by decide +kernel
theorem dX8_bridge_171 : decode cX8_bridge 171 = .ok (.getfield 13, 3) := by decide +kernel
theorem dX8_bridge_174 : decode cX8_bridge 174 = .ok (.iload_n 1, 1) := by decide +kernel
theorem dX8_bridge_175 : decode cX8_bridge 175 = .ok (.iload_n 2, 1) := by decide +kernel
theorem dX8_bridge_176 : decode cX8_bridge 176 = .ok (.iastore, 1) := by decide +kernel
theorem dX8_bridge_177 : decode cX8_bridge 177 = .ok (.aload_n 0, 1) := by decide +kernel
theorem dX8_bridge_178 : decode cX8_bridge 178 = .ok (.getfield 38, 3) := by decide +kernel
theorem dX8_bridge_181 : decode cX8_bridge 181 = .ok (.iload_n 1, 1) := by decide +kernel
theorem dX8_bridge_182 : decode cX8_bridge 182 = .ok (.iload_n 3, 1) := by decide +kernel
theorem dX8_bridge_183 : decode cX8_bridge 183 = .ok (.iastore, 1) := by decide +kernel
theorem dX8_bridge_184 : decode cX8_bridge 184 = .ok (.aload_n 0, 1) := by decide +kernel
theorem dX8_bridge_185 : decode cX8_bridge 185 = .ok (.iload_n 1, 1) := by decide +kernel
theorem dX8_bridge_186 : decode cX8_bridge 186 = .ok (.invokevirtual 212, 3) := by decide +kernel
theorem dX8_bridge_189 : decode cX8_bridge 189 = .ok (.iconst 1, 1) := by decide +kernel
theorem dX8_bridge_190 : decode cX8_bridge 190 = .ok (.ireturn, 1) := by decide +kernel
theorem dX8_lose_0 : decode cX8_lose 0 = .ok (.aload_n 0, 1) := by decide +kernel
theorem dX8_lose_1 : decode cX8_lose 1 = .ok (.iload_n 1, 1) := by decide +kernel
theorem dX8_lose_2 : decode cX8_lose 2 = .ok (.invokevirtual 163, 3) := by decide +kernel
theorem dX8_lose_5 : decode cX8_lose 5 = .ok (.ifCond .eq 13, 3) := by decide +kernel
theorem dX8_lose_8 : decode cX8_lose 8 = .ok (.iload_n 2, 1) := by decide +kernel
theorem dX8_lose_9 : decode cX8_lose 9 = .ok (.iconst 0, 1) := by decide +kernel
theorem dX8_lose_10 : decode cX8_lose 10 = .ok (.bipush 100, 2) := by decide +kernel
theorem dX8_lose_12 : decode cX8_lose 12 = .ok (.invokestatic 159, 3) := by decide +kernel
theorem dX8_lose_15 : decode cX8_lose 15 = .ok (.ifCond .ne 5, 3) := by decide +kernel
theorem dX8_lose_18 : decode cX8_lose 18 = .ok (.iconst 0, 1) := by decide +kernel
theorem dX8_lose_19 : decode cX8_lose 19 = .ok (.ireturn, 1) := by decide +kernel
theorem dX8_lose_20 : decode cX8_lose 20 = .ok (.aload_n 0, 1) := by decide +kernel
theorem dX8_lose_21 : decode cX8_lose 21 = .ok (.getfield 47, 3) := by decide +kernel
theorem dX8_lose_24 : decode cX8_lose 24 = .ok (.iload_n 1, 1) := by decide +kernel
theorem dX8_lose_25 : decode cX8_lose 25 = .ok (.iload_n 2, 1) := by decide +kernel
theorem dX8_lose_26 : decode cX8_lose 26 = .ok (.iastore, 1) := by decide +kernel
theorem dX8_lose_27 : decode cX8_lose 27 = .ok (.iconst 1, 1) := by decide +kernel
theorem dX8_lose_28 : decode cX8_lose 28 = .ok (.ireturn, 1) := by decide +kernel
theorem dX8_deaf_0 : decode cX8_deaf 0 = .ok (.aload_n 0, 1) := by decide +kernel
theorem dX8_deaf_1 : decode cX8_deaf 1 = .ok (.iload_n 1, 1) := by decide +kernel
theorem dX8_deaf_2 : decode cX8_deaf 2 = .ok (.invokevirtual 163, 3) := by decide +kernel
theorem dX8_deaf_5 : decode cX8_deaf 5 = .ok (.ifCond .eq 13, 3) := by decide +kernel
theorem dX8_deaf_8 : decode cX8_deaf 8 = .ok (.iload_n 2, 1) := by decide +kernel
theorem dX8_deaf_9 : decode cX8_deaf 9 = .ok (.iconst 0, 1) := by decide +kernel
theorem dX8_deaf_10 : decode cX8_deaf 10 = .ok (.bipush 100, 2) := by decide +kernel
theorem dX8_deaf_12 : decode cX8_deaf 12 = .ok (.invokestatic 159, 3) := by decide +kernel
theorem dX8_deaf_15 : decode cX8_deaf 15 = .ok (.ifCond .ne 5, 3) := by decide +kernel
theorem dX8_deaf_18 : decode cX8_deaf 18 = .ok (.iconst 0, 1) := by decide +kernel
theorem dX8_deaf_19 : decode cX8_deaf 19 = .ok (.ireturn, 1) := by decide +kernel
theorem dX8_deaf_20 : decode cX8_deaf 20 = .ok (.aload_n 0, 1) := by decide +kernel
theorem dX8_deaf_21 : decode cX8_deaf 21 = .ok (.getfield 50, 3) := by decide +kernel
theorem dX8_deaf_24 : decode cX8_deaf 24 = .ok (.iload_n 1, 1) := by decide +kernel
theorem dX8_deaf_25 : decode cX8_deaf 25 = .ok (.iload_n 2, 1) := by decide +kernel
theorem dX8_deaf_26 : decode cX8_deaf 26 = .ok (.iastore, 1) := by decide +kernel
theorem dX8_deaf_27 : decode cX8_deaf 27 = .ok (.iconst 1, 1) := by decide +kernel
theorem dX8_deaf_28 : decode cX8_deaf 28 = .ok (.ireturn, 1) := by decide +kernel
theorem dX8_join_0 : decode cX8_join 0 = .ok (.iload_n 1, 1) := by decide +kernel
theorem dX8_join_1 : decode cX8_join 1 = .ok (.iconst 0, 1) := by decide +kernel
theorem dX8_join_2 : decode cX8_join 2 = .ok (.iconst 3, 1) := by decide +kernel
theorem dX8_join_3 : decode cX8_join 3 = .ok (.invokestatic 159, 3) := by decide +kernel
theorem dX8_join_6 : decode cX8_join 6 = .ok (.ifCond .eq 17, 3) := by decide +kernel
theorem dX8_join_9 : decode cX8_join 9 = .ok (.iload_n 2, 1) := by decide +kernel
theorem dX8_join_10 : decode cX8_join 10 = .ok (.iconst 0, 1) := by decide +kernel
theorem dX8_join_11 : decode cX8_join 11 = .ok (.iconst 3, 1) := by decide +kernel
theorem dX8_join_12 : decode cX8_join 12 = .ok (.invokestatic 159, 3) := by decide +kernel
theorem dX8_join_15 : decode cX8_join 15 = .ok (.ifCond .eq 8, 3) := by decide +kernel
theorem dX8_join_18 : decode cX8_join 18 = .ok (.iload_n 1, 1) := by decide +kernel
theorem dX8_join_19 : decode cX8_join 19 = .ok (.iload_n 2, 1) := by decide +kernel
theorem dX8_join_20 : decode cX8_join 20 = .ok (.if_icmp .ne 5, 3) := by decide +kernel
theorem dX8_join_23 : decode cX8_join 23 = .ok (.iconst 0, 1) := by decide +kernel
theorem dX8_join_24 : decode cX8_join 24 = .ok (.ireturn, 1) := by decide +kernel
theorem dX8_join_25 : decode cX8_join 25 = .ok (.iconst 0, 1) := by decide +kernel
theorem dX8_join_26 : decode cX8_join 26 = .ok (.istore_n 3, 1) := by decide +kernel
theorem dX8_join_27 : decode cX8_join 27 = .ok (.iload_n 3, 1) := by decide +kernel
theorem dX8_join_28 : decode cX8_join 28 = .ok (.aload_n 0, 1) := by decide +kernel
theorem dX8_join_29 : decode cX8_join 29 = .ok (.getfield 155, 3) := by decide +kernel
theorem dX8_join_32 : decode cX8_join 32 = .ok (.if_icmp .ge 61, 3) := by decide +kernel
theorem dX8_join_35 : decode cX8_join 35 = .ok (.aload_n 0, 1) := by decide +kernel
theorem dX8_join_36 : decode cX8_join 36 = .ok (.getfield 9, 3) := by decide +kernel
theorem dX8_join_39 : decode cX8_join 39 = .ok (.iload_n 3, 1) := by decide +kernel
theorem dX8_join_40 : decode cX8_join 40 = .ok (.aload_n 0, 1) := by decide +kernel
theorem dX8_join_41 : decode cX8_join 41 = .ok (.getfield 9, 3) := by decide +kernel
theorem dX8_join_44 : decode cX8_join 44 = .ok (.iload_n 3, 1) := by decide +kernel
theorem dX8_join_45 : decode cX8_join 45 = .ok (.iaload, 1) := by decide +kernel
theorem dX8_join_46 : decode cX8_join 46 = .ok (.iload_n 2, 1) := by decide +kernel
theorem dX8_join_47 : decode cX8_join 47 = .ok (.if_icmp .ne 7, 3) := by decide +kernel
theorem dX8_join_50 : decode cX8_join 50 = .ok (.iload_n 1, 1) := by decide +kernel
theorem dX8_join_51 : decode cX8_join 51 = .ok (.goto 9, 3) := by decide +kernel
theorem dX8_join_54 : decode cX8_join 54 = .ok (.aload_n 0, 1) := by decide +kernel
theorem dX8_join_55 : decode cX8_join 55 = .ok (.getfield 9, 3) := by decide +kernel
theorem dX8_join_58 : decode cX8_join 58 = .ok (.iload_n 3, 1) := by decide +kernel
theorem dX8_join_59 : decode cX8_join 59 = .ok (.iaload, 1) := by decide +kernel
theorem dX8_join_60 : decode cX8_join 60 = .ok (.iastore, 1) := by decide +kernel
theorem dX8_join_61 : decode cX8_join 61 = .ok (.aload_n 0, 1) := by decide +kernel
theorem dX8_join_62 : decode cX8_join 62 = .ok (.getfield 13, 3) := by decide +kernel
theorem dX8_join_65 : decode cX8_join 65 = .ok (.iload_n 3, 1) := by decide +kernel
theorem dX8_join_66 : decode cX8_join 66 = .ok (.aload_n 0, 1) := by decide +kernel
theorem dX8_join_67 : decode cX8_join 67 = .ok (.getfield 13, 3) := by decide +kernel
theorem dX8_join_70 : decode cX8_join 70 = .ok (.iload_n 3, 1) := by decide +kernel
theorem dX8_join_71 : decode cX8_join 71 = .ok (.iaload, 1) := by decide +kernel
theorem dX8_join_72 : decode cX8_join 72 = .ok (.iload_n 2, 1) := by decide +kernel
theorem dX8_join_73 : decode cX8_join 73 = .ok (.if_icmp .ne 7, 3) := by decide +kernel
theorem dX8_join_76 : decode cX8_join 76 = .ok (.iload_n 1, 1) := by decide +kernel
theorem dX8_join_77 : decode cX8_join 77 = .ok (.goto 9, 3) := by decide +kernel
theorem dX8_join_80 : decode cX8_join 80 = .ok (.aload_n 0, 1) := by decide +kernel
theorem dX8_join_81 : decode cX8_join 81 = .ok (.getfield 13, 3) := by decide +kernel
theorem dX8_join_84 : decode cX8_join 84 = .ok (.iload_n 3, 1) := by decide +kernel
theorem dX8_join_85 : decode cX8_join 85 = .ok (.iaload, 1) := by decide +kernel
theorem dX8_join_86 : decode cX8_join 86 = .ok (.iastore, 1) := by decide +kernel
theorem dX8_join_87 : decode cX8_join 87 = .ok (.iinc 3 1, 3) := by decide +kernel
theorem dX8_join_90 : decode cX8_join 90 = .ok (.goto (-63), 3) := by decide +kernel
theorem dX8_join_93 : decode cX8_join 93 = .ok (.iconst 0, 1) := by decide +kernel
theorem dX8_join_94 : decode cX8_join 94 = .ok (.istore_n 3, 1) := by decide +kernel
theorem dX8_join_95 : decode cX8_join 95 = .ok (.iload_n 3, 1) := by decide +kernel
theorem dX8_join_96 : decode cX8_join 96 = .ok (.aload_n 0, 1) := by decide +kernel
theorem dX8_join_97 : decode cX8_join 97 = .ok (.getfield 170, 3) := by decide +kernel
theorem dX8_join_100 : decode cX8_join 100 = .ok (.if_icmp .ge 44, 3) := by decide +kernel
theorem dX8_join_103 : decode cX8_join 103 = .ok (.aload_n 0, 1) := by decide +kernel
theorem dX8_join_104 : decode cX8_join 104 = .ok (.getfield 68, 3) := by decide +kernel
theorem dX8_join_107 : decode cX8_join 107 = .ok (.iload_n 3, 1) := by decide +kernel
theorem dX8_join_108 : decode cX8_join 108 = .ok (.iaload, 1) := by decide +kernel
theorem dX8_join_109 : decode cX8_join 109 = .ok (.iconst 2, 1) := by decide +kernel
theorem dX8_join_110 : decode cX8_join 110 = .ok (.if_icmp .ne 28, 3) := by decide +kernel
theorem dX8_join_113 : decode cX8_join 113 = .ok (.aload_n 0, 1) := by decide +kernel
theorem dX8_join_114 : decode cX8_join 114 = .ok (.getfield 9, 3) := by decide +kernel
theorem dX8_join_117 : decode cX8_join 117 = .ok (.aload_n 0, 1) := by decide +kernel
theorem dX8_join_118 : decode cX8_join 118 = .ok (.getfield 53, 3) := by decide +kernel
theorem dX8_join_121 : decode cX8_join 121 = .ok (.iload_n 3, 1) := by decide +kernel
theorem dX8_join_122 : decode cX8_join 122 = .ok (.iaload, 1) := by decide +kernel
theorem dX8_join_123 : decode cX8_join 123 = .ok (.iaload, 1) := by decide +kernel
theorem dX8_join_124 : decode cX8_join 124 = .ok (.iload_n 1, 1) := by decide +kernel
theorem dX8_join_125 : decode cX8_join 125 = .ok (.if_icmp .ne 13, 3) := by decide +kernel
theorem dX8_join_128 : decode cX8_join 128 = .ok (.aload_n 0, 1) := by decide +kernel
theorem dX8_join_129 : decode cX8_join 129 = .ok (.getfield 74, 3) := by decide +kernel
theorem dX8_join_132 : decode cX8_join 132 = .ok (.iload_n 3, 1) := by decide +kernel
theorem dX8_join_133 : decode cX8_join 133 = .ok (.aload_n 0, 1) := by decide +kernel
theorem dX8_join_134 : decode cX8_join 134 = .ok (.getfield 191, 3) := by decide +kernel
theorem dX8_join_137 : decode cX8_join 137 = .ok (.iastore, 1) := by decide +kernel
theorem dX8_join_138 : decode cX8_join 138 = .ok (.iinc 3 1, 3) := by decide +kernel
theorem dX8_join_141 : decode cX8_join 141 = .ok (.goto (-46), 3) := by decide +kernel
theorem dX8_join_144 : decode cX8_join 144 = .ok (.iconst 1, 1) := by decide +kernel
theorem dX8_join_145 : decode cX8_join 145 = .ok (.ireturn, 1) := by decide +kernel
theorem dX8_clears_0 : decode cX8_clears 0 = .ok (.iconst 0, 1) := by decide +kernel
theorem dX8_clears_1 : decode cX8_clears 1 = .ok (.istore_n 2, 1) := by decide +kernel
theorem dX8_clears_2 : decode cX8_clears 2 = .ok (.iload_n 2, 1) := by decide +kernel
theorem dX8_clears_3 : decode cX8_clears 3 = .ok (.bipush 16, 2) := by decide +kernel
theorem dX8_clears_5 : decode cX8_clears 5 = .ok (.if_icmp .ge 21, 3) := by decide +kernel
theorem dX8_clears_8 : decode cX8_clears 8 = .ok (.aload_n 0, 1) := by decide +kernel
theorem dX8_clears_9 : decode cX8_clears 9 = .ok (.getfield 119, 3) := by decide +kernel
theorem dX8_clears_12 : decode cX8_clears 12 = .ok (.bipush 16, 2) := by decide +kernel
theorem dX8_clears_14 : decode cX8_clears 14 = .ok (.iload_n 1, 1) := by decide +kernel
theorem dX8_clears_15 : decode cX8_clears 15 = .ok (.imul, 1) := by decide +kernel
theorem dX8_clears_16 : decode cX8_clears 16 = .ok (.iload_n 2, 1) := by decide +kernel
theorem dX8_clears_17 : decode cX8_clears 17 = .ok (.iadd, 1) := by decide +kernel
theorem dX8_clears_18 : decode cX8_clears 18 = .ok (.iconst 0, 1) := by decide +kernel
theorem dX8_clears_19 : decode cX8_clears 19 = .ok (.bastore, 1) := by decide +kernel
theorem dX8_clears_20 : decode cX8_clears 20 = .ok (.iinc 2 1, 3) := by decide +kernel
theorem dX8_clears_23 : decode cX8_clears 23 = .ok (.goto (-21), 3) := by decide +kernel
theorem dX8_clears_26 : decode cX8_clears 26 = .ok (.iconst 0, 1) := by decide +kernel
theorem dX8_clears_27 : decode cX8_clears 27 = .ok (.istore_n 2, 1) := by decide +kernel
theorem dX8_clears_28 : decode cX8_clears 28 = .ok (.iload_n 2, 1) := by decide +kernel
theorem dX8_clears_29 : decode cX8_clears 29 = .ok (.bipush 32, 2) := by decide +kernel
theorem dX8_clears_31 : decode cX8_clears 31 = .ok (.if_icmp .ge 45, 3) := by decide +kernel
theorem dX8_clears_34 : decode cX8_clears 34 = .ok (.aload_n 0, 1) := by decide +kernel
theorem dX8_clears_35 : decode cX8_clears 35 = .ok (.getfield 131, 3) := by decide +kernel
theorem dX8_clears_38 : decode cX8_clears 38 = .ok (.bipush 32, 2) := by decide +kernel
theorem dX8_clears_40 : decode cX8_clears 40 = .ok (.iload_n 1, 1) := by decide +kernel
theorem dX8_clears_41 : decode cX8_clears 41 = .ok (.imul, 1) := by decide +kernel
theorem dX8_clears_42 : decode cX8_clears 42 = .ok (.iload_n 2, 1) := by decide +kernel
theorem dX8_clears_43 : decode cX8_clears 43 = .ok (.iadd, 1) := by decide +kernel
theorem dX8_clears_44 : decode cX8_clears 44 = .ok (.iconst 0, 1) := by decide +kernel
theorem dX8_clears_45 : decode cX8_clears 45 = .ok (.iastore, 1) := by decide +kernel
theorem dX8_clears_46 : decode cX8_clears 46 = .ok (.aload_n 0, 1) := by decide +kernel
theorem dX8_clears_47 : decode cX8_clears 47 = .ok (.getfield 137, 3) := by decide +kernel
theorem dX8_clears_50 : decode cX8_clears 50 = .ok (.bipush 32, 2) := by decide +kernel
theorem dX8_clears_52 : decode cX8_clears 52 = .ok (.iload_n 1, 1) := by decide +kernel
theorem dX8_clears_53 : decode cX8_clears 53 = .ok (.imul, 1) := by decide +kernel
theorem dX8_clears_54 : decode cX8_clears 54 = .ok (.iload_n 2, 1) := by decide +kernel
theorem dX8_clears_55 : decode cX8_clears 55 = .ok (.iadd, 1) := by decide +kernel
theorem dX8_clears_56 : decode cX8_clears 56 = .ok (.iconst 0, 1) := by decide +kernel
theorem dX8_clears_57 : decode cX8_clears 57 = .ok (.bastore, 1) := by decide +kernel
theorem dX8_clears_58 : decode cX8_clears 58 = .ok (.aload_n 0, 1) := by decide +kernel
theorem dX8_clears_59 : decode cX8_clears 59 = .ok (.getfield 143, 3) := by decide +kernel
theorem dX8_clears_62 : decode cX8_clears 62 = .ok (.bipush 32, 2) := by decide +kernel
theorem dX8_clears_64 : decode cX8_clears 64 = .ok (.iload_n 1, 1) := by decide +kernel
theorem dX8_clears_65 : decode cX8_clears 65 = .ok (.imul, 1) := by decide +kernel
theorem dX8_clears_66 : decode cX8_clears 66 = .ok (.iload_n 2, 1) := by decide +kernel
theorem dX8_clears_67 : decode cX8_clears 67 = .ok (.iadd, 1) := by decide +kernel
theorem dX8_clears_68 : decode cX8_clears 68 = .ok (.iconst 0, 1) := by decide +kernel
theorem dX8_clears_69 : decode cX8_clears 69 = .ok (.iastore, 1) := by decide +kernel
theorem dX8_clears_70 : decode cX8_clears 70 = .ok (.iinc 2 1, 3) := by decide +kernel
theorem dX8_clears_73 : decode cX8_clears 73 = .ok (.goto (-45), 3) := by decide +kernel
theorem dX8_clears_76 : decode cX8_clears 76 = .ok (.return_, 1) := by decide +kernel
theorem dX8_isBare_0 : decode cX8_isBare 0 = .ok (.iconst 0, 1) := by decide +kernel
theorem dX8_isBare_1 : decode cX8_isBare 1 = .ok (.istore_n 2, 1) := by decide +kernel
theorem dX8_isBare_2 : decode cX8_isBare 2 = .ok (.iload_n 2, 1) := by decide +kernel
theorem dX8_isBare_3 : decode cX8_isBare 3 = .ok (.bipush 16, 2) := by decide +kernel
theorem dX8_isBare_5 : decode cX8_isBare 5 = .ok (.if_icmp .ge 25, 3) := by decide +kernel
theorem dX8_isBare_8 : decode cX8_isBare 8 = .ok (.aload_n 0, 1) := by decide +kernel
theorem dX8_isBare_9 : decode cX8_isBare 9 = .ok (.getfield 119, 3) := by decide +kernel
theorem dX8_isBare_12 : decode cX8_isBare 12 = .ok (.bipush 16, 2) := by decide +kernel
theorem dX8_isBare_14 : decode cX8_isBare 14 = .ok (.iload_n 1, 1) := by decide +kernel
theorem dX8_isBare_15 : decode cX8_isBare 15 = .ok (.imul, 1) := by decide +kernel
theorem dX8_isBare_16 : decode cX8_isBare 16 = .ok (.iload_n 2, 1) := by decide +kernel
theorem dX8_isBare_17 : decode cX8_isBare 17 = .ok (.iadd, 1) := by decide +kernel
theorem dX8_isBare_18 : decode cX8_isBare 18 = .ok (.baload, 1) := by decide +kernel
theorem dX8_isBare_19 : decode cX8_isBare 19 = .ok (.ifCond .eq 5, 3) := by decide +kernel
theorem dX8_isBare_22 : decode cX8_isBare 22 = .ok (.iconst 0, 1) := by decide +kernel
theorem dX8_isBare_23 : decode cX8_isBare 23 = .ok (.ireturn, 1) := by decide +kernel
theorem dX8_isBare_24 : decode cX8_isBare 24 = .ok (.iinc 2 1, 3) := by decide +kernel
theorem dX8_isBare_27 : decode cX8_isBare 27 = .ok (.goto (-25), 3) := by decide +kernel
theorem dX8_isBare_30 : decode cX8_isBare 30 = .ok (.iconst 0, 1) := by decide +kernel
theorem dX8_isBare_31 : decode cX8_isBare 31 = .ok (.istore_n 2, 1) := by decide +kernel
theorem dX8_isBare_32 : decode cX8_isBare 32 = .ok (.iload_n 2, 1) := by decide +kernel
theorem dX8_isBare_33 : decode cX8_isBare 33 = .ok (.bipush 32, 2) := by decide +kernel
theorem dX8_isBare_35 : decode cX8_isBare 35 = .ok (.if_icmp .ge 53, 3) := by decide +kernel
theorem dX8_isBare_38 : decode cX8_isBare 38 = .ok (.aload_n 0, 1) := by decide +kernel
theorem dX8_isBare_39 : decode cX8_isBare 39 = .ok (.getfield 131, 3) := by decide +kernel
theorem dX8_isBare_42 : decode cX8_isBare 42 = .ok (.bipush 32, 2) := by decide +kernel
theorem dX8_isBare_44 : decode cX8_isBare 44 = .ok (.iload_n 1, 1) := by decide +kernel
theorem dX8_isBare_45 : decode cX8_isBare 45 = .ok (.imul, 1) := by decide +kernel
theorem dX8_isBare_46 : decode cX8_isBare 46 = .ok (.iload_n 2, 1) := by decide +kernel
theorem dX8_isBare_47 : decode cX8_isBare 47 = .ok (.iadd, 1) := by decide +kernel
theorem dX8_isBare_48 : decode cX8_isBare 48 = .ok (.iaload, 1) := by decide +kernel
theorem dX8_isBare_49 : decode cX8_isBare 49 = .ok (.ifCond .gt 31, 3) := by decide +kernel
theorem dX8_isBare_52 : decode cX8_isBare 52 = .ok (.aload_n 0, 1) := by decide +kernel
theorem dX8_isBare_53 : decode cX8_isBare 53 = .ok (.getfield 137, 3) := by decide +kernel
theorem dX8_isBare_56 : decode cX8_isBare 56 = .ok (.bipush 32, 2) := by decide +kernel
theorem dX8_isBare_58 : decode cX8_isBare 58 = .ok (.iload_n 1, 1) := by decide +kernel
theorem dX8_isBare_59 : decode cX8_isBare 59 = .ok (.imul, 1) := by decide +kernel
theorem dX8_isBare_60 : decode cX8_isBare 60 = .ok (.iload_n 2, 1) := by decide +kernel
theorem dX8_isBare_61 : decode cX8_isBare 61 = .ok (.iadd, 1) := by decide +kernel
theorem dX8_isBare_62 : decode cX8_isBare 62 = .ok (.baload, 1) := by decide +kernel
theorem dX8_isBare_63 : decode cX8_isBare 63 = .ok (.ifCond .ne 17, 3) := by decide +kernel
theorem dX8_isBare_66 : decode cX8_isBare 66 = .ok (.aload_n 0, 1) := by decide +kernel
theorem dX8_isBare_67 : decode cX8_isBare 67 = .ok (.getfield 143, 3) := by decide +kernel
theorem dX8_isBare_70 : decode cX8_isBare 70 = .ok (.bipush 32, 2) := by decide +kernel
theorem dX8_isBare_72 : decode cX8_isBare 72 = .ok (.iload_n 1, 1) := by decide +kernel
theorem dX8_isBare_73 : decode cX8_isBare 73 = .ok (.imul, 1) := by decide +kernel
theorem dX8_isBare_74 : decode cX8_isBare 74 = .ok (.iload_n 2, 1) := by decide +kernel
theorem dX8_isBare_75 : decode cX8_isBare 75 = .ok (.iadd, 1) := by decide +kernel
theorem dX8_isBare_76 : decode cX8_isBare 76 = .ok (.iaload, 1) := by decide +kernel
theorem dX8_isBare_77 : decode cX8_isBare 77 = .ok (.ifCond .le 5, 3) := by decide +kernel
theorem dX8_isBare_80 : decode cX8_isBare 80 = .ok (.iconst 0, 1) := by decide +kernel
theorem dX8_isBare_81 : decode cX8_isBare 81 = .ok (.ireturn, 1) := by decide +kernel
theorem dX8_isBare_82 : decode cX8_isBare 82 = .ok (.iinc 2 1, 3) := by decide +kernel
theorem dX8_isBare_85 : decode cX8_isBare 85 = .ok (.goto (-53), 3) := by decide +kernel
theorem dX8_isBare_88 : decode cX8_isBare 88 = .ok (.iconst 1, 1) := by decide +kernel
theorem dX8_isBare_89 : decode cX8_isBare 89 = .ok (.ireturn, 1) := by decide +kernel
theorem dX8_writes_0 : decode cX8_writes 0 = .ok (.aload_n 0, 1) := by decide +kernel
theorem dX8_writes_1 : decode cX8_writes 1 = .ok (.aload_n 0, 1) := by decide +kernel
theorem dX8_writes_2 : decode cX8_writes 2 = .ok (.getfield 225, 3) := by decide +kernel
theorem dX8_writes_5 : decode cX8_writes 5 = .ok (.invokevirtual 228, 3) := by decide +kernel
theorem dX8_writes_8 : decode cX8_writes 8 = .ok (.ifCond .eq 4, 3) := by decide +kernel
theorem dX8_writes_11 : decode cX8_writes 11 = .ok (.return_, 1) := by decide +kernel
theorem dX8_writes_12 : decode cX8_writes 12 = .ok (.aload_n 0, 1) := by decide +kernel
theorem dX8_writes_13 : decode cX8_writes 13 = .ok (.getfield 113, 3) := by decide +kernel
theorem dX8_writes_16 : decode cX8_writes 16 = .ok (.aload_n 0, 1) := by decide +kernel
theorem dX8_writes_17 : decode cX8_writes 17 = .ok (.getfield 225, 3) := by decide +kernel
theorem dX8_writes_20 : decode cX8_writes 20 = .ok (.iload_n 1, 1) := by decide +kernel
theorem dX8_writes_21 : decode cX8_writes 21 = .ok (.iastore, 1) := by decide +kernel
theorem dX8_writes_22 : decode cX8_writes 22 = .ok (.aload_n 0, 1) := by decide +kernel
theorem dX8_writes_23 : decode cX8_writes 23 = .ok (.getfield 116, 3) := by decide +kernel
theorem dX8_writes_26 : decode cX8_writes 26 = .ok (.aload_n 0, 1) := by decide +kernel
theorem dX8_writes_27 : decode cX8_writes 27 = .ok (.getfield 225, 3) := by decide +kernel
theorem dX8_writes_30 : decode cX8_writes 30 = .ok (.iload_n 2, 1) := by decide +kernel
theorem dX8_writes_31 : decode cX8_writes 31 = .ok (.iastore, 1) := by decide +kernel
theorem dX8_writes_32 : decode cX8_writes 32 = .ok (.aload_n 0, 1) := by decide +kernel
theorem dX8_writes_33 : decode cX8_writes 33 = .ok (.dup, 1) := by decide +kernel
theorem dX8_writes_34 : decode cX8_writes 34 = .ok (.getfield 225, 3) := by decide +kernel
theorem dX8_writes_37 : decode cX8_writes 37 = .ok (.iconst 1, 1) := by decide +kernel
theorem dX8_writes_38 : decode cX8_writes 38 = .ok (.iadd, 1) := by decide +kernel
theorem dX8_writes_39 : decode cX8_writes 39 = .ok (.putfield 225, 3) := by decide +kernel
theorem dX8_writes_42 : decode cX8_writes 42 = .ok (.aload_n 0, 1) := by decide +kernel
theorem dX8_writes_43 : decode cX8_writes 43 = .ok (.getfield 44, 3) := by decide +kernel
theorem dX8_writes_46 : decode cX8_writes 46 = .ok (.iload_n 1, 1) := by decide +kernel
theorem dX8_writes_47 : decode cX8_writes 47 = .ok (.dup2, 1) := by decide +kernel
theorem dX8_writes_48 : decode cX8_writes 48 = .ok (.iaload, 1) := by decide +kernel
theorem dX8_writes_49 : decode cX8_writes 49 = .ok (.iconst 1, 1) := by decide +kernel
theorem dX8_writes_50 : decode cX8_writes 50 = .ok (.iadd, 1) := by decide +kernel
theorem dX8_writes_51 : decode cX8_writes 51 = .ok (.iastore, 1) := by decide +kernel
theorem dX8_writes_52 : decode cX8_writes 52 = .ok (.aload_n 0, 1) := by decide +kernel
theorem dX8_writes_53 : decode cX8_writes 53 = .ok (.dup, 1) := by decide +kernel
theorem dX8_writes_54 : decode cX8_writes 54 = .ok (.getfield 231, 3) := by decide +kernel
theorem dX8_writes_57 : decode cX8_writes 57 = .ok (.iconst 1, 1) := by decide +kernel
theorem dX8_writes_58 : decode cX8_writes 58 = .ok (.iadd, 1) := by decide +kernel
theorem dX8_writes_59 : decode cX8_writes 59 = .ok (.putfield 231, 3) := by decide +kernel
theorem dX8_writes_62 : decode cX8_writes 62 = .ok (.aload_n 0, 1) := by decide +kernel
theorem dX8_writes_63 : decode cX8_writes 63 = .ok (.dup, 1) := by decide +kernel
theorem dX8_writes_64 : decode cX8_writes 64 = .ok (.getfield 234, 3) := by decide +kernel
theorem dX8_writes_67 : decode cX8_writes 67 = .ok (.iconst 1, 1) := by decide +kernel
theorem dX8_writes_68 : decode cX8_writes 68 = .ok (.iadd, 1) := by decide +kernel
theorem dX8_writes_69 : decode cX8_writes 69 = .ok (.putfield 234, 3) := by decide +kernel
theorem dX8_writes_72 : decode cX8_writes 72 = .ok (.return_, 1) := by decide +kernel
theorem dX8_speaksFor_0 : decode cX8_speaksFor 0 = .ok (.aload_n 0, 1) := by decide +kernel
theorem dX8_speaksFor_1 : decode cX8_speaksFor 1 = .ok (.getfield 68, 3) := by decide +kernel
theorem dX8_speaksFor_4 : decode cX8_speaksFor 4 = .ok (.iload_n 2, 1) := by decide +kernel
theorem dX8_speaksFor_5 : decode cX8_speaksFor 5 = .ok (.iaload, 1) := by decide +kernel
theorem dX8_speaksFor_6 : decode cX8_speaksFor 6 = .ok (.ifCond .ne 5, 3) := by decide +kernel
theorem dX8_speaksFor_9 : decode cX8_speaksFor 9 = .ok (.iconst 0, 1) := by decide +kernel
theorem dX8_speaksFor_10 : decode cX8_speaksFor 10 = .ok (.ireturn, 1) := by decide +kernel
theorem dX8_speaksFor_11 : decode cX8_speaksFor 11 = .ok (.aload_n 0, 1) := by decide +kernel
theorem dX8_speaksFor_12 : decode cX8_speaksFor 12 = .ok (.getfield 53, 3) := by decide +kernel
theorem dX8_speaksFor_15 : decode cX8_speaksFor 15 = .ok (.iload_n 2, 1) := by decide +kernel
theorem dX8_speaksFor_16 : decode cX8_speaksFor 16 = .ok (.iaload, 1) := by decide +kernel
theorem dX8_speaksFor_17 : decode cX8_speaksFor 17 = .ok (.istore_n 3, 1) := by decide +kernel
theorem dX8_speaksFor_18 : decode cX8_speaksFor 18 = .ok (.iload_n 3, 1) := by decide +kernel
theorem dX8_speaksFor_19 : decode cX8_speaksFor 19 = .ok (.iload_n 1, 1) := by decide +kernel
theorem dX8_speaksFor_20 : decode cX8_speaksFor 20 = .ok (.if_icmp .ne 21, 3) := by decide +kernel
theorem dX8_speaksFor_23 : decode cX8_speaksFor 23 = .ok (.aload_n 0, 1) := by decide +kernel
theorem dX8_speaksFor_24 : decode cX8_speaksFor 24 = .ok (.getfield 25, 3) := by decide +kernel
theorem dX8_speaksFor_27 : decode cX8_speaksFor 27 = .ok (.iload_n 1, 1) := by decide +kernel
theorem dX8_speaksFor_28 : decode cX8_speaksFor 28 = .ok (.iaload, 1) := by decide +kernel
theorem dX8_speaksFor_29 : decode cX8_speaksFor 29 = .ok (.iconst 2, 1) := by decide +kernel
theorem dX8_speaksFor_30 : decode cX8_speaksFor 30 = .ok (.if_icmp .ne 7, 3) := by decide +kernel
theorem dX8_speaksFor_33 : decode cX8_speaksFor 33 = .ok (.iconst 1, 1) := by decide +kernel
theorem dX8_speaksFor_34 : decode cX8_speaksFor 34 = .ok (.goto 42, 3) := by decide +kernel
theorem dX8_speaksFor_37 : decode cX8_speaksFor 37 = .ok (.iconst 0, 1) := by decide +kernel
theorem dX8_speaksFor_38 : decode cX8_speaksFor 38 = .ok (.goto 38, 3) := by decide +kernel
theorem dX8_speaksFor_41 : decode cX8_speaksFor 41 = .ok (.aload_n 0, 1) := by decide +kernel
theorem dX8_speaksFor_42 : decode cX8_speaksFor 42 = .ok (.getfield 68, 3) := by decide +kernel
theorem dX8_speaksFor_45 : decode cX8_speaksFor 45 = .ok (.iload_n 2, 1) := by decide +kernel
theorem dX8_speaksFor_46 : decode cX8_speaksFor 46 = .ok (.iaload, 1) := by decide +kernel
theorem dX8_speaksFor_47 : decode cX8_speaksFor 47 = .ok (.iconst 2, 1) := by decide +kernel
theorem dX8_speaksFor_48 : decode cX8_speaksFor 48 = .ok (.if_icmp .ne 27, 3) := by decide +kernel
theorem dX8_speaksFor_51 : decode cX8_speaksFor 51 = .ok (.aload_n 0, 1) := by decide +kernel
theorem dX8_speaksFor_52 : decode cX8_speaksFor 52 = .ok (.getfield 25, 3) := by decide +kernel
theorem dX8_speaksFor_55 : decode cX8_speaksFor 55 = .ok (.iload_n 3, 1) := by decide +kernel
theorem dX8_speaksFor_56 : decode cX8_speaksFor 56 = .ok (.iaload, 1) := by decide +kernel
theorem dX8_speaksFor_57 : decode cX8_speaksFor 57 = .ok (.iconst 1, 1) := by decide +kernel
theorem dX8_speaksFor_58 : decode cX8_speaksFor 58 = .ok (.if_icmp .ne 17, 3) := by decide +kernel
theorem dX8_speaksFor_61 : decode cX8_speaksFor 61 = .ok (.aload_n 0, 1) := by decide +kernel
theorem dX8_speaksFor_62 : decode cX8_speaksFor 62 = .ok (.getfield 41, 3) := by decide +kernel
theorem dX8_speaksFor_65 : decode cX8_speaksFor 65 = .ok (.iload_n 3, 1) := by decide +kernel
theorem dX8_speaksFor_66 : decode cX8_speaksFor 66 = .ok (.iaload, 1) := by decide +kernel
theorem dX8_speaksFor_67 : decode cX8_speaksFor 67 = .ok (.iload_n 1, 1) := by decide +kernel
theorem dX8_speaksFor_68 : decode cX8_speaksFor 68 = .ok (.if_icmp .ne 7, 3) := by decide +kernel
theorem dX8_speaksFor_71 : decode cX8_speaksFor 71 = .ok (.iconst 1, 1) := by decide +kernel
theorem dX8_speaksFor_72 : decode cX8_speaksFor 72 = .ok (.goto 4, 3) := by decide +kernel
theorem dX8_speaksFor_75 : decode cX8_speaksFor 75 = .ok (.iconst 0, 1) := by decide +kernel
theorem dX8_speaksFor_76 : decode cX8_speaksFor 76 = .ok (.ireturn, 1) := by decide +kernel
theorem dX8_isStronger_0 : decode cX8_isStronger 0 = .ok (.aload_n 0, 1) := by decide +kernel
theorem dX8_isStronger_1 : decode cX8_isStronger 1 = .ok (.getfield 53, 3) := by decide +kernel
theorem dX8_isStronger_4 : decode cX8_isStronger 4 = .ok (.iload_n 1, 1) := by decide +kernel
theorem dX8_isStronger_5 : decode cX8_isStronger 5 = .ok (.iaload, 1) := by decide +kernel
theorem dX8_isStronger_6 : decode cX8_isStronger 6 = .ok (.istore_n 3, 1) := by decide +kernel
theorem dX8_isStronger_7 : decode cX8_isStronger 7 = .ok (.aload_n 0, 1) := by decide +kernel
theorem dX8_isStronger_8 : decode cX8_isStronger 8 = .ok (.getfield 53, 3) := by decide +kernel
theorem dX8_isStronger_11 : decode cX8_isStronger 11 = .ok (.iload_n 2, 1) := by decide +kernel
theorem dX8_isStronger_12 : decode cX8_isStronger 12 = .ok (.iaload, 1) := by decide +kernel
theorem dX8_isStronger_13 : decode cX8_isStronger 13 = .ok (.istore 4, 2) := by decide +kernel
theorem dX8_isStronger_15 : decode cX8_isStronger 15 = .ok (.aload_n 0, 1) := by decide +kernel
theorem dX8_isStronger_16 : decode cX8_isStronger 16 = .ok (.getfield 22, 3) := by decide +kernel
theorem dX8_isStronger_19 : decode cX8_isStronger 19 = .ok (.iload_n 3, 1) := by decide +kernel
theorem dX8_isStronger_20 : decode cX8_isStronger 20 = .ok (.iaload, 1) := by decide +kernel
theorem dX8_isStronger_21 : decode cX8_isStronger 21 = .ok (.aload_n 0, 1) := by decide +kernel
theorem dX8_isStronger_22 : decode cX8_isStronger 22 = .ok (.getfield 22, 3) := by decide +kernel
theorem dX8_isStronger_25 : decode cX8_isStronger 25 = .ok (.iload 4, 2) := by decide +kernel
theorem dX8_isStronger_27 : decode cX8_isStronger 27 = .ok (.iaload, 1) := by decide +kernel
theorem dX8_isStronger_28 : decode cX8_isStronger 28 = .ok (.if_icmp .eq 27, 3) := by decide +kernel
theorem dX8_isStronger_31 : decode cX8_isStronger 31 = .ok (.aload_n 0, 1) := by decide +kernel
theorem dX8_isStronger_32 : decode cX8_isStronger 32 = .ok (.getfield 22, 3) := by decide +kernel
theorem dX8_isStronger_35 : decode cX8_isStronger 35 = .ok (.iload_n 3, 1) := by decide +kernel
theorem dX8_isStronger_36 : decode cX8_isStronger 36 = .ok (.iaload, 1) := by decide +kernel
theorem dX8_isStronger_37 : decode cX8_isStronger 37 = .ok (.aload_n 0, 1) := by decide +kernel
theorem dX8_isStronger_38 : decode cX8_isStronger 38 = .ok (.getfield 22, 3) := by decide +kernel
theorem dX8_isStronger_41 : decode cX8_isStronger 41 = .ok (.iload 4, 2) := by decide +kernel
theorem dX8_isStronger_43 : decode cX8_isStronger 43 = .ok (.iaload, 1) := by decide +kernel
theorem dX8_isStronger_44 : decode cX8_isStronger 44 = .ok (.if_icmp .le 7, 3) := by decide +kernel
theorem dX8_isStronger_47 : decode cX8_isStronger 47 = .ok (.iconst 1, 1) := by decide +kernel
theorem dX8_isStronger_48 : decode cX8_isStronger 48 = .ok (.goto 37, 3) := by decide +kernel
theorem dX8_isStronger_51 : decode cX8_isStronger 51 = .ok (.iconst 0, 1) := by decide +kernel
theorem dX8_isStronger_52 : decode cX8_isStronger 52 = .ok (.goto 33, 3) := by decide +kernel
theorem dX8_isStronger_55 : decode cX8_isStronger 55 = .ok (.iload_n 3, 1) := by decide +kernel
theorem dX8_isStronger_56 : decode cX8_isStronger 56 = .ok (.iload 4, 2) := by decide +kernel
theorem dX8_isStronger_58 : decode cX8_isStronger 58 = .ok (.if_icmp .eq 17, 3) := by decide +kernel
theorem dX8_isStronger_61 : decode cX8_isStronger 61 = .ok (.iload_n 3, 1) := by decide +kernel
theorem dX8_isStronger_62 : decode cX8_isStronger 62 = .ok (.iload 4, 2) := by decide +kernel
theorem dX8_isStronger_64 : decode cX8_isStronger 64 = .ok (.if_icmp .ge 7, 3) := by decide +kernel
theorem dX8_isStronger_67 : decode cX8_isStronger 67 = .ok (.iconst 1, 1) := by decide +kernel
theorem dX8_isStronger_68 : decode cX8_isStronger 68 = .ok (.goto 17, 3) := by decide +kernel
theorem dX8_isStronger_71 : decode cX8_isStronger 71 = .ok (.iconst 0, 1) := by decide +kernel
theorem dX8_isStronger_72 : decode cX8_isStronger 72 = .ok (.goto 13, 3) := by decide +kernel
theorem dX8_isStronger_75 : decode cX8_isStronger 75 = .ok (.iload_n 1, 1) := by decide +kernel
theorem dX8_isStronger_76 : decode cX8_isStronger 76 = .ok (.iload_n 2, 1) := by decide +kernel
theorem dX8_isStronger_77 : decode cX8_isStronger 77 = .ok (.if_icmp .ge 7, 3) := by decide +kernel
theorem dX8_isStronger_80 : decode cX8_isStronger 80 = .ok (.iconst 1, 1) := by decide +kernel
theorem dX8_isStronger_81 : decode cX8_isStronger 81 = .ok (.goto 4, 3) := by decide +kernel
theorem dX8_isStronger_84 : decode cX8_isStronger 84 = .ok (.iconst 0, 1) := by decide +kernel
theorem dX8_isStronger_85 : decode cX8_isStronger 85 = .ok (.ireturn, 1) := by decide +kernel
theorem dX8_knownTo_0 : decode cX8_knownTo 0 = .ok (.iconst 0, 1) := by decide +kernel
theorem dX8_knownTo_1 : decode cX8_knownTo 1 = .ok (.istore 4, 2) := by decide +kernel
theorem dX8_knownTo_3 : decode cX8_knownTo 3 = .ok (.iconst 0, 1) := by decide +kernel
theorem dX8_knownTo_4 : decode cX8_knownTo 4 = .ok (.istore 5, 2) := by decide +kernel
theorem dX8_knownTo_6 : decode cX8_knownTo 6 = .ok (.iload 5, 2) := by decide +kernel
theorem dX8_knownTo_8 : decode cX8_knownTo 8 = .ok (.aload_n 0, 1) := by decide +kernel
theorem dX8_knownTo_9 : decode cX8_knownTo 9 = .ok (.getfield 170, 3) := by decide +kernel
theorem dX8_knownTo_12 : decode cX8_knownTo 12 = .ok (.if_icmp .ge 69, 3) := by decide +kernel
theorem dX8_knownTo_15 : decode cX8_knownTo 15 = .ok (.bipush 32, 2) := by decide +kernel
theorem dX8_knownTo_17 : decode cX8_knownTo 17 = .ok (.iload_n 1, 1) := by decide +kernel
theorem dX8_knownTo_18 : decode cX8_knownTo 18 = .ok (.imul, 1) := by decide +kernel
theorem dX8_knownTo_19 : decode cX8_knownTo 19 = .ok (.iload 5, 2) := by decide +kernel
theorem dX8_knownTo_21 : decode cX8_knownTo 21 = .ok (.iadd, 1) := by decide +kernel
theorem dX8_knownTo_22 : decode cX8_knownTo 22 = .ok (.istore 6, 2) := by decide +kernel
theorem dX8_knownTo_24 : decode cX8_knownTo 24 = .ok (.aload_n 0, 1) := by decide +kernel
theorem dX8_knownTo_25 : decode cX8_knownTo 25 = .ok (.getfield 86, 3) := by decide +kernel
theorem dX8_knownTo_28 : decode cX8_knownTo 28 = .ok (.iload 6, 2) := by decide +kernel
theorem dX8_knownTo_30 : decode cX8_knownTo 30 = .ok (.baload, 1) := by decide +kernel
theorem dX8_knownTo_31 : decode cX8_knownTo 31 = .ok (.ifCond .eq 44, 3) := by decide +kernel
theorem dX8_knownTo_34 : decode cX8_knownTo 34 = .ok (.aload_n 0, 1) := by decide +kernel
theorem dX8_knownTo_35 : decode cX8_knownTo 35 = .ok (.getfield 56, 3) := by decide +kernel
theorem dX8_knownTo_38 : decode cX8_knownTo 38 = .ok (.iload 5, 2) := by decide +kernel
theorem dX8_knownTo_40 : decode cX8_knownTo 40 = .ok (.iaload, 1) := by decide +kernel
theorem dX8_knownTo_41 : decode cX8_knownTo 41 = .ok (.iload_n 2, 1) := by decide +kernel
theorem dX8_knownTo_42 : decode cX8_knownTo 42 = .ok (.if_icmp .ne 33, 3) := by decide +kernel
theorem dX8_knownTo_45 : decode cX8_knownTo 45 = .ok (.iconst 2, 1) := by decide +kernel
theorem dX8_knownTo_46 : decode cX8_knownTo 46 = .ok (.aload_n 0, 1) := by decide +kernel
theorem dX8_knownTo_47 : decode cX8_knownTo 47 = .ok (.getfield 98, 3) := by decide +kernel
theorem dX8_knownTo_50 : decode cX8_knownTo 50 = .ok (.iload 6, 2) := by decide +kernel
theorem dX8_knownTo_52 : decode cX8_knownTo 52 = .ok (.iaload, 1) := by decide +kernel
theorem dX8_knownTo_53 : decode cX8_knownTo 53 = .ok (.iload_n 3, 1) := by decide +kernel
theorem dX8_knownTo_54 : decode cX8_knownTo 54 = .ok (.isub, 1) := by decide +kernel
theorem dX8_knownTo_55 : decode cX8_knownTo 55 = .ok (.imul, 1) := by decide +kernel
theorem dX8_knownTo_56 : decode cX8_knownTo 56 = .ok (.aload_n 0, 1) := by decide +kernel
theorem dX8_knownTo_57 : decode cX8_knownTo 57 = .ok (.getfield 95, 3) := by decide +kernel
theorem dX8_knownTo_60 : decode cX8_knownTo 60 = .ok (.iload 6, 2) := by decide +kernel
theorem dX8_knownTo_62 : decode cX8_knownTo 62 = .ok (.iaload, 1) := by decide +kernel
theorem dX8_knownTo_63 : decode cX8_knownTo 63 = .ok (.if_icmp .le 12, 3) := by decide +kernel
theorem dX8_knownTo_66 : decode cX8_knownTo 66 = .ok (.iload 4, 2) := by decide +kernel
theorem dX8_knownTo_68 : decode cX8_knownTo 68 = .ok (.iconst 1, 1) := by decide +kernel
theorem dX8_knownTo_69 : decode cX8_knownTo 69 = .ok (.iload 5, 2) := by decide +kernel
theorem dX8_knownTo_71 : decode cX8_knownTo 71 = .ok (.ishl, 1) := by decide +kernel
theorem dX8_knownTo_72 : decode cX8_knownTo 72 = .ok (.ior, 1) := by decide +kernel
theorem dX8_knownTo_73 : decode cX8_knownTo 73 = .ok (.istore 4, 2) := by decide +kernel
theorem dX8_knownTo_75 : decode cX8_knownTo 75 = .ok (.iinc 5 1, 3) := by decide +kernel
theorem dX8_knownTo_78 : decode cX8_knownTo 78 = .ok (.goto (-72), 3) := by decide +kernel
theorem dX8_knownTo_81 : decode cX8_knownTo 81 = .ok (.iload 4, 2) := by decide +kernel
theorem dX8_knownTo_83 : decode cX8_knownTo 83 = .ok (.ireturn, 1) := by decide +kernel
theorem dX8_isDue_0 : decode cX8_isDue 0 = .ok (.bipush 32, 2) := by decide +kernel
theorem dX8_isDue_2 : decode cX8_isDue 2 = .ok (.iload_n 1, 1) := by decide +kernel
theorem dX8_isDue_3 : decode cX8_isDue 3 = .ok (.imul, 1) := by decide +kernel
theorem dX8_isDue_4 : decode cX8_isDue 4 = .ok (.iload_n 2, 1) := by decide +kernel
theorem dX8_isDue_5 : decode cX8_isDue 5 = .ok (.iadd, 1) := by decide +kernel
theorem dX8_isDue_6 : decode cX8_isDue 6 = .ok (.istore 4, 2) := by decide +kernel
theorem dX8_isDue_8 : decode cX8_isDue 8 = .ok (.aload_n 0, 1) := by decide +kernel
theorem dX8_isDue_9 : decode cX8_isDue 9 = .ok (.getfield 101, 3) := by decide +kernel
theorem dX8_isDue_12 : decode cX8_isDue 12 = .ok (.iload 4, 2) := by decide +kernel
theorem dX8_isDue_14 : decode cX8_isDue 14 = .ok (.iaload, 1) := by decide +kernel
theorem dX8_isDue_15 : decode cX8_isDue 15 = .ok (.iconst (-1), 1) := by decide +kernel
theorem dX8_isDue_16 : decode cX8_isDue 16 = .ok (.if_icmp .eq 14, 3) := by decide +kernel
theorem dX8_isDue_19 : decode cX8_isDue 19 = .ok (.aload_n 0, 1) := by decide +kernel
theorem dX8_isDue_20 : decode cX8_isDue 20 = .ok (.getfield 101, 3) := by decide +kernel
theorem dX8_isDue_23 : decode cX8_isDue 23 = .ok (.iload 4, 2) := by decide +kernel
theorem dX8_isDue_25 : decode cX8_isDue 25 = .ok (.iaload, 1) := by decide +kernel
theorem dX8_isDue_26 : decode cX8_isDue 26 = .ok (.iload_n 3, 1) := by decide +kernel
theorem dX8_isDue_27 : decode cX8_isDue 27 = .ok (.if_icmp .le 11, 3) := by decide +kernel
theorem dX8_isDue_30 : decode cX8_isDue 30 = .ok (.aload_n 0, 1) := by decide +kernel
theorem dX8_isDue_31 : decode cX8_isDue 31 = .ok (.getfield 101, 3) := by decide +kernel
theorem dX8_isDue_34 : decode cX8_isDue 34 = .ok (.iload 4, 2) := by decide +kernel
theorem dX8_isDue_36 : decode cX8_isDue 36 = .ok (.iload_n 3, 1) := by decide +kernel
theorem dX8_isDue_37 : decode cX8_isDue 37 = .ok (.iastore, 1) := by decide +kernel
theorem dX8_isDue_38 : decode cX8_isDue 38 = .ok (.return_, 1) := by decide +kernel
theorem dX8_yieldsName_0 : decode cX8_yieldsName 0 = .ok (.aload_n 0, 1) := by decide +kernel
theorem dX8_yieldsName_1 : decode cX8_yieldsName 1 = .ok (.getfield 53, 3) := by decide +kernel
theorem dX8_yieldsName_4 : decode cX8_yieldsName 4 = .ok (.iload_n 1, 1) := by decide +kernel
theorem dX8_yieldsName_5 : decode cX8_yieldsName 5 = .ok (.iaload, 1) := by decide +kernel
theorem dX8_yieldsName_6 : decode cX8_yieldsName 6 = .ok (.istore_n 2, 1) := by decide +kernel
theorem dX8_yieldsName_7 : decode cX8_yieldsName 7 = .ok (.aload_n 0, 1) := by decide +kernel
theorem dX8_yieldsName_8 : decode cX8_yieldsName 8 = .ok (.getfield 68, 3) := by decide +kernel
theorem dX8_yieldsName_11 : decode cX8_yieldsName 11 = .ok (.iload_n 1, 1) := by decide +kernel
theorem dX8_yieldsName_12 : decode cX8_yieldsName 12 = .ok (.iaload, 1) := by decide +kernel
theorem dX8_yieldsName_13 : decode cX8_yieldsName 13 = .ok (.iconst 2, 1) := by decide +kernel
theorem dX8_yieldsName_14 : decode cX8_yieldsName 14 = .ok (.if_icmp .ne 10, 3) := by decide +kernel
theorem dX8_yieldsName_17 : decode cX8_yieldsName 17 = .ok (.aload_n 0, 1) := by decide +kernel
theorem dX8_yieldsName_18 : decode cX8_yieldsName 18 = .ok (.getfield 80, 3) := by decide +kernel
theorem dX8_yieldsName_21 : decode cX8_yieldsName 21 = .ok (.iload_n 1, 1) := by decide +kernel
theorem dX8_yieldsName_22 : decode cX8_yieldsName 22 = .ok (.iconst 1, 1) := by decide +kernel
theorem dX8_yieldsName_23 : decode cX8_yieldsName 23 = .ok (.bastore, 1) := by decide +kernel
theorem dX8_yieldsName_24 : decode cX8_yieldsName 24 = .ok (.aload_n 0, 1) := by decide +kernel
theorem dX8_yieldsName_25 : decode cX8_yieldsName 25 = .ok (.getfield 59, 3) := by decide +kernel
theorem dX8_yieldsName_28 : decode cX8_yieldsName 28 = .ok (.iload_n 1, 1) := by decide +kernel
theorem dX8_yieldsName_29 : decode cX8_yieldsName 29 = .ok (.iaload, 1) := by decide +kernel
theorem dX8_yieldsName_30 : decode cX8_yieldsName 30 = .ok (.istore_n 3, 1) := by decide +kernel
theorem dX8_yieldsName_31 : decode cX8_yieldsName 31 = .ok (.iconst 0, 1) := by decide +kernel
theorem dX8_yieldsName_32 : decode cX8_yieldsName 32 = .ok (.istore 4, 2) := by decide +kernel
theorem dX8_yieldsName_34 : decode cX8_yieldsName 34 = .ok (.aload_n 0, 1) := by decide +kernel
theorem dX8_yieldsName_35 : decode cX8_yieldsName 35 = .ok (.getfield 16, 3) := by decide +kernel
theorem dX8_yieldsName_38 : decode cX8_yieldsName 38 = .ok (.iload_n 2, 1) := by decide +kernel
theorem dX8_yieldsName_39 : decode cX8_yieldsName 39 = .ok (.iaload, 1) := by decide +kernel
theorem dX8_yieldsName_40 : decode cX8_yieldsName 40 = .ok (.istore 5, 2) := by decide +kernel
theorem dX8_yieldsName_42 : decode cX8_yieldsName 42 = .ok (.iload 5, 2) := by decide +kernel
theorem dX8_yieldsName_44 : decode cX8_yieldsName 44 = .ok (.aload_n 0, 1) := by decide +kernel
theorem dX8_yieldsName_45 : decode cX8_yieldsName 45 = .ok (.getfield 19, 3) := by decide +kernel
theorem dX8_yieldsName_48 : decode cX8_yieldsName 48 = .ok (.iload_n 2, 1) := by decide +kernel
theorem dX8_yieldsName_49 : decode cX8_yieldsName 49 = .ok (.iaload, 1) := by decide +kernel
theorem dX8_yieldsName_50 : decode cX8_yieldsName 50 = .ok (.if_icmp .ge 54, 3) := by decide +kernel
theorem dX8_yieldsName_53 : decode cX8_yieldsName 53 = .ok (.iload 4, 2) := by decide +kernel
theorem dX8_yieldsName_55 : decode cX8_yieldsName 55 = .ok (.ifCond .ne 49, 3) := by decide +kernel
theorem dX8_yieldsName_58 : decode cX8_yieldsName 58 = .ok (.iload_n 3, 1) := by decide +kernel
theorem dX8_yieldsName_59 : decode cX8_yieldsName 59 = .ok (.aload_n 0, 1) := by decide +kernel
theorem dX8_yieldsName_60 : decode cX8_yieldsName 60 = .ok (.getfield 19, 3) := by decide +kernel
theorem dX8_yieldsName_63 : decode cX8_yieldsName 63 = .ok (.iload_n 2, 1) := by decide +kernel
theorem dX8_yieldsName_64 : decode cX8_yieldsName 64 = .ok (.iaload, 1) := by decide +kernel
theorem dX8_yieldsName_65 : decode cX8_yieldsName 65 = .ok (.if_icmp .ne 12, 3) := by decide +kernel
theorem dX8_yieldsName_68 : decode cX8_yieldsName 68 = .ok (.aload_n 0, 1) := by decide +kernel
theorem dX8_yieldsName_69 : decode cX8_yieldsName 69 = .ok (.getfield 16, 3) := by decide +kernel
theorem dX8_yieldsName_72 : decode cX8_yieldsName 72 = .ok (.iload_n 2, 1) := by decide +kernel
theorem dX8_yieldsName_73 : decode cX8_yieldsName 73 = .ok (.iaload, 1) := by decide +kernel
theorem dX8_yieldsName_74 : decode cX8_yieldsName 74 = .ok (.goto 6, 3) := by decide +kernel
theorem dX8_yieldsName_77 : decode cX8_yieldsName 77 = .ok (.iload_n 3, 1) := by decide +kernel
theorem dX8_yieldsName_78 : decode cX8_yieldsName 78 = .ok (.iconst 1, 1) := by decide +kernel
theorem dX8_yieldsName_79 : decode cX8_yieldsName 79 = .ok (.iadd, 1) := by decide +kernel
theorem dX8_yieldsName_80 : decode cX8_yieldsName 80 = .ok (.istore_n 3, 1) := by decide +kernel
theorem dX8_yieldsName_81 : decode cX8_yieldsName 81 = .ok (.aload_n 0, 1) := by decide +kernel
theorem dX8_yieldsName_82 : decode cX8_yieldsName 82 = .ok (.iload_n 2, 1) := by decide +kernel
theorem dX8_yieldsName_83 : decode cX8_yieldsName 83 = .ok (.iload_n 3, 1) := by decide +kernel
theorem dX8_yieldsName_84 : decode cX8_yieldsName 84 = .ok (.iload_n 1, 1) := by decide +kernel
theorem dX8_yieldsName_85 : decode cX8_yieldsName 85 = .ok (.invokevirtual 184, 3) := by decide +kernel
theorem dX8_yieldsName_88 : decode cX8_yieldsName 88 = .ok (.ifCond .ne 7, 3) := by decide +kernel
theorem dX8_yieldsName_91 : decode cX8_yieldsName 91 = .ok (.iconst 1, 1) := by decide +kernel
theorem dX8_yieldsName_92 : decode cX8_yieldsName 92 = .ok (.goto 4, 3) := by decide +kernel
theorem dX8_yieldsName_95 : decode cX8_yieldsName 95 = .ok (.iconst 0, 1) := by decide +kernel
theorem dX8_yieldsName_96 : decode cX8_yieldsName 96 = .ok (.istore 4, 2) := by decide +kernel
theorem dX8_yieldsName_98 : decode cX8_yieldsName 98 = .ok (.iinc 5 1, 3) := by decide +kernel
theorem dX8_yieldsName_101 : decode cX8_yieldsName 101 = .ok (.goto (-59), 3) := by decide +kernel
theorem dX8_yieldsName_104 : decode cX8_yieldsName 104 = .ok (.aload_n 0, 1) := by decide +kernel
theorem dX8_yieldsName_105 : decode cX8_yieldsName 105 = .ok (.getfield 59, 3) := by decide +kernel
theorem dX8_yieldsName_108 : decode cX8_yieldsName 108 = .ok (.iload_n 1, 1) := by decide +kernel
theorem dX8_yieldsName_109 : decode cX8_yieldsName 109 = .ok (.iload 4, 2) := by decide +kernel
theorem dX8_yieldsName_111 : decode cX8_yieldsName 111 = .ok (.ifCond .eq 7, 3) := by decide +kernel
theorem dX8_yieldsName_114 : decode cX8_yieldsName 114 = .ok (.iload_n 3, 1) := by decide +kernel
theorem dX8_yieldsName_115 : decode cX8_yieldsName 115 = .ok (.goto 9, 3) := by decide +kernel
theorem dX8_yieldsName_118 : decode cX8_yieldsName 118 = .ok (.aload_n 0, 1) := by decide +kernel
theorem dX8_yieldsName_119 : decode cX8_yieldsName 119 = .ok (.getfield 59, 3) := by decide +kernel
theorem dX8_yieldsName_122 : decode cX8_yieldsName 122 = .ok (.iload_n 1, 1) := by decide +kernel
theorem dX8_yieldsName_123 : decode cX8_yieldsName 123 = .ok (.iaload, 1) := by decide +kernel
theorem dX8_yieldsName_124 : decode cX8_yieldsName 124 = .ok (.iastore, 1) := by decide +kernel
theorem dX8_yieldsName_125 : decode cX8_yieldsName 125 = .ok (.aload_n 0, 1) := by decide +kernel
theorem dX8_yieldsName_126 : decode cX8_yieldsName 126 = .ok (.getfield 68, 3) := by decide +kernel
theorem dX8_yieldsName_129 : decode cX8_yieldsName 129 = .ok (.iload_n 1, 1) := by decide +kernel
theorem dX8_yieldsName_130 : decode cX8_yieldsName 130 = .ok (.iconst 1, 1) := by decide +kernel
theorem dX8_yieldsName_131 : decode cX8_yieldsName 131 = .ok (.iastore, 1) := by decide +kernel
theorem dX8_yieldsName_132 : decode cX8_yieldsName 132 = .ok (.aload_n 0, 1) := by decide +kernel
theorem dX8_yieldsName_133 : decode cX8_yieldsName 133 = .ok (.getfield 71, 3) := by decide +kernel
theorem dX8_yieldsName_136 : decode cX8_yieldsName 136 = .ok (.iload_n 1, 1) := by decide +kernel
theorem dX8_yieldsName_137 : decode cX8_yieldsName 137 = .ok (.iconst 3, 1) := by decide +kernel
theorem dX8_yieldsName_138 : decode cX8_yieldsName 138 = .ok (.iastore, 1) := by decide +kernel
theorem dX8_yieldsName_139 : decode cX8_yieldsName 139 = .ok (.aload_n 0, 1) := by decide +kernel
theorem dX8_yieldsName_140 : decode cX8_yieldsName 140 = .ok (.getfield 74, 3) := by decide +kernel
theorem dX8_yieldsName_143 : decode cX8_yieldsName 143 = .ok (.iload_n 1, 1) := by decide +kernel
theorem dX8_yieldsName_144 : decode cX8_yieldsName 144 = .ok (.iconst (-1), 1) := by decide +kernel
theorem dX8_yieldsName_145 : decode cX8_yieldsName 145 = .ok (.iastore, 1) := by decide +kernel
theorem dX8_yieldsName_146 : decode cX8_yieldsName 146 = .ok (.aload_n 0, 1) := by decide +kernel
theorem dX8_yieldsName_147 : decode cX8_yieldsName 147 = .ok (.getfield 77, 3) := by decide +kernel
theorem dX8_yieldsName_150 : decode cX8_yieldsName 150 = .ok (.iload_n 1, 1) := by decide +kernel
theorem dX8_yieldsName_151 : decode cX8_yieldsName 151 = .ok (.dup2, 1) := by decide +kernel
theorem dX8_yieldsName_152 : decode cX8_yieldsName 152 = .ok (.iaload, 1) := by decide +kernel
theorem dX8_yieldsName_153 : decode cX8_yieldsName 153 = .ok (.iconst 1, 1) := by decide +kernel
theorem dX8_yieldsName_154 : decode cX8_yieldsName 154 = .ok (.iadd, 1) := by decide +kernel
theorem dX8_yieldsName_155 : decode cX8_yieldsName 155 = .ok (.iastore, 1) := by decide +kernel
theorem dX8_yieldsName_156 : decode cX8_yieldsName 156 = .ok (.aload_n 0, 1) := by decide +kernel
theorem dX8_yieldsName_157 : decode cX8_yieldsName 157 = .ok (.dup, 1) := by decide +kernel
theorem dX8_yieldsName_158 : decode cX8_yieldsName 158 = .ok (.getfield 237, 3) := by decide +kernel
theorem dX8_yieldsName_161 : decode cX8_yieldsName 161 = .ok (.iconst 1, 1) := by decide +kernel
theorem dX8_yieldsName_162 : decode cX8_yieldsName 162 = .ok (.iadd, 1) := by decide +kernel
theorem dX8_yieldsName_163 : decode cX8_yieldsName 163 = .ok (.putfield 237, 3) := by decide +kernel
theorem dX8_yieldsName_166 : decode cX8_yieldsName 166 = .ok (.aload_n 0, 1) := by decide +kernel
theorem dX8_yieldsName_167 : decode cX8_yieldsName 167 = .ok (.getfield 25, 3) := by decide +kernel
theorem dX8_yieldsName_170 : decode cX8_yieldsName 170 = .ok (.iload_n 2, 1) := by decide +kernel
theorem dX8_yieldsName_171 : decode cX8_yieldsName 171 = .ok (.iaload, 1) := by decide +kernel
theorem dX8_yieldsName_172 : decode cX8_yieldsName 172 = .ok (.iconst 1, 1) := by decide +kernel
theorem dX8_yieldsName_173 : decode cX8_yieldsName 173 = .ok (.if_icmp .eq 4, 3) := by decide +kernel
theorem dX8_yieldsName_176 : decode cX8_yieldsName 176 = .ok (.return_, 1) := by decide +kernel
theorem dX8_yieldsName_177 : decode cX8_yieldsName 177 = .ok (.aload_n 0, 1) := by decide +kernel
theorem dX8_yieldsName_178 : decode cX8_yieldsName 178 = .ok (.iload_n 2, 1) := by decide +kernel
theorem dX8_yieldsName_179 : decode cX8_yieldsName 179 = .ok (.invokevirtual 208, 3) := by decide +kernel
theorem dX8_yieldsName_182 : decode cX8_yieldsName 182 = .ok (.aload_n 0, 1) := by decide +kernel
theorem dX8_yieldsName_183 : decode cX8_yieldsName 183 = .ok (.dup, 1) := by decide +kernel
theorem dX8_yieldsName_184 : decode cX8_yieldsName 184 = .ok (.getfield 221, 3) := by decide +kernel
theorem dX8_yieldsName_187 : decode cX8_yieldsName 187 = .ok (.iconst 1, 1) := by decide +kernel
theorem dX8_yieldsName_188 : decode cX8_yieldsName 188 = .ok (.iadd, 1) := by decide +kernel
theorem dX8_yieldsName_189 : decode cX8_yieldsName 189 = .ok (.putfield 221, 3) := by decide +kernel
theorem dX8_yieldsName_192 : decode cX8_yieldsName 192 = .ok (.return_, 1) := by decide +kernel
theorem dX8_tick_0 : decode cX8_tick 0 = .ok (.iload_n 1, 1) := by decide +kernel
theorem dX8_tick_1 : decode cX8_tick 1 = .ok (.iconst 1, 1) := by decide +kernel
theorem dX8_tick_2 : decode cX8_tick 2 = .ok (.bipush 50, 2) := by decide +kernel
theorem dX8_tick_4 : decode cX8_tick 4 = .ok (.invokestatic 159, 3) := by decide +kernel
theorem dX8_tick_7 : decode cX8_tick 7 = .ok (.ifCond .eq 15, 3) := by decide +kernel
theorem dX8_tick_10 : decode cX8_tick 10 = .ok (.aload_n 0, 1) := by decide +kernel
theorem dX8_tick_11 : decode cX8_tick 11 = .ok (.getfield 191, 3) := by decide +kernel
theorem dX8_tick_14 : decode cX8_tick 14 = .ok (.iload_n 1, 1) := by decide +kernel
theorem dX8_tick_15 : decode cX8_tick 15 = .ok (.iadd, 1) := by decide +kernel
theorem dX8_tick_16 : decode cX8_tick 16 = .ok (.sipush 30000, 3) := by decide +kernel
theorem dX8_tick_19 : decode cX8_tick 19 = .ok (.if_icmp .le 5, 3) := by decide +kernel
theorem dX8_tick_22 : decode cX8_tick 22 = .ok (.iconst (-1), 1) := by decide +kernel
theorem dX8_tick_23 : decode cX8_tick 23 = .ok (.ireturn, 1) := by decide +kernel
theorem dX8_tick_24 : decode cX8_tick 24 = .ok (.iconst 0, 1) := by decide +kernel
theorem dX8_tick_25 : decode cX8_tick 25 = .ok (.istore_n 2, 1) := by decide +kernel
theorem dX8_tick_26 : decode cX8_tick 26 = .ok (.iload_n 2, 1) := by decide +kernel
theorem dX8_tick_27 : decode cX8_tick 27 = .ok (.iload_n 1, 1) := by decide +kernel
theorem dX8_tick_28 : decode cX8_tick 28 = .ok (.if_icmp .ge 17, 3) := by decide +kernel
theorem dX8_tick_31 : decode cX8_tick 31 = .ok (.aload_n 0, 1) := by decide +kernel
theorem dX8_tick_32 : decode cX8_tick 32 = .ok (.aload_n 0, 1) := by decide +kernel
theorem dX8_tick_33 : decode cX8_tick 33 = .ok (.getfield 191, 3) := by decide +kernel
theorem dX8_tick_36 : decode cX8_tick 36 = .ok (.invokevirtual 240, 3) := by decide +kernel
theorem dX8_tick_39 : decode cX8_tick 39 = .ok (.iinc 2 1, 3) := by decide +kernel
theorem dX8_tick_42 : decode cX8_tick 42 = .ok (.goto (-16), 3) := by decide +kernel
theorem dX8_tick_45 : decode cX8_tick 45 = .ok (.aload_n 0, 1) := by decide +kernel
theorem dX8_tick_46 : decode cX8_tick 46 = .ok (.getfield 191, 3) := by decide +kernel
theorem dX8_tick_49 : decode cX8_tick 49 = .ok (.ireturn, 1) := by decide +kernel
theorem dX8_oneTick_0 : decode cX8_oneTick 0 = .ok (.iconst 0, 1) := by decide +kernel
theorem dX8_oneTick_1 : decode cX8_oneTick 1 = .ok (.istore_n 2, 1) := by decide +kernel
theorem dX8_oneTick_2 : decode cX8_oneTick 2 = .ok (.iload_n 2, 1) := by decide +kernel
theorem dX8_oneTick_3 : decode cX8_oneTick 3 = .ok (.aload_n 0, 1) := by decide +kernel
theorem dX8_oneTick_4 : decode cX8_oneTick 4 = .ok (.getfield 170, 3) := by decide +kernel
theorem dX8_oneTick_7 : decode cX8_oneTick 7 = .ok (.if_icmp .ge 60, 3) := by decide +kernel
theorem dX8_oneTick_10 : decode cX8_oneTick 10 = .ok (.aload_n 0, 1) := by decide +kernel
theorem dX8_oneTick_11 : decode cX8_oneTick 11 = .ok (.getfield 68, 3) := by decide +kernel
theorem dX8_oneTick_14 : decode cX8_oneTick 14 = .ok (.iload_n 2, 1) := by decide +kernel
theorem dX8_oneTick_15 : decode cX8_oneTick 15 = .ok (.iaload, 1) := by decide +kernel
theorem dX8_oneTick_16 : decode cX8_oneTick 16 = .ok (.iconst 1, 1) := by decide +kernel
theorem dX8_oneTick_17 : decode cX8_oneTick 17 = .ok (.if_icmp .ne 44, 3) := by decide +kernel
theorem dX8_oneTick_20 : decode cX8_oneTick 20 = .ok (.aload_n 0, 1) := by decide +kernel
theorem dX8_oneTick_21 : decode cX8_oneTick 21 = .ok (.getfield 71, 3) := by decide +kernel
theorem dX8_oneTick_24 : decode cX8_oneTick 24 = .ok (.iload_n 2, 1) := by decide +kernel
theorem dX8_oneTick_25 : decode cX8_oneTick 25 = .ok (.iaload, 1) := by decide +kernel
theorem dX8_oneTick_26 : decode cX8_oneTick 26 = .ok (.ifCond .gt 35, 3) := by decide +kernel
theorem dX8_oneTick_29 : decode cX8_oneTick 29 = .ok (.aload_n 0, 1) := by decide +kernel
theorem dX8_oneTick_30 : decode cX8_oneTick 30 = .ok (.getfield 25, 3) := by decide +kernel
theorem dX8_oneTick_33 : decode cX8_oneTick 33 = .ok (.aload_n 0, 1) := by decide +kernel
theorem dX8_oneTick_34 : decode cX8_oneTick 34 = .ok (.getfield 53, 3) := by decide +kernel
theorem dX8_oneTick_37 : decode cX8_oneTick 37 = .ok (.iload_n 2, 1) := by decide +kernel
theorem dX8_oneTick_38 : decode cX8_oneTick 38 = .ok (.iaload, 1) := by decide +kernel
theorem dX8_oneTick_39 : decode cX8_oneTick 39 = .ok (.iaload, 1) := by decide +kernel
theorem dX8_oneTick_40 : decode cX8_oneTick 40 = .ok (.iconst 2, 1) := by decide +kernel
theorem dX8_oneTick_41 : decode cX8_oneTick 41 = .ok (.if_icmp .eq 6, 3) := by decide +kernel
theorem dX8_oneTick_44 : decode cX8_oneTick 44 = .ok (.goto 17, 3) := by decide +kernel
theorem dX8_oneTick_47 : decode cX8_oneTick 47 = .ok (.aload_n 0, 1) := by decide +kernel
theorem dX8_oneTick_48 : decode cX8_oneTick 48 = .ok (.getfield 68, 3) := by decide +kernel
theorem dX8_oneTick_51 : decode cX8_oneTick 51 = .ok (.iload_n 2, 1) := by decide +kernel
theorem dX8_oneTick_52 : decode cX8_oneTick 52 = .ok (.iconst 2, 1) := by decide +kernel
theorem dX8_oneTick_53 : decode cX8_oneTick 53 = .ok (.iastore, 1) := by decide +kernel
theorem dX8_oneTick_54 : decode cX8_oneTick 54 = .ok (.aload_n 0, 1) := by decide +kernel
theorem dX8_oneTick_55 : decode cX8_oneTick 55 = .ok (.getfield 74, 3) := by decide +kernel
theorem dX8_oneTick_58 : decode cX8_oneTick 58 = .ok (.iload_n 2, 1) := by decide +kernel
theorem dX8_oneTick_59 : decode cX8_oneTick 59 = .ok (.iload_n 1, 1) := by decide +kernel
theorem dX8_oneTick_60 : decode cX8_oneTick 60 = .ok (.iastore, 1) := by decide +kernel
theorem dX8_oneTick_61 : decode cX8_oneTick 61 = .ok (.iinc 2 1, 3) := by decide +kernel
theorem dX8_oneTick_64 : decode cX8_oneTick 64 = .ok (.goto (-62), 3) := by decide +kernel
theorem dX8_oneTick_67 : decode cX8_oneTick 67 = .ok (.aload_n 0, 1) := by decide +kernel
theorem dX8_oneTick_68 : decode cX8_oneTick 68 = .ok (.iconst 0, 1) := by decide +kernel
theorem dX8_oneTick_69 : decode cX8_oneTick 69 = .ok (.putfield 225, 3) := by decide +kernel
theorem dX8_oneTick_72 : decode cX8_oneTick 72 = .ok (.aload_n 0, 1) := by decide +kernel
theorem dX8_oneTick_73 : decode cX8_oneTick 73 = .ok (.iconst 0, 1) := by decide +kernel
theorem dX8_oneTick_74 : decode cX8_oneTick 74 = .ok (.putfield 234, 3) := by decide +kernel
theorem dX8_oneTick_77 : decode cX8_oneTick 77 = .ok (.iconst 0, 1) := by decide +kernel
theorem dX8_oneTick_78 : decode cX8_oneTick 78 = .ok (.istore_n 2, 1) := by decide +kernel
theorem dX8_oneTick_79 : decode cX8_oneTick 79 = .ok (.iload_n 2, 1) := by decide +kernel
theorem dX8_oneTick_80 : decode cX8_oneTick 80 = .ok (.aload_n 0, 1) := by decide +kernel
theorem dX8_oneTick_81 : decode cX8_oneTick 81 = .ok (.getfield 155, 3) := by decide +kernel
theorem dX8_oneTick_84 : decode cX8_oneTick 84 = .ok (.if_icmp .ge 25, 3) := by decide +kernel
theorem dX8_oneTick_87 : decode cX8_oneTick 87 = .ok (.aload_n 0, 1) := by decide +kernel
theorem dX8_oneTick_88 : decode cX8_oneTick 88 = .ok (.getfield 25, 3) := by decide +kernel
theorem dX8_oneTick_91 : decode cX8_oneTick 91 = .ok (.iload_n 2, 1) := by decide +kernel
theorem dX8_oneTick_92 : decode cX8_oneTick 92 = .ok (.iaload, 1) := by decide +kernel
theorem dX8_oneTick_93 : decode cX8_oneTick 93 = .ok (.iconst 2, 1) := by decide +kernel
theorem dX8_oneTick_94 : decode cX8_oneTick 94 = .ok (.if_icmp .ne 9, 3) := by decide +kernel
theorem dX8_oneTick_97 : decode cX8_oneTick 97 = .ok (.aload_n 0, 1) := by decide +kernel
theorem dX8_oneTick_98 : decode cX8_oneTick 98 = .ok (.iload_n 2, 1) := by decide +kernel
theorem dX8_oneTick_99 : decode cX8_oneTick 99 = .ok (.iload_n 1, 1) := by decide +kernel
theorem dX8_oneTick_100 : decode cX8_oneTick 100 = .ok (.invokevirtual 243, 3) := by decide +kernel
theorem dX8_oneTick_103 : decode cX8_oneTick 103 = .ok (.iinc 2 1, 3) := by decide +kernel
theorem dX8_oneTick_106 : decode cX8_oneTick 106 = .ok (.goto (-27), 3) := by decide +kernel
theorem dX8_oneTick_109 : decode cX8_oneTick 109 = .ok (.iconst 0, 1) := by decide +kernel
theorem dX8_oneTick_110 : decode cX8_oneTick 110 = .ok (.istore_n 2, 1) := by decide +kernel
theorem dX8_oneTick_111 : decode cX8_oneTick 111 = .ok (.iload_n 2, 1) := by decide +kernel
theorem dX8_oneTick_112 : decode cX8_oneTick 112 = .ok (.aload_n 0, 1) := by decide +kernel
theorem dX8_oneTick_113 : decode cX8_oneTick 113 = .ok (.getfield 225, 3) := by decide +kernel
theorem dX8_oneTick_116 : decode cX8_oneTick 116 = .ok (.if_icmp .ge 15, 3) := by decide +kernel
theorem dX8_oneTick_119 : decode cX8_oneTick 119 = .ok (.aload_n 0, 1) := by decide +kernel
theorem dX8_oneTick_120 : decode cX8_oneTick 120 = .ok (.iload_n 2, 1) := by decide +kernel
theorem dX8_oneTick_121 : decode cX8_oneTick 121 = .ok (.iload_n 1, 1) := by decide +kernel
theorem dX8_oneTick_122 : decode cX8_oneTick 122 = .ok (.invokevirtual 247, 3) := by decide +kernel
theorem dX8_oneTick_125 : decode cX8_oneTick 125 = .ok (.iinc 2 1, 3) := by decide +kernel
theorem dX8_oneTick_128 : decode cX8_oneTick 128 = .ok (.goto (-17), 3) := by decide +kernel
theorem dX8_oneTick_131 : decode cX8_oneTick 131 = .ok (.iconst 0, 1) := by decide +kernel
theorem dX8_oneTick_132 : decode cX8_oneTick 132 = .ok (.istore_n 2, 1) := by decide +kernel
theorem dX8_oneTick_133 : decode cX8_oneTick 133 = .ok (.iload_n 2, 1) := by decide +kernel
theorem dX8_oneTick_134 : decode cX8_oneTick 134 = .ok (.aload_n 0, 1) := by decide +kernel
theorem dX8_oneTick_135 : decode cX8_oneTick 135 = .ok (.getfield 155, 3) := by decide +kernel
theorem dX8_oneTick_138 : decode cX8_oneTick 138 = .ok (.if_icmp .ge 54, 3) := by decide +kernel
theorem dX8_oneTick_141 : decode cX8_oneTick 141 = .ok (.iconst 0, 1) := by decide +kernel
theorem dX8_oneTick_142 : decode cX8_oneTick 142 = .ok (.istore_n 3, 1) := by decide +kernel
theorem dX8_oneTick_143 : decode cX8_oneTick 143 = .ok (.iload_n 3, 1) := by decide +kernel
theorem dX8_oneTick_144 : decode cX8_oneTick 144 = .ok (.aload_n 0, 1) := by decide +kernel
theorem dX8_oneTick_145 : decode cX8_oneTick 145 = .ok (.getfield 170, 3) := by decide +kernel
theorem dX8_oneTick_148 : decode cX8_oneTick 148 = .ok (.if_icmp .ge 38, 3) := by decide +kernel
theorem dX8_oneTick_151 : decode cX8_oneTick 151 = .ok (.aload_n 0, 1) := by decide +kernel
theorem dX8_oneTick_152 : decode cX8_oneTick 152 = .ok (.getfield 98, 3) := by decide +kernel
theorem dX8_oneTick_155 : decode cX8_oneTick 155 = .ok (.bipush 32, 2) := by decide +kernel
theorem dX8_oneTick_157 : decode cX8_oneTick 157 = .ok (.iload_n 2, 1) := by decide +kernel
theorem dX8_oneTick_158 : decode cX8_oneTick 158 = .ok (.imul, 1) := by decide +kernel
theorem dX8_oneTick_159 : decode cX8_oneTick 159 = .ok (.iload_n 3, 1) := by decide +kernel
theorem dX8_oneTick_160 : decode cX8_oneTick 160 = .ok (.iadd, 1) := by decide +kernel
theorem dX8_oneTick_161 : decode cX8_oneTick 161 = .ok (.iaload, 1) := by decide +kernel
theorem dX8_oneTick_162 : decode cX8_oneTick 162 = .ok (.iload_n 1, 1) := by decide +kernel
theorem dX8_oneTick_163 : decode cX8_oneTick 163 = .ok (.iconst 1, 1) := by decide +kernel
theorem dX8_oneTick_164 : decode cX8_oneTick 164 = .ok (.iadd, 1) := by decide +kernel
theorem dX8_oneTick_165 : decode cX8_oneTick 165 = .ok (.if_icmp .gt 15, 3) := by decide +kernel
theorem dX8_oneTick_168 : decode cX8_oneTick 168 = .ok (.aload_n 0, 1) := by decide +kernel
theorem dX8_oneTick_169 : decode cX8_oneTick 169 = .ok (.getfield 86, 3) := by decide +kernel
theorem dX8_oneTick_172 : decode cX8_oneTick 172 = .ok (.bipush 32, 2) := by decide +kernel
theorem dX8_oneTick_174 : decode cX8_oneTick 174 = .ok (.iload_n 2, 1) := by decide +kernel
theorem dX8_oneTick_175 : decode cX8_oneTick 175 = .ok (.imul, 1) := by decide +kernel
theorem dX8_oneTick_176 : decode cX8_oneTick 176 = .ok (.iload_n 3, 1) := by decide +kernel
theorem dX8_oneTick_177 : decode cX8_oneTick 177 = .ok (.iadd, 1) := by decide +kernel
theorem dX8_oneTick_178 : decode cX8_oneTick 178 = .ok (.iconst 0, 1) := by decide +kernel
theorem dX8_oneTick_179 : decode cX8_oneTick 179 = .ok (.bastore, 1) := by decide +kernel
theorem dX8_oneTick_180 : decode cX8_oneTick 180 = .ok (.iinc 3 1, 3) := by decide +kernel
theorem dX8_oneTick_183 : decode cX8_oneTick 183 = .ok (.goto (-40), 3) := by decide +kernel
theorem dX8_oneTick_186 : decode cX8_oneTick 186 = .ok (.iinc 2 1, 3) := by decide +kernel
theorem dX8_oneTick_189 : decode cX8_oneTick 189 = .ok (.goto (-56), 3) := by decide +kernel
theorem dX8_oneTick_192 : decode cX8_oneTick 192 = .ok (.aload_n 0, 1) := by decide +kernel
theorem dX8_oneTick_193 : decode cX8_oneTick 193 = .ok (.iload_n 1, 1) := by decide +kernel
theorem dX8_oneTick_194 : decode cX8_oneTick 194 = .ok (.iconst 1, 1) := by decide +kernel
theorem dX8_oneTick_195 : decode cX8_oneTick 195 = .ok (.iadd, 1) := by decide +kernel
theorem dX8_oneTick_196 : decode cX8_oneTick 196 = .ok (.putfield 191, 3) := by decide +kernel
theorem dX8_oneTick_199 : decode cX8_oneTick 199 = .ok (.return_, 1) := by decide +kernel
theorem dX8_writesAll_0 : decode cX8_writesAll 0 = .ok (.aload_n 0, 1) := by decide +kernel
theorem dX8_writesAll_1 : decode cX8_writesAll 1 = .ok (.aload_n 0, 1) := by decide +kernel
theorem dX8_writesAll_2 : decode cX8_writesAll 2 = .ok (.getfield 225, 3) := by decide +kernel
theorem dX8_writesAll_5 : decode cX8_writesAll 5 = .ok (.invokevirtual 215, 3) := by decide +kernel
theorem dX8_writesAll_8 : decode cX8_writesAll 8 = .ok (.aload_n 0, 1) := by decide +kernel
theorem dX8_writesAll_9 : decode cX8_writesAll 9 = .ok (.getfield 28, 3) := by decide +kernel
theorem dX8_writesAll_12 : decode cX8_writesAll 12 = .ok (.iload_n 1, 1) := by decide +kernel
theorem dX8_writesAll_13 : decode cX8_writesAll 13 = .ok (.baload, 1) := by decide +kernel
theorem dX8_writesAll_14 : decode cX8_writesAll 14 = .ok (.ifCond .eq 27, 3) := by decide +kernel
theorem dX8_writesAll_17 : decode cX8_writesAll 17 = .ok (.aload_n 0, 1) := by decide +kernel
theorem dX8_writesAll_18 : decode cX8_writesAll 18 = .ok (.iload_n 1, 1) := by decide +kernel
theorem dX8_writesAll_19 : decode cX8_writesAll 19 = .ok (.invokevirtual 250, 3) := by decide +kernel
theorem dX8_writesAll_22 : decode cX8_writesAll 22 = .ok (.aload_n 0, 1) := by decide +kernel
theorem dX8_writesAll_23 : decode cX8_writesAll 23 = .ok (.iload_n 1, 1) := by decide +kernel
theorem dX8_writesAll_24 : decode cX8_writesAll 24 = .ok (.aload_n 0, 1) := by decide +kernel
theorem dX8_writesAll_25 : decode cX8_writesAll 25 = .ok (.getfield 9, 3) := by decide +kernel
theorem dX8_writesAll_28 : decode cX8_writesAll 28 = .ok (.iload_n 1, 1) := by decide +kernel
theorem dX8_writesAll_29 : decode cX8_writesAll 29 = .ok (.iaload, 1) := by decide +kernel
theorem dX8_writesAll_30 : decode cX8_writesAll 30 = .ok (.invokevirtual 253, 3) := by decide +kernel
theorem dX8_writesAll_33 : decode cX8_writesAll 33 = .ok (.aload_n 0, 1) := by decide +kernel
theorem dX8_writesAll_34 : decode cX8_writesAll 34 = .ok (.iload_n 1, 1) := by decide +kernel
theorem dX8_writesAll_35 : decode cX8_writesAll 35 = .ok (.invokevirtual 218, 3) := by decide +kernel
theorem dX8_writesAll_38 : decode cX8_writesAll 38 = .ok (.goto 238, 3) := by decide +kernel
theorem dX8_writesAll_41 : decode cX8_writesAll 41 = .ok (.aload_n 0, 1) := by decide +kernel
theorem dX8_writesAll_42 : decode cX8_writesAll 42 = .ok (.getfield 35, 3) := by decide +kernel
theorem dX8_writesAll_45 : decode cX8_writesAll 45 = .ok (.iload_n 1, 1) := by decide +kernel
theorem dX8_writesAll_46 : decode cX8_writesAll 46 = .ok (.baload, 1) := by decide +kernel
theorem dX8_writesAll_47 : decode cX8_writesAll 47 = .ok (.ifCond .eq 54, 3) := by decide +kernel
theorem dX8_writesAll_50 : decode cX8_writesAll 50 = .ok (.aload_n 0, 1) := by decide +kernel
theorem dX8_writesAll_51 : decode cX8_writesAll 51 = .ok (.getfield 9, 3) := by decide +kernel
theorem dX8_writesAll_54 : decode cX8_writesAll 54 = .ok (.iload_n 1, 1) := by decide +kernel
theorem dX8_writesAll_55 : decode cX8_writesAll 55 = .ok (.iaload, 1) := by decide +kernel
theorem dX8_writesAll_56 : decode cX8_writesAll 56 = .ok (.aload_n 0, 1) := by decide +kernel
theorem dX8_writesAll_57 : decode cX8_writesAll 57 = .ok (.getfield 13, 3) := by decide +kernel
theorem dX8_writesAll_60 : decode cX8_writesAll 60 = .ok (.iload_n 1, 1) := by decide +kernel
theorem dX8_writesAll_61 : decode cX8_writesAll 61 = .ok (.iaload, 1) := by decide +kernel
theorem dX8_writesAll_62 : decode cX8_writesAll 62 = .ok (.if_icmp .ne 4, 3) := by decide +kernel
theorem dX8_writesAll_65 : decode cX8_writesAll 65 = .ok (.return_, 1) := by decide +kernel
theorem dX8_writesAll_66 : decode cX8_writesAll 66 = .ok (.aload_n 0, 1) := by decide +kernel
theorem dX8_writesAll_67 : decode cX8_writesAll 67 = .ok (.iload_n 1, 1) := by decide +kernel
theorem dX8_writesAll_68 : decode cX8_writesAll 68 = .ok (.iconst 0, 1) := by decide +kernel
theorem dX8_writesAll_69 : decode cX8_writesAll 69 = .ok (.aload_n 0, 1) := by decide +kernel
theorem dX8_writesAll_70 : decode cX8_writesAll 70 = .ok (.getfield 9, 3) := by decide +kernel
theorem dX8_writesAll_73 : decode cX8_writesAll 73 = .ok (.iload_n 1, 1) := by decide +kernel
theorem dX8_writesAll_74 : decode cX8_writesAll 74 = .ok (.iaload, 1) := by decide +kernel
theorem dX8_writesAll_75 : decode cX8_writesAll 75 = .ok (.invokevirtual 256, 3) := by decide +kernel
theorem dX8_writesAll_78 : decode cX8_writesAll 78 = .ok (.aload_n 0, 1) := by decide +kernel
theorem dX8_writesAll_79 : decode cX8_writesAll 79 = .ok (.aload_n 0, 1) := by decide +kernel
theorem dX8_writesAll_80 : decode cX8_writesAll 80 = .ok (.getfield 225, 3) := by decide +kernel
theorem dX8_writesAll_83 : decode cX8_writesAll 83 = .ok (.invokevirtual 215, 3) := by decide +kernel
theorem dX8_writesAll_86 : decode cX8_writesAll 86 = .ok (.aload_n 0, 1) := by decide +kernel
theorem dX8_writesAll_87 : decode cX8_writesAll 87 = .ok (.iload_n 1, 1) := by decide +kernel
theorem dX8_writesAll_88 : decode cX8_writesAll 88 = .ok (.iconst 1, 1) := by decide +kernel
theorem dX8_writesAll_89 : decode cX8_writesAll 89 = .ok (.aload_n 0, 1) := by decide +kernel
theorem dX8_writesAll_90 : decode cX8_writesAll 90 = .ok (.getfield 13, 3) := by decide +kernel
theorem dX8_writesAll_93 : decode cX8_writesAll 93 = .ok (.iload_n 1, 1) := by decide +kernel
theorem dX8_writesAll_94 : decode cX8_writesAll 94 = .ok (.iaload, 1) := by decide +kernel
theorem dX8_writesAll_95 : decode cX8_writesAll 95 = .ok (.invokevirtual 256, 3) := by decide +kernel
theorem dX8_writesAll_98 : decode cX8_writesAll 98 = .ok (.goto 178, 3) := by decide +kernel
theorem dX8_writesAll_101 : decode cX8_writesAll 101 = .ok (.aload_n 0, 1) := by decide +kernel
theorem dX8_writesAll_102 : decode cX8_writesAll 102 = .ok (.iload_n 1, 1) := by decide +kernel
theorem dX8_writesAll_103 : decode cX8_writesAll 103 = .ok (.iload_n 2, 1) := by decide +kernel
theorem dX8_writesAll_104 : decode cX8_writesAll 104 = .ok (.invokevirtual 260, 3) := by decide +kernel
theorem dX8_writesAll_107 : decode cX8_writesAll 107 = .ok (.iconst 0, 1) := by decide +kernel
theorem dX8_writesAll_108 : decode cX8_writesAll 108 = .ok (.istore_n 3, 1) := by decide +kernel
theorem dX8_writesAll_109 : decode cX8_writesAll 109 = .ok (.iload_n 3, 1) := by decide +kernel
theorem dX8_writesAll_110 : decode cX8_writesAll 110 = .ok (.aload_n 0, 1) := by decide +kernel
theorem dX8_writesAll_111 : decode cX8_writesAll 111 = .ok (.getfield 170, 3) := by decide +kernel
theorem dX8_writesAll_114 : decode cX8_writesAll 114 = .ok (.if_icmp .ge 93, 3) := by decide +kernel
theorem dX8_writesAll_117 : decode cX8_writesAll 117 = .ok (.aload_n 0, 1) := by decide +kernel
theorem dX8_writesAll_118 : decode cX8_writesAll 118 = .ok (.getfield 53, 3) := by decide +kernel
theorem dX8_writesAll_121 : decode cX8_writesAll 121 = .ok (.iload_n 3, 1) := by decide +kernel
theorem dX8_writesAll_122 : decode cX8_writesAll 122 = .ok (.iaload, 1) := by decide +kernel
theorem dX8_writesAll_123 : decode cX8_writesAll 123 = .ok (.iload_n 1, 1) := by decide +kernel
theorem dX8_writesAll_124 : decode cX8_writesAll 124 = .ok (.if_icmp .ne 77, 3) := by decide +kernel
theorem dX8_writesAll_127 : decode cX8_writesAll 127 = .ok (.aload_n 0, 1) := by decide +kernel
theorem dX8_writesAll_128 : decode cX8_writesAll 128 = .ok (.getfield 68, 3) := by decide +kernel
theorem dX8_writesAll_131 : decode cX8_writesAll 131 = .ok (.iload_n 3, 1) := by decide +kernel
theorem dX8_writesAll_132 : decode cX8_writesAll 132 = .ok (.iaload, 1) := by decide +kernel
theorem dX8_writesAll_133 : decode cX8_writesAll 133 = .ok (.iconst 1, 1) := by decide +kernel
theorem dX8_writesAll_134 : decode cX8_writesAll 134 = .ok (.if_icmp .ne 67, 3) := by decide +kernel
theorem dX8_writesAll_137 : decode cX8_writesAll 137 = .ok (.aload_n 0, 1) := by decide +kernel
theorem dX8_writesAll_138 : decode cX8_writesAll 138 = .ok (.getfield 71, 3) := by decide +kernel
theorem dX8_writesAll_141 : decode cX8_writesAll 141 = .ok (.iload_n 3, 1) := by decide +kernel
theorem dX8_writesAll_142 : decode cX8_writesAll 142 = .ok (.iaload, 1) := by decide +kernel
theorem dX8_writesAll_143 : decode cX8_writesAll 143 = .ok (.ifCond .ne 6, 3) := by decide +kernel
theorem dX8_writesAll_146 : decode cX8_writesAll 146 = .ok (.goto 55, 3) := by decide +kernel
theorem dX8_writesAll_149 : decode cX8_writesAll 149 = .ok (.aload_n 0, 1) := by decide +kernel
theorem dX8_writesAll_150 : decode cX8_writesAll 150 = .ok (.getfield 71, 3) := by decide +kernel
theorem dX8_writesAll_153 : decode cX8_writesAll 153 = .ok (.iload_n 3, 1) := by decide +kernel
theorem dX8_writesAll_154 : decode cX8_writesAll 154 = .ok (.dup2, 1) := by decide +kernel
theorem dX8_writesAll_155 : decode cX8_writesAll 155 = .ok (.iaload, 1) := by decide +kernel
theorem dX8_writesAll_156 : decode cX8_writesAll 156 = .ok (.iconst 1, 1) := by decide +kernel
theorem dX8_writesAll_157 : decode cX8_writesAll 157 = .ok (.isub, 1) := by decide +kernel
theorem dX8_writesAll_158 : decode cX8_writesAll 158 = .ok (.iastore, 1) := by decide +kernel
theorem dX8_writesAll_159 : decode cX8_writesAll 159 = .ok (.aload_n 0, 1) := by decide +kernel
theorem dX8_writesAll_160 : decode cX8_writesAll 160 = .ok (.getfield 131, 3) := by decide +kernel
theorem dX8_writesAll_163 : decode cX8_writesAll 163 = .ok (.bipush 32, 2) := by decide +kernel
theorem dX8_writesAll_165 : decode cX8_writesAll 165 = .ok (.aload_n 0, 1) := by decide +kernel
theorem dX8_writesAll_166 : decode cX8_writesAll 166 = .ok (.getfield 225, 3) := by decide +kernel
theorem dX8_writesAll_169 : decode cX8_writesAll 169 = .ok (.imul, 1) := by decide +kernel
theorem dX8_writesAll_170 : decode cX8_writesAll 170 = .ok (.iload_n 3, 1) := by decide +kernel
theorem dX8_writesAll_171 : decode cX8_writesAll 171 = .ok (.iadd, 1) := by decide +kernel
theorem dX8_writesAll_172 : decode cX8_writesAll 172 = .ok (.aload_n 0, 1) := by decide +kernel
theorem dX8_writesAll_173 : decode cX8_writesAll 173 = .ok (.getfield 59, 3) := by decide +kernel
theorem dX8_writesAll_176 : decode cX8_writesAll 176 = .ok (.iload_n 3, 1) := by decide +kernel
theorem dX8_writesAll_177 : decode cX8_writesAll 177 = .ok (.iaload, 1) := by decide +kernel
theorem dX8_writesAll_178 : decode cX8_writesAll 178 = .ok (.iastore, 1) := by decide +kernel
theorem dX8_writesAll_179 : decode cX8_writesAll 179 = .ok (.aload_n 0, 1) := by decide +kernel
theorem dX8_writesAll_180 : decode cX8_writesAll 180 = .ok (.getfield 134, 3) := by decide +kernel
theorem dX8_writesAll_183 : decode cX8_writesAll 183 = .ok (.bipush 32, 2) := by decide +kernel
theorem dX8_writesAll_185 : decode cX8_writesAll 185 = .ok (.aload_n 0, 1) := by decide +kernel
theorem dX8_writesAll_186 : decode cX8_writesAll 186 = .ok (.getfield 225, 3) := by decide +kernel
theorem dX8_writesAll_189 : decode cX8_writesAll 189 = .ok (.imul, 1) := by decide +kernel
theorem dX8_writesAll_190 : decode cX8_writesAll 190 = .ok (.iload_n 3, 1) := by decide +kernel
theorem dX8_writesAll_191 : decode cX8_writesAll 191 = .ok (.iadd, 1) := by decide +kernel
theorem dX8_writesAll_192 : decode cX8_writesAll 192 = .ok (.iconst 1, 1) := by decide +kernel
theorem dX8_writesAll_193 : decode cX8_writesAll 193 = .ok (.aload_n 0, 1) := by decide +kernel
theorem dX8_writesAll_194 : decode cX8_writesAll 194 = .ok (.getfield 9, 3) := by decide +kernel
theorem dX8_writesAll_197 : decode cX8_writesAll 197 = .ok (.iload_n 1, 1) := by decide +kernel
theorem dX8_writesAll_198 : decode cX8_writesAll 198 = .ok (.iaload, 1) := by decide +kernel
theorem dX8_writesAll_199 : decode cX8_writesAll 199 = .ok (.ishl, 1) := by decide +kernel
theorem dX8_writesAll_200 : decode cX8_writesAll 200 = .ok (.iastore, 1) := by decide +kernel
theorem dX8_writesAll_201 : decode cX8_writesAll 201 = .ok (.iinc 3 1, 3) := by decide +kernel
theorem dX8_writesAll_204 : decode cX8_writesAll 204 = .ok (.goto (-95), 3) := by decide +kernel
theorem dX8_writesAll_207 : decode cX8_writesAll 207 = .ok (.aload_n 0, 1) := by decide +kernel
theorem dX8_writesAll_208 : decode cX8_writesAll 208 = .ok (.iload_n 1, 1) := by decide +kernel
theorem dX8_writesAll_209 : decode cX8_writesAll 209 = .ok (.invokevirtual 250, 3) := by decide +kernel
theorem dX8_writesAll_212 : decode cX8_writesAll 212 = .ok (.aload_n 0, 1) := by decide +kernel
theorem dX8_writesAll_213 : decode cX8_writesAll 213 = .ok (.iload_n 1, 1) := by decide +kernel
theorem dX8_writesAll_214 : decode cX8_writesAll 214 = .ok (.iload_n 2, 1) := by decide +kernel
theorem dX8_writesAll_215 : decode cX8_writesAll 215 = .ok (.invokevirtual 263, 3) := by decide +kernel
theorem dX8_writesAll_218 : decode cX8_writesAll 218 = .ok (.iconst 0, 1) := by decide +kernel
theorem dX8_writesAll_219 : decode cX8_writesAll 219 = .ok (.istore_n 3, 1) := by decide +kernel
theorem dX8_writesAll_220 : decode cX8_writesAll 220 = .ok (.iload_n 3, 1) := by decide +kernel
theorem dX8_writesAll_221 : decode cX8_writesAll 221 = .ok (.aload_n 0, 1) := by decide +kernel
theorem dX8_writesAll_222 : decode cX8_writesAll 222 = .ok (.getfield 170, 3) := by decide +kernel
theorem dX8_writesAll_225 : decode cX8_writesAll 225 = .ok (.if_icmp .ge 40, 3) := by decide +kernel
theorem dX8_writesAll_228 : decode cX8_writesAll 228 = .ok (.aload_n 0, 1) := by decide +kernel
theorem dX8_writesAll_229 : decode cX8_writesAll 229 = .ok (.getfield 101, 3) := by decide +kernel
theorem dX8_writesAll_232 : decode cX8_writesAll 232 = .ok (.bipush 32, 2) := by decide +kernel
theorem dX8_writesAll_234 : decode cX8_writesAll 234 = .ok (.iload_n 1, 1) := by decide +kernel
theorem dX8_writesAll_235 : decode cX8_writesAll 235 = .ok (.imul, 1) := by decide +kernel
theorem dX8_writesAll_236 : decode cX8_writesAll 236 = .ok (.iload_n 3, 1) := by decide +kernel
theorem dX8_writesAll_237 : decode cX8_writesAll 237 = .ok (.iadd, 1) := by decide +kernel
theorem dX8_writesAll_238 : decode cX8_writesAll 238 = .ok (.iaload, 1) := by decide +kernel
theorem dX8_writesAll_239 : decode cX8_writesAll 239 = .ok (.iconst 0, 1) := by decide +kernel
theorem dX8_writesAll_240 : decode cX8_writesAll 240 = .ok (.iload_n 2, 1) := by decide +kernel
theorem dX8_writesAll_241 : decode cX8_writesAll 241 = .ok (.invokestatic 159, 3) := by decide +kernel
theorem dX8_writesAll_244 : decode cX8_writesAll 244 = .ok (.ifCond .eq 15, 3) := by decide +kernel
theorem dX8_writesAll_247 : decode cX8_writesAll 247 = .ok (.aload_n 0, 1) := by decide +kernel
theorem dX8_writesAll_248 : decode cX8_writesAll 248 = .ok (.getfield 101, 3) := by decide +kernel
theorem dX8_writesAll_251 : decode cX8_writesAll 251 = .ok (.bipush 32, 2) := by decide +kernel
theorem dX8_writesAll_253 : decode cX8_writesAll 253 = .ok (.iload_n 1, 1) := by decide +kernel
theorem dX8_writesAll_254 : decode cX8_writesAll 254 = .ok (.imul, 1) := by decide +kernel
theorem dX8_writesAll_255 : decode cX8_writesAll 255 = .ok (.iload_n 3, 1) := by decide +kernel
theorem dX8_writesAll_256 : decode cX8_writesAll 256 = .ok (.iadd, 1) := by decide +kernel
theorem dX8_writesAll_257 : decode cX8_writesAll 257 = .ok (.iconst (-1), 1) := by decide +kernel
theorem dX8_writesAll_258 : decode cX8_writesAll 258 = .ok (.iastore, 1) := by decide +kernel
theorem dX8_writesAll_259 : decode cX8_writesAll 259 = .ok (.iinc 3 1, 3) := by decide +kernel
theorem dX8_writesAll_262 : decode cX8_writesAll 262 = .ok (.goto (-42), 3) := by decide +kernel
theorem dX8_writesAll_265 : decode cX8_writesAll 265 = .ok (.aload_n 0, 1) := by decide +kernel
theorem dX8_writesAll_266 : decode cX8_writesAll 266 = .ok (.iload_n 1, 1) := by decide +kernel
theorem dX8_writesAll_267 : decode cX8_writesAll 267 = .ok (.aload_n 0, 1) := by decide +kernel
theorem dX8_writesAll_268 : decode cX8_writesAll 268 = .ok (.getfield 9, 3) := by decide +kernel
theorem dX8_writesAll_271 : decode cX8_writesAll 271 = .ok (.iload_n 1, 1) := by decide +kernel
theorem dX8_writesAll_272 : decode cX8_writesAll 272 = .ok (.iaload, 1) := by decide +kernel
theorem dX8_writesAll_273 : decode cX8_writesAll 273 = .ok (.invokevirtual 253, 3) := by decide +kernel
theorem dX8_writesAll_276 : decode cX8_writesAll 276 = .ok (.return_, 1) := by decide +kernel
theorem dX8_asks_0 : decode cX8_asks 0 = .ok (.iconst 0, 1) := by decide +kernel
theorem dX8_asks_1 : decode cX8_asks 1 = .ok (.istore_n 3, 1) := by decide +kernel
theorem dX8_asks_2 : decode cX8_asks 2 = .ok (.iload_n 3, 1) := by decide +kernel
theorem dX8_asks_3 : decode cX8_asks 3 = .ok (.bipush 16, 2) := by decide +kernel
theorem dX8_asks_5 : decode cX8_asks 5 = .ok (.if_icmp .ge 119, 3) := by decide +kernel
theorem dX8_asks_8 : decode cX8_asks 8 = .ok (.aload_n 0, 1) := by decide +kernel
theorem dX8_asks_9 : decode cX8_asks 9 = .ok (.getfield 104, 3) := by decide +kernel
theorem dX8_asks_12 : decode cX8_asks 12 = .ok (.bipush 16, 2) := by decide +kernel
theorem dX8_asks_14 : decode cX8_asks 14 = .ok (.iload_n 1, 1) := by decide +kernel
theorem dX8_asks_15 : decode cX8_asks 15 = .ok (.imul, 1) := by decide +kernel
theorem dX8_asks_16 : decode cX8_asks 16 = .ok (.iload_n 3, 1) := by decide +kernel
theorem dX8_asks_17 : decode cX8_asks 17 = .ok (.iadd, 1) := by decide +kernel
theorem dX8_asks_18 : decode cX8_asks 18 = .ok (.baload, 1) := by decide +kernel
theorem dX8_asks_19 : decode cX8_asks 19 = .ok (.ifCond .eq 99, 3) := by decide +kernel
theorem dX8_asks_22 : decode cX8_asks 22 = .ok (.aload_n 0, 1) := by decide +kernel
theorem dX8_asks_23 : decode cX8_asks 23 = .ok (.getfield 110, 3) := by decide +kernel
theorem dX8_asks_26 : decode cX8_asks 26 = .ok (.bipush 16, 2) := by decide +kernel
theorem dX8_asks_28 : decode cX8_asks 28 = .ok (.iload_n 1, 1) := by decide +kernel
theorem dX8_asks_29 : decode cX8_asks 29 = .ok (.imul, 1) := by decide +kernel
theorem dX8_asks_30 : decode cX8_asks 30 = .ok (.iload_n 3, 1) := by decide +kernel
theorem dX8_asks_31 : decode cX8_asks 31 = .ok (.iadd, 1) := by decide +kernel
theorem dX8_asks_32 : decode cX8_asks 32 = .ok (.iaload, 1) := by decide +kernel
theorem dX8_asks_33 : decode cX8_asks 33 = .ok (.iload_n 2, 1) := by decide +kernel
theorem dX8_asks_34 : decode cX8_asks 34 = .ok (.if_icmp .le 6, 3) := by decide +kernel
theorem dX8_asks_37 : decode cX8_asks 37 = .ok (.goto 81, 3) := by decide +kernel
theorem dX8_asks_40 : decode cX8_asks 40 = .ok (.aload_n 0, 1) := by decide +kernel
theorem dX8_asks_41 : decode cX8_asks 41 = .ok (.getfield 104, 3) := by decide +kernel
theorem dX8_asks_44 : decode cX8_asks 44 = .ok (.bipush 16, 2) := by decide +kernel
theorem dX8_asks_46 : decode cX8_asks 46 = .ok (.iload_n 1, 1) := by decide +kernel
theorem dX8_asks_47 : decode cX8_asks 47 = .ok (.imul, 1) := by decide +kernel
theorem dX8_asks_48 : decode cX8_asks 48 = .ok (.iload_n 3, 1) := by decide +kernel
theorem dX8_asks_49 : decode cX8_asks 49 = .ok (.iadd, 1) := by decide +kernel
theorem dX8_asks_50 : decode cX8_asks 50 = .ok (.iconst 0, 1) := by decide +kernel
theorem dX8_asks_51 : decode cX8_asks 51 = .ok (.bastore, 1) := by decide +kernel
theorem dX8_asks_52 : decode cX8_asks 52 = .ok (.bipush 16, 2) := by decide +kernel
theorem dX8_asks_54 : decode cX8_asks 54 = .ok (.aload_n 0, 1) := by decide +kernel
theorem dX8_asks_55 : decode cX8_asks 55 = .ok (.getfield 225, 3) := by decide +kernel
theorem dX8_asks_58 : decode cX8_asks 58 = .ok (.imul, 1) := by decide +kernel
theorem dX8_asks_59 : decode cX8_asks 59 = .ok (.iload_n 3, 1) := by decide +kernel
theorem dX8_asks_60 : decode cX8_asks 60 = .ok (.iadd, 1) := by decide +kernel
theorem dX8_asks_61 : decode cX8_asks 61 = .ok (.istore 4, 2) := by decide +kernel
theorem dX8_asks_63 : decode cX8_asks 63 = .ok (.aload_n 0, 1) := by decide +kernel
theorem dX8_asks_64 : decode cX8_asks 64 = .ok (.getfield 119, 3) := by decide +kernel
theorem dX8_asks_67 : decode cX8_asks 67 = .ok (.iload 4, 2) := by decide +kernel
theorem dX8_asks_69 : decode cX8_asks 69 = .ok (.iconst 1, 1) := by decide +kernel
theorem dX8_asks_70 : decode cX8_asks 70 = .ok (.bastore, 1) := by decide +kernel
theorem dX8_asks_71 : decode cX8_asks 71 = .ok (.aload_n 0, 1) := by decide +kernel
theorem dX8_asks_72 : decode cX8_asks 72 = .ok (.getfield 122, 3) := by decide +kernel
theorem dX8_asks_75 : decode cX8_asks 75 = .ok (.iload 4, 2) := by decide +kernel
theorem dX8_asks_77 : decode cX8_asks 77 = .ok (.aload_n 0, 1) := by decide +kernel
theorem dX8_asks_78 : decode cX8_asks 78 = .ok (.getfield 107, 3) := by decide +kernel
theorem dX8_asks_81 : decode cX8_asks 81 = .ok (.bipush 16, 2) := by decide +kernel
theorem dX8_asks_83 : decode cX8_asks 83 = .ok (.iload_n 1, 1) := by decide +kernel
theorem dX8_asks_84 : decode cX8_asks 84 = .ok (.imul, 1) := by decide +kernel
theorem dX8_asks_85 : decode cX8_asks 85 = .ok (.iload_n 3, 1) := by decide +kernel
theorem dX8_asks_86 : decode cX8_asks 86 = .ok (.iadd, 1) := by decide +kernel
theorem dX8_asks_87 : decode cX8_asks 87 = .ok (.iaload, 1) := by decide +kernel
theorem dX8_asks_88 : decode cX8_asks 88 = .ok (.iastore, 1) := by decide +kernel
theorem dX8_asks_89 : decode cX8_asks 89 = .ok (.aload_n 0, 1) := by decide +kernel
theorem dX8_asks_90 : decode cX8_asks 90 = .ok (.getfield 125, 3) := by decide +kernel
theorem dX8_asks_93 : decode cX8_asks 93 = .ok (.iload 4, 2) := by decide +kernel
theorem dX8_asks_95 : decode cX8_asks 95 = .ok (.aload_n 0, 1) := by decide +kernel
theorem dX8_asks_96 : decode cX8_asks 96 = .ok (.iload_n 1, 1) := by decide +kernel
theorem dX8_asks_97 : decode cX8_asks 97 = .ok (.iload_n 3, 1) := by decide +kernel
theorem dX8_asks_98 : decode cX8_asks 98 = .ok (.iload_n 2, 1) := by decide +kernel
theorem dX8_asks_99 : decode cX8_asks 99 = .ok (.invokevirtual 266, 3) := by decide +kernel
theorem dX8_asks_102 : decode cX8_asks 102 = .ok (.iastore, 1) := by decide +kernel
theorem dX8_asks_103 : decode cX8_asks 103 = .ok (.aload_n 0, 1) := by decide +kernel
theorem dX8_asks_104 : decode cX8_asks 104 = .ok (.getfield 128, 3) := by decide +kernel
theorem dX8_asks_107 : decode cX8_asks 107 = .ok (.iload 4, 2) := by decide +kernel
theorem dX8_asks_109 : decode cX8_asks 109 = .ok (.iconst 1, 1) := by decide +kernel
theorem dX8_asks_110 : decode cX8_asks 110 = .ok (.aload_n 0, 1) := by decide +kernel
theorem dX8_asks_111 : decode cX8_asks 111 = .ok (.getfield 9, 3) := by decide +kernel
theorem dX8_asks_114 : decode cX8_asks 114 = .ok (.iload_n 1, 1) := by decide +kernel
theorem dX8_asks_115 : decode cX8_asks 115 = .ok (.iaload, 1) := by decide +kernel
theorem dX8_asks_116 : decode cX8_asks 116 = .ok (.ishl, 1) := by decide +kernel
theorem dX8_asks_117 : decode cX8_asks 117 = .ok (.iastore, 1) := by decide +kernel
theorem dX8_asks_118 : decode cX8_asks 118 = .ok (.iinc 3 1, 3) := by decide +kernel
theorem dX8_asks_121 : decode cX8_asks 121 = .ok (.goto (-119), 3) := by decide +kernel
theorem dX8_asks_124 : decode cX8_asks 124 = .ok (.return_, 1) := by decide +kernel
theorem dX8_byes_0 : decode cX8_byes 0 = .ok (.iconst 0, 1) := by decide +kernel
theorem dX8_byes_1 : decode cX8_byes 1 = .ok (.istore_n 2, 1) := by decide +kernel
theorem dX8_byes_2 : decode cX8_byes 2 = .ok (.iload_n 2, 1) := by decide +kernel
theorem dX8_byes_3 : decode cX8_byes 3 = .ok (.aload_n 0, 1) := by decide +kernel
theorem dX8_byes_4 : decode cX8_byes 4 = .ok (.getfield 170, 3) := by decide +kernel
theorem dX8_byes_7 : decode cX8_byes 7 = .ok (.if_icmp .ge 75, 3) := by decide +kernel
theorem dX8_byes_10 : decode cX8_byes 10 = .ok (.aload_n 0, 1) := by decide +kernel
theorem dX8_byes_11 : decode cX8_byes 11 = .ok (.getfield 53, 3) := by decide +kernel
theorem dX8_byes_14 : decode cX8_byes 14 = .ok (.iload_n 2, 1) := by decide +kernel
theorem dX8_byes_15 : decode cX8_byes 15 = .ok (.iaload, 1) := by decide +kernel
theorem dX8_byes_16 : decode cX8_byes 16 = .ok (.iload_n 1, 1) := by decide +kernel
theorem dX8_byes_17 : decode cX8_byes 17 = .ok (.if_icmp .ne 59, 3) := by decide +kernel
theorem dX8_byes_20 : decode cX8_byes 20 = .ok (.aload_n 0, 1) := by decide +kernel
theorem dX8_byes_21 : decode cX8_byes 21 = .ok (.getfield 80, 3) := by decide +kernel
theorem dX8_byes_24 : decode cX8_byes 24 = .ok (.iload_n 2, 1) := by decide +kernel
theorem dX8_byes_25 : decode cX8_byes 25 = .ok (.baload, 1) := by decide +kernel
theorem dX8_byes_26 : decode cX8_byes 26 = .ok (.ifCond .ne 6, 3) := by decide +kernel
theorem dX8_byes_29 : decode cX8_byes 29 = .ok (.goto 47, 3) := by decide +kernel
theorem dX8_byes_32 : decode cX8_byes 32 = .ok (.aload_n 0, 1) := by decide +kernel
theorem dX8_byes_33 : decode cX8_byes 33 = .ok (.getfield 80, 3) := by decide +kernel
theorem dX8_byes_36 : decode cX8_byes 36 = .ok (.iload_n 2, 1) := by decide +kernel
theorem dX8_byes_37 : decode cX8_byes 37 = .ok (.iconst 0, 1) := by decide +kernel
theorem dX8_byes_38 : decode cX8_byes 38 = .ok (.bastore, 1) := by decide +kernel
theorem dX8_byes_39 : decode cX8_byes 39 = .ok (.aload_n 0, 1) := by decide +kernel
theorem dX8_byes_40 : decode cX8_byes 40 = .ok (.getfield 137, 3) := by decide +kernel
theorem dX8_byes_43 : decode cX8_byes 43 = .ok (.bipush 32, 2) := by decide +kernel
theorem dX8_byes_45 : decode cX8_byes 45 = .ok (.aload_n 0, 1) := by decide +kernel
theorem dX8_byes_46 : decode cX8_byes 46 = .ok (.getfield 225, 3) := by decide +kernel
theorem dX8_byes_49 : decode cX8_byes 49 = .ok (.imul, 1) := by decide +kernel
theorem dX8_byes_50 : decode cX8_byes 50 = .ok (.iload_n 2, 1) := by decide +kernel
theorem dX8_byes_51 : decode cX8_byes 51 = .ok (.iadd, 1) := by decide +kernel
theorem dX8_byes_52 : decode cX8_byes 52 = .ok (.iconst 1, 1) := by decide +kernel
theorem dX8_byes_53 : decode cX8_byes 53 = .ok (.bastore, 1) := by decide +kernel
theorem dX8_byes_54 : decode cX8_byes 54 = .ok (.aload_n 0, 1) := by decide +kernel
theorem dX8_byes_55 : decode cX8_byes 55 = .ok (.getfield 140, 3) := by decide +kernel
theorem dX8_byes_58 : decode cX8_byes 58 = .ok (.bipush 32, 2) := by decide +kernel
theorem dX8_byes_60 : decode cX8_byes 60 = .ok (.aload_n 0, 1) := by decide +kernel
theorem dX8_byes_61 : decode cX8_byes 61 = .ok (.getfield 225, 3) := by decide +kernel
theorem dX8_byes_64 : decode cX8_byes 64 = .ok (.imul, 1) := by decide +kernel
theorem dX8_byes_65 : decode cX8_byes 65 = .ok (.iload_n 2, 1) := by decide +kernel
theorem dX8_byes_66 : decode cX8_byes 66 = .ok (.iadd, 1) := by decide +kernel
theorem dX8_byes_67 : decode cX8_byes 67 = .ok (.iconst 1, 1) := by decide +kernel
theorem dX8_byes_68 : decode cX8_byes 68 = .ok (.aload_n 0, 1) := by decide +kernel
theorem dX8_byes_69 : decode cX8_byes 69 = .ok (.getfield 9, 3) := by decide +kernel
theorem dX8_byes_72 : decode cX8_byes 72 = .ok (.iload_n 1, 1) := by decide +kernel
theorem dX8_byes_73 : decode cX8_byes 73 = .ok (.iaload, 1) := by decide +kernel
theorem dX8_byes_74 : decode cX8_byes 74 = .ok (.ishl, 1) := by decide +kernel
theorem dX8_byes_75 : decode cX8_byes 75 = .ok (.iastore, 1) := by decide +kernel
theorem dX8_byes_76 : decode cX8_byes 76 = .ok (.iinc 2 1, 3) := by decide +kernel
theorem dX8_byes_79 : decode cX8_byes 79 = .ok (.goto (-77), 3) := by decide +kernel
theorem dX8_byes_82 : decode cX8_byes 82 = .ok (.return_, 1) := by decide +kernel
theorem dX8_tells_0 : decode cX8_tells 0 = .ok (.iconst 0, 1) := by decide +kernel
theorem dX8_tells_1 : decode cX8_tells 1 = .ok (.istore_n 3, 1) := by decide +kernel
theorem dX8_tells_2 : decode cX8_tells 2 = .ok (.iload_n 3, 1) := by decide +kernel
theorem dX8_tells_3 : decode cX8_tells 3 = .ok (.aload_n 0, 1) := by decide +kernel
theorem dX8_tells_4 : decode cX8_tells 4 = .ok (.getfield 170, 3) := by decide +kernel
theorem dX8_tells_7 : decode cX8_tells 7 = .ok (.if_icmp .ge 250, 3) := by decide +kernel
theorem dX8_tells_10 : decode cX8_tells 10 = .ok (.bipush 32, 2) := by decide +kernel
theorem dX8_tells_12 : decode cX8_tells 12 = .ok (.iload_n 1, 1) := by decide +kernel
theorem dX8_tells_13 : decode cX8_tells 13 = .ok (.imul, 1) := by decide +kernel
theorem dX8_tells_14 : decode cX8_tells 14 = .ok (.iload_n 3, 1) := by decide +kernel
theorem dX8_tells_15 : decode cX8_tells 15 = .ok (.iadd, 1) := by decide +kernel
theorem dX8_tells_16 : decode cX8_tells 16 = .ok (.istore 4, 2) := by decide +kernel
theorem dX8_tells_18 : decode cX8_tells 18 = .ok (.aload_n 0, 1) := by decide +kernel
theorem dX8_tells_19 : decode cX8_tells 19 = .ok (.getfield 101, 3) := by decide +kernel
theorem dX8_tells_22 : decode cX8_tells 22 = .ok (.iload 4, 2) := by decide +kernel
theorem dX8_tells_24 : decode cX8_tells 24 = .ok (.iaload, 1) := by decide +kernel
theorem dX8_tells_25 : decode cX8_tells 25 = .ok (.iconst 0, 1) := by decide +kernel
theorem dX8_tells_26 : decode cX8_tells 26 = .ok (.iload_n 2, 1) := by decide +kernel
theorem dX8_tells_27 : decode cX8_tells 27 = .ok (.invokestatic 159, 3) := by decide +kernel
theorem dX8_tells_30 : decode cX8_tells 30 = .ok (.istore 5, 2) := by decide +kernel
theorem dX8_tells_32 : decode cX8_tells 32 = .ok (.bipush 32, 2) := by decide +kernel
theorem dX8_tells_34 : decode cX8_tells 34 = .ok (.aload_n 0, 1) := by decide +kernel
theorem dX8_tells_35 : decode cX8_tells 35 = .ok (.getfield 225, 3) := by decide +kernel
theorem dX8_tells_38 : decode cX8_tells 38 = .ok (.imul, 1) := by decide +kernel
theorem dX8_tells_39 : decode cX8_tells 39 = .ok (.iload_n 3, 1) := by decide +kernel
theorem dX8_tells_40 : decode cX8_tells 40 = .ok (.iadd, 1) := by decide +kernel
theorem dX8_tells_41 : decode cX8_tells 41 = .ok (.istore 6, 2) := by decide +kernel
theorem dX8_tells_43 : decode cX8_tells 43 = .ok (.aload_n 0, 1) := by decide +kernel
theorem dX8_tells_44 : decode cX8_tells 44 = .ok (.iload_n 1, 1) := by decide +kernel
theorem dX8_tells_45 : decode cX8_tells 45 = .ok (.iload_n 3, 1) := by decide +kernel
theorem dX8_tells_46 : decode cX8_tells 46 = .ok (.invokevirtual 270, 3) := by decide +kernel
theorem dX8_tells_49 : decode cX8_tells 49 = .ok (.ifCond .eq 104, 3) := by decide +kernel
theorem dX8_tells_52 : decode cX8_tells 52 = .ok (.aload_n 0, 1) := by decide +kernel
theorem dX8_tells_53 : decode cX8_tells 53 = .ok (.getfield 68, 3) := by decide +kernel
theorem dX8_tells_56 : decode cX8_tells 56 = .ok (.iload_n 3, 1) := by decide +kernel
theorem dX8_tells_57 : decode cX8_tells 57 = .ok (.iaload, 1) := by decide +kernel
theorem dX8_tells_58 : decode cX8_tells 58 = .ok (.iconst 2, 1) := by decide +kernel
theorem dX8_tells_59 : decode cX8_tells 59 = .ok (.if_icmp .ne 192, 3) := by decide +kernel
theorem dX8_tells_62 : decode cX8_tells 62 = .ok (.aload_n 0, 1) := by decide +kernel
theorem dX8_tells_63 : decode cX8_tells 63 = .ok (.getfield 74, 3) := by decide +kernel
theorem dX8_tells_66 : decode cX8_tells 66 = .ok (.iload_n 3, 1) := by decide +kernel
theorem dX8_tells_67 : decode cX8_tells 67 = .ok (.iaload, 1) := by decide +kernel
theorem dX8_tells_68 : decode cX8_tells 68 = .ok (.iload_n 2, 1) := by decide +kernel
theorem dX8_tells_69 : decode cX8_tells 69 = .ok (.if_icmp .le 11, 3) := by decide +kernel
theorem dX8_tells_72 : decode cX8_tells 72 = .ok (.iload 5, 2) := by decide +kernel
theorem dX8_tells_74 : decode cX8_tells 74 = .ok (.ifCond .ne 6, 3) := by decide +kernel
theorem dX8_tells_77 : decode cX8_tells 77 = .ok (.goto 174, 3) := by decide +kernel
theorem dX8_tells_80 : decode cX8_tells 80 = .ok (.aload_n 0, 1) := by decide +kernel
theorem dX8_tells_81 : decode cX8_tells 81 = .ok (.getfield 74, 3) := by decide +kernel
theorem dX8_tells_84 : decode cX8_tells 84 = .ok (.iload_n 3, 1) := by decide +kernel
theorem dX8_tells_85 : decode cX8_tells 85 = .ok (.iload_n 2, 1) := by decide +kernel
theorem dX8_tells_86 : decode cX8_tells 86 = .ok (.aload_n 0, 1) := by decide +kernel
theorem dX8_tells_87 : decode cX8_tells 87 = .ok (.getfield 65, 3) := by decide +kernel
theorem dX8_tells_90 : decode cX8_tells 90 = .ok (.iload_n 3, 1) := by decide +kernel
theorem dX8_tells_91 : decode cX8_tells 91 = .ok (.iaload, 1) := by decide +kernel
theorem dX8_tells_92 : decode cX8_tells 92 = .ok (.iconst 2, 1) := by decide +kernel
theorem dX8_tells_93 : decode cX8_tells 93 = .ok (.idiv, 1) := by decide +kernel
theorem dX8_tells_94 : decode cX8_tells 94 = .ok (.iadd, 1) := by decide +kernel
theorem dX8_tells_95 : decode cX8_tells 95 = .ok (.iastore, 1) := by decide +kernel
theorem dX8_tells_96 : decode cX8_tells 96 = .ok (.aload_n 0, 1) := by decide +kernel
theorem dX8_tells_97 : decode cX8_tells 97 = .ok (.getfield 143, 3) := by decide +kernel
theorem dX8_tells_100 : decode cX8_tells 100 = .ok (.iload 6, 2) := by decide +kernel
theorem dX8_tells_102 : decode cX8_tells 102 = .ok (.aload_n 0, 1) := by decide +kernel
theorem dX8_tells_103 : decode cX8_tells 103 = .ok (.getfield 59, 3) := by decide +kernel
theorem dX8_tells_106 : decode cX8_tells 106 = .ok (.iload_n 3, 1) := by decide +kernel
theorem dX8_tells_107 : decode cX8_tells 107 = .ok (.iaload, 1) := by decide +kernel
theorem dX8_tells_108 : decode cX8_tells 108 = .ok (.iastore, 1) := by decide +kernel
theorem dX8_tells_109 : decode cX8_tells 109 = .ok (.aload_n 0, 1) := by decide +kernel
theorem dX8_tells_110 : decode cX8_tells 110 = .ok (.getfield 146, 3) := by decide +kernel
theorem dX8_tells_113 : decode cX8_tells 113 = .ok (.iload 6, 2) := by decide +kernel
theorem dX8_tells_115 : decode cX8_tells 115 = .ok (.aload_n 0, 1) := by decide +kernel
theorem dX8_tells_116 : decode cX8_tells 116 = .ok (.getfield 62, 3) := by decide +kernel
theorem dX8_tells_119 : decode cX8_tells 119 = .ok (.iload_n 3, 1) := by decide +kernel
theorem dX8_tells_120 : decode cX8_tells 120 = .ok (.iaload, 1) := by decide +kernel
theorem dX8_tells_121 : decode cX8_tells 121 = .ok (.iastore, 1) := by decide +kernel
theorem dX8_tells_122 : decode cX8_tells 122 = .ok (.aload_n 0, 1) := by decide +kernel
theorem dX8_tells_123 : decode cX8_tells 123 = .ok (.getfield 149, 3) := by decide +kernel
theorem dX8_tells_126 : decode cX8_tells 126 = .ok (.iload 6, 2) := by decide +kernel
theorem dX8_tells_128 : decode cX8_tells 128 = .ok (.aload_n 0, 1) := by decide +kernel
theorem dX8_tells_129 : decode cX8_tells 129 = .ok (.getfield 65, 3) := by decide +kernel
theorem dX8_tells_132 : decode cX8_tells 132 = .ok (.iload_n 3, 1) := by decide +kernel
theorem dX8_tells_133 : decode cX8_tells 133 = .ok (.iaload, 1) := by decide +kernel
theorem dX8_tells_134 : decode cX8_tells 134 = .ok (.iastore, 1) := by decide +kernel
theorem dX8_tells_135 : decode cX8_tells 135 = .ok (.aload_n 0, 1) := by decide +kernel
theorem dX8_tells_136 : decode cX8_tells 136 = .ok (.getfield 152, 3) := by decide +kernel
theorem dX8_tells_139 : decode cX8_tells 139 = .ok (.iload 6, 2) := by decide +kernel
theorem dX8_tells_141 : decode cX8_tells 141 = .ok (.iconst 1, 1) := by decide +kernel
theorem dX8_tells_142 : decode cX8_tells 142 = .ok (.aload_n 0, 1) := by decide +kernel
theorem dX8_tells_143 : decode cX8_tells 143 = .ok (.getfield 9, 3) := by decide +kernel
theorem dX8_tells_146 : decode cX8_tells 146 = .ok (.iload_n 1, 1) := by decide +kernel
theorem dX8_tells_147 : decode cX8_tells 147 = .ok (.iaload, 1) := by decide +kernel
theorem dX8_tells_148 : decode cX8_tells 148 = .ok (.ishl, 1) := by decide +kernel
theorem dX8_tells_149 : decode cX8_tells 149 = .ok (.iastore, 1) := by decide +kernel
theorem dX8_tells_150 : decode cX8_tells 150 = .ok (.goto 101, 3) := by decide +kernel
theorem dX8_tells_153 : decode cX8_tells 153 = .ok (.aload_n 0, 1) := by decide +kernel
theorem dX8_tells_154 : decode cX8_tells 154 = .ok (.getfield 32, 3) := by decide +kernel
theorem dX8_tells_157 : decode cX8_tells 157 = .ok (.iload_n 1, 1) := by decide +kernel
theorem dX8_tells_158 : decode cX8_tells 158 = .ok (.baload, 1) := by decide +kernel
theorem dX8_tells_159 : decode cX8_tells 159 = .ok (.ifCond .eq 92, 3) := by decide +kernel
theorem dX8_tells_162 : decode cX8_tells 162 = .ok (.aload_n 0, 1) := by decide +kernel
theorem dX8_tells_163 : decode cX8_tells 163 = .ok (.getfield 86, 3) := by decide +kernel
theorem dX8_tells_166 : decode cX8_tells 166 = .ok (.iload 4, 2) := by decide +kernel
theorem dX8_tells_168 : decode cX8_tells 168 = .ok (.baload, 1) := by decide +kernel
theorem dX8_tells_169 : decode cX8_tells 169 = .ok (.ifCond .eq 82, 3) := by decide +kernel
theorem dX8_tells_172 : decode cX8_tells 172 = .ok (.iload 5, 2) := by decide +kernel
theorem dX8_tells_174 : decode cX8_tells 174 = .ok (.ifCond .eq 77, 3) := by decide +kernel
theorem dX8_tells_177 : decode cX8_tells 177 = .ok (.aload_n 0, 1) := by decide +kernel
theorem dX8_tells_178 : decode cX8_tells 178 = .ok (.getfield 98, 3) := by decide +kernel
theorem dX8_tells_181 : decode cX8_tells 181 = .ok (.iload 4, 2) := by decide +kernel
theorem dX8_tells_183 : decode cX8_tells 183 = .ok (.iaload, 1) := by decide +kernel
theorem dX8_tells_184 : decode cX8_tells 184 = .ok (.iload_n 2, 1) := by decide +kernel
theorem dX8_tells_185 : decode cX8_tells 185 = .ok (.isub, 1) := by decide +kernel
theorem dX8_tells_186 : decode cX8_tells 186 = .ok (.iconst 1, 1) := by decide +kernel
theorem dX8_tells_187 : decode cX8_tells 187 = .ok (.if_icmp .le 64, 3) := by decide +kernel
theorem dX8_tells_190 : decode cX8_tells 190 = .ok (.aload_n 0, 1) := by decide +kernel
theorem dX8_tells_191 : decode cX8_tells 191 = .ok (.getfield 143, 3) := by decide +kernel
theorem dX8_tells_194 : decode cX8_tells 194 = .ok (.iload 6, 2) := by decide +kernel
theorem dX8_tells_196 : decode cX8_tells 196 = .ok (.aload_n 0, 1) := by decide +kernel
theorem dX8_tells_197 : decode cX8_tells 197 = .ok (.getfield 89, 3) := by decide +kernel
theorem dX8_tells_200 : decode cX8_tells 200 = .ok (.iload 4, 2) := by decide +kernel
theorem dX8_tells_202 : decode cX8_tells 202 = .ok (.iaload, 1) := by decide +kernel
theorem dX8_tells_203 : decode cX8_tells 203 = .ok (.iastore, 1) := by decide +kernel
theorem dX8_tells_204 : decode cX8_tells 204 = .ok (.aload_n 0, 1) := by decide +kernel
theorem dX8_tells_205 : decode cX8_tells 205 = .ok (.getfield 146, 3) := by decide +kernel
theorem dX8_tells_208 : decode cX8_tells 208 = .ok (.iload 6, 2) := by decide +kernel
theorem dX8_tells_210 : decode cX8_tells 210 = .ok (.aload_n 0, 1) := by decide +kernel
theorem dX8_tells_211 : decode cX8_tells 211 = .ok (.getfield 92, 3) := by decide +kernel
theorem dX8_tells_214 : decode cX8_tells 214 = .ok (.iload 4, 2) := by decide +kernel
theorem dX8_tells_216 : decode cX8_tells 216 = .ok (.iaload, 1) := by decide +kernel
theorem dX8_tells_217 : decode cX8_tells 217 = .ok (.iastore, 1) := by decide +kernel
theorem dX8_tells_218 : decode cX8_tells 218 = .ok (.aload_n 0, 1) := by decide +kernel
theorem dX8_tells_219 : decode cX8_tells 219 = .ok (.getfield 149, 3) := by decide +kernel
theorem dX8_tells_222 : decode cX8_tells 222 = .ok (.iload 6, 2) := by decide +kernel
theorem dX8_tells_224 : decode cX8_tells 224 = .ok (.aload_n 0, 1) := by decide +kernel
theorem dX8_tells_225 : decode cX8_tells 225 = .ok (.getfield 98, 3) := by decide +kernel
theorem dX8_tells_228 : decode cX8_tells 228 = .ok (.iload 4, 2) := by decide +kernel
theorem dX8_tells_230 : decode cX8_tells 230 = .ok (.iaload, 1) := by decide +kernel
theorem dX8_tells_231 : decode cX8_tells 231 = .ok (.iload_n 2, 1) := by decide +kernel
theorem dX8_tells_232 : decode cX8_tells 232 = .ok (.isub, 1) := by decide +kernel
theorem dX8_tells_233 : decode cX8_tells 233 = .ok (.iconst 1, 1) := by decide +kernel
theorem dX8_tells_234 : decode cX8_tells 234 = .ok (.isub, 1) := by decide +kernel
theorem dX8_tells_235 : decode cX8_tells 235 = .ok (.iastore, 1) := by decide +kernel
theorem dX8_tells_236 : decode cX8_tells 236 = .ok (.aload_n 0, 1) := by decide +kernel
theorem dX8_tells_237 : decode cX8_tells 237 = .ok (.getfield 152, 3) := by decide +kernel
theorem dX8_tells_240 : decode cX8_tells 240 = .ok (.iload 6, 2) := by decide +kernel
theorem dX8_tells_242 : decode cX8_tells 242 = .ok (.iconst 1, 1) := by decide +kernel
theorem dX8_tells_243 : decode cX8_tells 243 = .ok (.aload_n 0, 1) := by decide +kernel
theorem dX8_tells_244 : decode cX8_tells 244 = .ok (.getfield 9, 3) := by decide +kernel
theorem dX8_tells_247 : decode cX8_tells 247 = .ok (.iload_n 1, 1) := by decide +kernel
theorem dX8_tells_248 : decode cX8_tells 248 = .ok (.iaload, 1) := by decide +kernel
theorem dX8_tells_249 : decode cX8_tells 249 = .ok (.ishl, 1) := by decide +kernel
theorem dX8_tells_250 : decode cX8_tells 250 = .ok (.iastore, 1) := by decide +kernel
theorem dX8_tells_251 : decode cX8_tells 251 = .ok (.iinc 3 1, 3) := by decide +kernel
theorem dX8_tells_254 : decode cX8_tells 254 = .ok (.goto (-252), 3) := by decide +kernel
theorem dX8_tells_257 : decode cX8_tells 257 = .ok (.return_, 1) := by decide +kernel
theorem dX8_takesUp_0 : decode cX8_takesUp 0 = .ok (.bipush 24, 2) := by decide +kernel
theorem dX8_takesUp_2 : decode cX8_takesUp 2 = .ok (.iconst 2, 1) := by decide +kernel
theorem dX8_takesUp_3 : decode cX8_takesUp 3 = .ok (.iload_n 1, 1) := by decide +kernel
theorem dX8_takesUp_4 : decode cX8_takesUp 4 = .ok (.imul, 1) := by decide +kernel
theorem dX8_takesUp_5 : decode cX8_takesUp 5 = .ok (.iadd, 1) := by decide +kernel
theorem dX8_takesUp_6 : decode cX8_takesUp 6 = .ok (.iload_n 2, 1) := by decide +kernel
theorem dX8_takesUp_7 : decode cX8_takesUp 7 = .ok (.iadd, 1) := by decide +kernel
theorem dX8_takesUp_8 : decode cX8_takesUp 8 = .ok (.istore 4, 2) := by decide +kernel
theorem dX8_takesUp_10 : decode cX8_takesUp 10 = .ok (.iconst 0, 1) := by decide +kernel
theorem dX8_takesUp_11 : decode cX8_takesUp 11 = .ok (.istore 5, 2) := by decide +kernel
theorem dX8_takesUp_13 : decode cX8_takesUp 13 = .ok (.iload 5, 2) := by decide +kernel
theorem dX8_takesUp_15 : decode cX8_takesUp 15 = .ok (.bipush 16, 2) := by decide +kernel
theorem dX8_takesUp_17 : decode cX8_takesUp 17 = .ok (.if_icmp .ge 91, 3) := by decide +kernel
theorem dX8_takesUp_20 : decode cX8_takesUp 20 = .ok (.bipush 16, 2) := by decide +kernel
theorem dX8_takesUp_22 : decode cX8_takesUp 22 = .ok (.aload_n 0, 1) := by decide +kernel
theorem dX8_takesUp_23 : decode cX8_takesUp 23 = .ok (.getfield 225, 3) := by decide +kernel
theorem dX8_takesUp_26 : decode cX8_takesUp 26 = .ok (.imul, 1) := by decide +kernel
theorem dX8_takesUp_27 : decode cX8_takesUp 27 = .ok (.iload 5, 2) := by decide +kernel
theorem dX8_takesUp_29 : decode cX8_takesUp 29 = .ok (.iadd, 1) := by decide +kernel
theorem dX8_takesUp_30 : decode cX8_takesUp 30 = .ok (.istore 6, 2) := by decide +kernel
theorem dX8_takesUp_32 : decode cX8_takesUp 32 = .ok (.bipush 16, 2) := by decide +kernel
theorem dX8_takesUp_34 : decode cX8_takesUp 34 = .ok (.iload 4, 2) := by decide +kernel
theorem dX8_takesUp_36 : decode cX8_takesUp 36 = .ok (.imul, 1) := by decide +kernel
theorem dX8_takesUp_37 : decode cX8_takesUp 37 = .ok (.iload 5, 2) := by decide +kernel
theorem dX8_takesUp_39 : decode cX8_takesUp 39 = .ok (.iadd, 1) := by decide +kernel
theorem dX8_takesUp_40 : decode cX8_takesUp 40 = .ok (.istore 7, 2) := by decide +kernel
theorem dX8_takesUp_42 : decode cX8_takesUp 42 = .ok (.aload_n 0, 1) := by decide +kernel
theorem dX8_takesUp_43 : decode cX8_takesUp 43 = .ok (.getfield 119, 3) := by decide +kernel
theorem dX8_takesUp_46 : decode cX8_takesUp 46 = .ok (.iload 6, 2) := by decide +kernel
theorem dX8_takesUp_48 : decode cX8_takesUp 48 = .ok (.aload_n 0, 1) := by decide +kernel
theorem dX8_takesUp_49 : decode cX8_takesUp 49 = .ok (.getfield 119, 3) := by decide +kernel
theorem dX8_takesUp_52 : decode cX8_takesUp 52 = .ok (.iload 7, 2) := by decide +kernel
theorem dX8_takesUp_54 : decode cX8_takesUp 54 = .ok (.baload, 1) := by decide +kernel
theorem dX8_takesUp_55 : decode cX8_takesUp 55 = .ok (.bastore, 1) := by decide +kernel
theorem dX8_takesUp_56 : decode cX8_takesUp 56 = .ok (.aload_n 0, 1) := by decide +kernel
theorem dX8_takesUp_57 : decode cX8_takesUp 57 = .ok (.getfield 122, 3) := by decide +kernel
theorem dX8_takesUp_60 : decode cX8_takesUp 60 = .ok (.iload 6, 2) := by decide +kernel
theorem dX8_takesUp_62 : decode cX8_takesUp 62 = .ok (.aload_n 0, 1) := by decide +kernel
theorem dX8_takesUp_63 : decode cX8_takesUp 63 = .ok (.getfield 122, 3) := by decide +kernel
theorem dX8_takesUp_66 : decode cX8_takesUp 66 = .ok (.iload 7, 2) := by decide +kernel
theorem dX8_takesUp_68 : decode cX8_takesUp 68 = .ok (.iaload, 1) := by decide +kernel
theorem dX8_takesUp_69 : decode cX8_takesUp 69 = .ok (.iastore, 1) := by decide +kernel
theorem dX8_takesUp_70 : decode cX8_takesUp 70 = .ok (.aload_n 0, 1) := by decide +kernel
theorem dX8_takesUp_71 : decode cX8_takesUp 71 = .ok (.getfield 125, 3) := by decide +kernel
theorem dX8_takesUp_74 : decode cX8_takesUp 74 = .ok (.iload 6, 2) := by decide +kernel
theorem dX8_takesUp_76 : decode cX8_takesUp 76 = .ok (.aload_n 0, 1) := by decide +kernel
theorem dX8_takesUp_77 : decode cX8_takesUp 77 = .ok (.getfield 125, 3) := by decide +kernel
theorem dX8_takesUp_80 : decode cX8_takesUp 80 = .ok (.iload 7, 2) := by decide +kernel
theorem dX8_takesUp_82 : decode cX8_takesUp 82 = .ok (.iaload, 1) := by decide +kernel
theorem dX8_takesUp_83 : decode cX8_takesUp 83 = .ok (.iastore, 1) := by decide +kernel
theorem dX8_takesUp_84 : decode cX8_takesUp 84 = .ok (.aload_n 0, 1) := by decide +kernel
theorem dX8_takesUp_85 : decode cX8_takesUp 85 = .ok (.getfield 128, 3) := by decide +kernel
theorem dX8_takesUp_88 : decode cX8_takesUp 88 = .ok (.iload 6, 2) := by decide +kernel
theorem dX8_takesUp_90 : decode cX8_takesUp 90 = .ok (.aload_n 0, 1) := by decide +kernel
theorem dX8_takesUp_91 : decode cX8_takesUp 91 = .ok (.getfield 128, 3) := by decide +kernel
theorem dX8_takesUp_94 : decode cX8_takesUp 94 = .ok (.iload 7, 2) := by decide +kernel
theorem dX8_takesUp_96 : decode cX8_takesUp 96 = .ok (.iaload, 1) := by decide +kernel
theorem dX8_takesUp_97 : decode cX8_takesUp 97 = .ok (.iconst 1, 1) := by decide +kernel
theorem dX8_takesUp_98 : decode cX8_takesUp 98 = .ok (.iload_n 3, 1) := by decide +kernel
theorem dX8_takesUp_99 : decode cX8_takesUp 99 = .ok (.ishl, 1) := by decide +kernel
theorem dX8_takesUp_100 : decode cX8_takesUp 100 = .ok (.ior, 1) := by decide +kernel
theorem dX8_takesUp_101 : decode cX8_takesUp 101 = .ok (.iastore, 1) := by decide +kernel
theorem dX8_takesUp_102 : decode cX8_takesUp 102 = .ok (.iinc 5 1, 3) := by decide +kernel
theorem dX8_takesUp_105 : decode cX8_takesUp 105 = .ok (.goto (-92), 3) := by decide +kernel
theorem dX8_takesUp_108 : decode cX8_takesUp 108 = .ok (.iconst 0, 1) := by decide +kernel
theorem dX8_takesUp_109 : decode cX8_takesUp 109 = .ok (.istore 5, 2) := by decide +kernel
theorem dX8_takesUp_111 : decode cX8_takesUp 111 = .ok (.iload 5, 2) := by decide +kernel
theorem dX8_takesUp_113 : decode cX8_takesUp 113 = .ok (.bipush 32, 2) := by decide +kernel
theorem dX8_takesUp_115 : decode cX8_takesUp 115 = .ok (.if_icmp .ge 155, 3) := by decide +kernel
theorem dX8_takesUp_118 : decode cX8_takesUp 118 = .ok (.bipush 32, 2) := by decide +kernel
theorem dX8_takesUp_120 : decode cX8_takesUp 120 = .ok (.aload_n 0, 1) := by decide +kernel
theorem dX8_takesUp_121 : decode cX8_takesUp 121 = .ok (.getfield 225, 3) := by decide +kernel
theorem dX8_takesUp_124 : decode cX8_takesUp 124 = .ok (.imul, 1) := by decide +kernel
theorem dX8_takesUp_125 : decode cX8_takesUp 125 = .ok (.iload 5, 2) := by decide +kernel
theorem dX8_takesUp_127 : decode cX8_takesUp 127 = .ok (.iadd, 1) := by decide +kernel
theorem dX8_takesUp_128 : decode cX8_takesUp 128 = .ok (.istore 6, 2) := by decide +kernel
theorem dX8_takesUp_130 : decode cX8_takesUp 130 = .ok (.bipush 32, 2) := by decide +kernel
theorem dX8_takesUp_132 : decode cX8_takesUp 132 = .ok (.iload 4, 2) := by decide +kernel
theorem dX8_takesUp_134 : decode cX8_takesUp 134 = .ok (.imul, 1) := by decide +kernel
theorem dX8_takesUp_135 : decode cX8_takesUp 135 = .ok (.iload 5, 2) := by decide +kernel
theorem dX8_takesUp_137 : decode cX8_takesUp 137 = .ok (.iadd, 1) := by decide +kernel
theorem dX8_takesUp_138 : decode cX8_takesUp 138 = .ok (.istore 7, 2) := by decide +kernel
theorem dX8_takesUp_140 : decode cX8_takesUp 140 = .ok (.aload_n 0, 1) := by decide +kernel
theorem dX8_takesUp_141 : decode cX8_takesUp 141 = .ok (.getfield 131, 3) := by decide +kernel
theorem dX8_takesUp_144 : decode cX8_takesUp 144 = .ok (.iload 6, 2) := by decide +kernel
theorem dX8_takesUp_146 : decode cX8_takesUp 146 = .ok (.aload_n 0, 1) := by decide +kernel
theorem dX8_takesUp_147 : decode cX8_takesUp 147 = .ok (.getfield 131, 3) := by decide +kernel
theorem dX8_takesUp_150 : decode cX8_takesUp 150 = .ok (.iload 7, 2) := by decide +kernel
theorem dX8_takesUp_152 : decode cX8_takesUp 152 = .ok (.iaload, 1) := by decide +kernel
theorem dX8_takesUp_153 : decode cX8_takesUp 153 = .ok (.iastore, 1) := by decide +kernel
theorem dX8_takesUp_154 : decode cX8_takesUp 154 = .ok (.aload_n 0, 1) := by decide +kernel
theorem dX8_takesUp_155 : decode cX8_takesUp 155 = .ok (.getfield 134, 3) := by decide +kernel
theorem dX8_takesUp_158 : decode cX8_takesUp 158 = .ok (.iload 6, 2) := by decide +kernel
theorem dX8_takesUp_160 : decode cX8_takesUp 160 = .ok (.aload_n 0, 1) := by decide +kernel
theorem dX8_takesUp_161 : decode cX8_takesUp 161 = .ok (.getfield 134, 3) := by decide +kernel
theorem dX8_takesUp_164 : decode cX8_takesUp 164 = .ok (.iload 7, 2) := by decide +kernel
theorem dX8_takesUp_166 : decode cX8_takesUp 166 = .ok (.iaload, 1) := by decide +kernel
theorem dX8_takesUp_167 : decode cX8_takesUp 167 = .ok (.iconst 1, 1) := by decide +kernel
theorem dX8_takesUp_168 : decode cX8_takesUp 168 = .ok (.iload_n 3, 1) := by decide +kernel
theorem dX8_takesUp_169 : decode cX8_takesUp 169 = .ok (.ishl, 1) := by decide +kernel
theorem dX8_takesUp_170 : decode cX8_takesUp 170 = .ok (.ior, 1) := by decide +kernel
theorem dX8_takesUp_171 : decode cX8_takesUp 171 = .ok (.iastore, 1) := by decide +kernel
theorem dX8_takesUp_172 : decode cX8_takesUp 172 = .ok (.aload_n 0, 1) := by decide +kernel
theorem dX8_takesUp_173 : decode cX8_takesUp 173 = .ok (.getfield 137, 3) := by decide +kernel
theorem dX8_takesUp_176 : decode cX8_takesUp 176 = .ok (.iload 6, 2) := by decide +kernel
theorem dX8_takesUp_178 : decode cX8_takesUp 178 = .ok (.aload_n 0, 1) := by decide +kernel
theorem dX8_takesUp_179 : decode cX8_takesUp 179 = .ok (.getfield 137, 3) := by decide +kernel
theorem dX8_takesUp_182 : decode cX8_takesUp 182 = .ok (.iload 7, 2) := by decide +kernel
theorem dX8_takesUp_184 : decode cX8_takesUp 184 = .ok (.baload, 1) := by decide +kernel
theorem dX8_takesUp_185 : decode cX8_takesUp 185 = .ok (.bastore, 1) := by decide +kernel
theorem dX8_takesUp_186 : decode cX8_takesUp 186 = .ok (.aload_n 0, 1) := by decide +kernel
theorem dX8_takesUp_187 : decode cX8_takesUp 187 = .ok (.getfield 140, 3) := by decide +kernel
theorem dX8_takesUp_190 : decode cX8_takesUp 190 = .ok (.iload 6, 2) := by decide +kernel
theorem dX8_takesUp_192 : decode cX8_takesUp 192 = .ok (.aload_n 0, 1) := by decide +kernel
theorem dX8_takesUp_193 : decode cX8_takesUp 193 = .ok (.getfield 140, 3) := by decide +kernel
theorem dX8_takesUp_196 : decode cX8_takesUp 196 = .ok (.iload 7, 2) := by decide +kernel
theorem dX8_takesUp_198 : decode cX8_takesUp 198 = .ok (.iaload, 1) := by decide +kernel
theorem dX8_takesUp_199 : decode cX8_takesUp 199 = .ok (.iconst 1, 1) := by decide +kernel
theorem dX8_takesUp_200 : decode cX8_takesUp 200 = .ok (.iload_n 3, 1) := by decide +kernel
theorem dX8_takesUp_201 : decode cX8_takesUp 201 = .ok (.ishl, 1) := by decide +kernel
theorem dX8_takesUp_202 : decode cX8_takesUp 202 = .ok (.ior, 1) := by decide +kernel
theorem dX8_takesUp_203 : decode cX8_takesUp 203 = .ok (.iastore, 1) := by decide +kernel
theorem dX8_takesUp_204 : decode cX8_takesUp 204 = .ok (.aload_n 0, 1) := by decide +kernel
theorem dX8_takesUp_205 : decode cX8_takesUp 205 = .ok (.getfield 143, 3) := by decide +kernel
theorem dX8_takesUp_208 : decode cX8_takesUp 208 = .ok (.iload 6, 2) := by decide +kernel
theorem dX8_takesUp_210 : decode cX8_takesUp 210 = .ok (.aload_n 0, 1) := by decide +kernel
theorem dX8_takesUp_211 : decode cX8_takesUp 211 = .ok (.getfield 143, 3) := by decide +kernel
theorem dX8_takesUp_214 : decode cX8_takesUp 214 = .ok (.iload 7, 2) := by decide +kernel
theorem dX8_takesUp_216 : decode cX8_takesUp 216 = .ok (.iaload, 1) := by decide +kernel
theorem dX8_takesUp_217 : decode cX8_takesUp 217 = .ok (.iastore, 1) := by decide +kernel
theorem dX8_takesUp_218 : decode cX8_takesUp 218 = .ok (.aload_n 0, 1) := by decide +kernel
theorem dX8_takesUp_219 : decode cX8_takesUp 219 = .ok (.getfield 146, 3) := by decide +kernel
theorem dX8_takesUp_222 : decode cX8_takesUp 222 = .ok (.iload 6, 2) := by decide +kernel
theorem dX8_takesUp_224 : decode cX8_takesUp 224 = .ok (.aload_n 0, 1) := by decide +kernel
theorem dX8_takesUp_225 : decode cX8_takesUp 225 = .ok (.getfield 146, 3) := by decide +kernel
theorem dX8_takesUp_228 : decode cX8_takesUp 228 = .ok (.iload 7, 2) := by decide +kernel
theorem dX8_takesUp_230 : decode cX8_takesUp 230 = .ok (.iaload, 1) := by decide +kernel
theorem dX8_takesUp_231 : decode cX8_takesUp 231 = .ok (.iastore, 1) := by decide +kernel
theorem dX8_takesUp_232 : decode cX8_takesUp 232 = .ok (.aload_n 0, 1) := by decide +kernel
theorem dX8_takesUp_233 : decode cX8_takesUp 233 = .ok (.getfield 149, 3) := by decide +kernel
theorem dX8_takesUp_236 : decode cX8_takesUp 236 = .ok (.iload 6, 2) := by decide +kernel
theorem dX8_takesUp_238 : decode cX8_takesUp 238 = .ok (.aload_n 0, 1) := by decide +kernel
theorem dX8_takesUp_239 : decode cX8_takesUp 239 = .ok (.getfield 149, 3) := by decide +kernel
theorem dX8_takesUp_242 : decode cX8_takesUp 242 = .ok (.iload 7, 2) := by decide +kernel
theorem dX8_takesUp_244 : decode cX8_takesUp 244 = .ok (.iaload, 1) := by decide +kernel
theorem dX8_takesUp_245 : decode cX8_takesUp 245 = .ok (.iastore, 1) := by decide +kernel
theorem dX8_takesUp_246 : decode cX8_takesUp 246 = .ok (.aload_n 0, 1) := by decide +kernel
theorem dX8_takesUp_247 : decode cX8_takesUp 247 = .ok (.getfield 152, 3) := by decide +kernel
theorem dX8_takesUp_250 : decode cX8_takesUp 250 = .ok (.iload 6, 2) := by decide +kernel
theorem dX8_takesUp_252 : decode cX8_takesUp 252 = .ok (.aload_n 0, 1) := by decide +kernel
theorem dX8_takesUp_253 : decode cX8_takesUp 253 = .ok (.getfield 152, 3) := by decide +kernel
theorem dX8_takesUp_256 : decode cX8_takesUp 256 = .ok (.iload 7, 2) := by decide +kernel
theorem dX8_takesUp_258 : decode cX8_takesUp 258 = .ok (.iaload, 1) := by decide +kernel
theorem dX8_takesUp_259 : decode cX8_takesUp 259 = .ok (.iconst 1, 1) := by decide +kernel
theorem dX8_takesUp_260 : decode cX8_takesUp 260 = .ok (.iload_n 3, 1) := by decide +kernel
theorem dX8_takesUp_261 : decode cX8_takesUp 261 = .ok (.ishl, 1) := by decide +kernel
theorem dX8_takesUp_262 : decode cX8_takesUp 262 = .ok (.ior, 1) := by decide +kernel
theorem dX8_takesUp_263 : decode cX8_takesUp 263 = .ok (.iastore, 1) := by decide +kernel
theorem dX8_takesUp_264 : decode cX8_takesUp 264 = .ok (.iinc 5 1, 3) := by decide +kernel
theorem dX8_takesUp_267 : decode cX8_takesUp 267 = .ok (.goto (-156), 3) := by decide +kernel
theorem dX8_takesUp_270 : decode cX8_takesUp 270 = .ok (.aload_n 0, 1) := by decide +kernel
theorem dX8_takesUp_271 : decode cX8_takesUp 271 = .ok (.iload 4, 2) := by decide +kernel
theorem dX8_takesUp_273 : decode cX8_takesUp 273 = .ok (.invokevirtual 215, 3) := by decide +kernel
theorem dX8_takesUp_276 : decode cX8_takesUp 276 = .ok (.aload_n 0, 1) := by decide +kernel
theorem dX8_takesUp_277 : decode cX8_takesUp 277 = .ok (.iload_n 1, 1) := by decide +kernel
theorem dX8_takesUp_278 : decode cX8_takesUp 278 = .ok (.iload_n 3, 1) := by decide +kernel
theorem dX8_takesUp_279 : decode cX8_takesUp 279 = .ok (.invokevirtual 253, 3) := by decide +kernel
theorem dX8_takesUp_282 : decode cX8_takesUp 282 = .ok (.return_, 1) := by decide +kernel
theorem dX8_isHeard_0 : decode cX8_isHeard 0 = .ok (.aload_n 0, 1) := by decide +kernel
theorem dX8_isHeard_1 : decode cX8_isHeard 1 = .ok (.getfield 113, 3) := by decide +kernel
theorem dX8_isHeard_4 : decode cX8_isHeard 4 = .ok (.iload_n 1, 1) := by decide +kernel
theorem dX8_isHeard_5 : decode cX8_isHeard 5 = .ok (.iaload, 1) := by decide +kernel
theorem dX8_isHeard_6 : decode cX8_isHeard 6 = .ok (.istore_n 3, 1) := by decide +kernel
theorem dX8_isHeard_7 : decode cX8_isHeard 7 = .ok (.aload_n 0, 1) := by decide +kernel
theorem dX8_isHeard_8 : decode cX8_isHeard 8 = .ok (.getfield 47, 3) := by decide +kernel
theorem dX8_isHeard_11 : decode cX8_isHeard 11 = .ok (.iload_n 3, 1) := by decide +kernel
theorem dX8_isHeard_12 : decode cX8_isHeard 12 = .ok (.iaload, 1) := by decide +kernel
theorem dX8_isHeard_13 : decode cX8_isHeard 13 = .ok (.ifCond .le 24, 3) := by decide +kernel
theorem dX8_isHeard_16 : decode cX8_isHeard 16 = .ok (.aload_n 0, 1) := by decide +kernel
theorem dX8_isHeard_17 : decode cX8_isHeard 17 = .ok (.getfield 47, 3) := by decide +kernel
theorem dX8_isHeard_20 : decode cX8_isHeard 20 = .ok (.iload_n 3, 1) := by decide +kernel
theorem dX8_isHeard_21 : decode cX8_isHeard 21 = .ok (.dup2, 1) := by decide +kernel
theorem dX8_isHeard_22 : decode cX8_isHeard 22 = .ok (.iaload, 1) := by decide +kernel
theorem dX8_isHeard_23 : decode cX8_isHeard 23 = .ok (.iconst 1, 1) := by decide +kernel
theorem dX8_isHeard_24 : decode cX8_isHeard 24 = .ok (.isub, 1) := by decide +kernel
theorem dX8_isHeard_25 : decode cX8_isHeard 25 = .ok (.iastore, 1) := by decide +kernel
theorem dX8_isHeard_26 : decode cX8_isHeard 26 = .ok (.aload_n 0, 1) := by decide +kernel
theorem dX8_isHeard_27 : decode cX8_isHeard 27 = .ok (.dup, 1) := by decide +kernel
theorem dX8_isHeard_28 : decode cX8_isHeard 28 = .ok (.getfield 274, 3) := by decide +kernel
theorem dX8_isHeard_31 : decode cX8_isHeard 31 = .ok (.iconst 1, 1) := by decide +kernel
theorem dX8_isHeard_32 : decode cX8_isHeard 32 = .ok (.iadd, 1) := by decide +kernel
theorem dX8_isHeard_33 : decode cX8_isHeard 33 = .ok (.putfield 274, 3) := by decide +kernel
theorem dX8_isHeard_36 : decode cX8_isHeard 36 = .ok (.return_, 1) := by decide +kernel
theorem dX8_isHeard_37 : decode cX8_isHeard 37 = .ok (.iconst 0, 1) := by decide +kernel
theorem dX8_isHeard_38 : decode cX8_isHeard 38 = .ok (.istore 4, 2) := by decide +kernel
theorem dX8_isHeard_40 : decode cX8_isHeard 40 = .ok (.iload 4, 2) := by decide +kernel
theorem dX8_isHeard_42 : decode cX8_isHeard 42 = .ok (.aload_n 0, 1) := by decide +kernel
theorem dX8_isHeard_43 : decode cX8_isHeard 43 = .ok (.getfield 155, 3) := by decide +kernel
theorem dX8_isHeard_46 : decode cX8_isHeard 46 = .ok (.if_icmp .ge 130, 3) := by decide +kernel
theorem dX8_isHeard_49 : decode cX8_isHeard 49 = .ok (.iload 4, 2) := by decide +kernel
theorem dX8_isHeard_51 : decode cX8_isHeard 51 = .ok (.iload_n 3, 1) := by decide +kernel
theorem dX8_isHeard_52 : decode cX8_isHeard 52 = .ok (.if_icmp .eq 118, 3) := by decide +kernel
theorem dX8_isHeard_55 : decode cX8_isHeard 55 = .ok (.aload_n 0, 1) := by decide +kernel
theorem dX8_isHeard_56 : decode cX8_isHeard 56 = .ok (.getfield 25, 3) := by decide +kernel
theorem dX8_isHeard_59 : decode cX8_isHeard 59 = .ok (.iload 4, 2) := by decide +kernel
theorem dX8_isHeard_61 : decode cX8_isHeard 61 = .ok (.iaload, 1) := by decide +kernel
theorem dX8_isHeard_62 : decode cX8_isHeard 62 = .ok (.iconst 2, 1) := by decide +kernel
theorem dX8_isHeard_63 : decode cX8_isHeard 63 = .ok (.if_icmp .ne 107, 3) := by decide +kernel
theorem dX8_isHeard_66 : decode cX8_isHeard 66 = .ok (.aload_n 0, 1) := by decide +kernel
theorem dX8_isHeard_67 : decode cX8_isHeard 67 = .ok (.getfield 9, 3) := by decide +kernel
theorem dX8_isHeard_70 : decode cX8_isHeard 70 = .ok (.iload 4, 2) := by decide +kernel
theorem dX8_isHeard_72 : decode cX8_isHeard 72 = .ok (.iaload, 1) := by decide +kernel
theorem dX8_isHeard_73 : decode cX8_isHeard 73 = .ok (.aload_n 0, 1) := by decide +kernel
theorem dX8_isHeard_74 : decode cX8_isHeard 74 = .ok (.getfield 116, 3) := by decide +kernel
theorem dX8_isHeard_77 : decode cX8_isHeard 77 = .ok (.iload_n 1, 1) := by decide +kernel
theorem dX8_isHeard_78 : decode cX8_isHeard 78 = .ok (.iaload, 1) := by decide +kernel
theorem dX8_isHeard_79 : decode cX8_isHeard 79 = .ok (.if_icmp .eq 19, 3) := by decide +kernel
theorem dX8_isHeard_82 : decode cX8_isHeard 82 = .ok (.aload_n 0, 1) := by decide +kernel
theorem dX8_isHeard_83 : decode cX8_isHeard 83 = .ok (.getfield 13, 3) := by decide +kernel
theorem dX8_isHeard_86 : decode cX8_isHeard 86 = .ok (.iload 4, 2) := by decide +kernel
theorem dX8_isHeard_88 : decode cX8_isHeard 88 = .ok (.iaload, 1) := by decide +kernel
theorem dX8_isHeard_89 : decode cX8_isHeard 89 = .ok (.aload_n 0, 1) := by decide +kernel
theorem dX8_isHeard_90 : decode cX8_isHeard 90 = .ok (.getfield 116, 3) := by decide +kernel
theorem dX8_isHeard_93 : decode cX8_isHeard 93 = .ok (.iload_n 1, 1) := by decide +kernel
theorem dX8_isHeard_94 : decode cX8_isHeard 94 = .ok (.iaload, 1) := by decide +kernel
theorem dX8_isHeard_95 : decode cX8_isHeard 95 = .ok (.if_icmp .ne 75, 3) := by decide +kernel
theorem dX8_isHeard_98 : decode cX8_isHeard 98 = .ok (.aload_n 0, 1) := by decide +kernel
theorem dX8_isHeard_99 : decode cX8_isHeard 99 = .ok (.getfield 9, 3) := by decide +kernel
theorem dX8_isHeard_102 : decode cX8_isHeard 102 = .ok (.iload 4, 2) := by decide +kernel
theorem dX8_isHeard_104 : decode cX8_isHeard 104 = .ok (.iaload, 1) := by decide +kernel
theorem dX8_isHeard_105 : decode cX8_isHeard 105 = .ok (.aload_n 0, 1) := by decide +kernel
theorem dX8_isHeard_106 : decode cX8_isHeard 106 = .ok (.getfield 13, 3) := by decide +kernel
theorem dX8_isHeard_109 : decode cX8_isHeard 109 = .ok (.iload 4, 2) := by decide +kernel
theorem dX8_isHeard_111 : decode cX8_isHeard 111 = .ok (.iaload, 1) := by decide +kernel
theorem dX8_isHeard_112 : decode cX8_isHeard 112 = .ok (.if_icmp .ne 6, 3) := by decide +kernel
theorem dX8_isHeard_115 : decode cX8_isHeard 115 = .ok (.goto 55, 3) := by decide +kernel
theorem dX8_isHeard_118 : decode cX8_isHeard 118 = .ok (.aload_n 0, 1) := by decide +kernel
theorem dX8_isHeard_119 : decode cX8_isHeard 119 = .ok (.getfield 50, 3) := by decide +kernel
theorem dX8_isHeard_122 : decode cX8_isHeard 122 = .ok (.iload 4, 2) := by decide +kernel
theorem dX8_isHeard_124 : decode cX8_isHeard 124 = .ok (.iaload, 1) := by decide +kernel
theorem dX8_isHeard_125 : decode cX8_isHeard 125 = .ok (.ifCond .le 17, 3) := by decide +kernel
theorem dX8_isHeard_128 : decode cX8_isHeard 128 = .ok (.aload_n 0, 1) := by decide +kernel
theorem dX8_isHeard_129 : decode cX8_isHeard 129 = .ok (.getfield 50, 3) := by decide +kernel
theorem dX8_isHeard_132 : decode cX8_isHeard 132 = .ok (.iload 4, 2) := by decide +kernel
theorem dX8_isHeard_134 : decode cX8_isHeard 134 = .ok (.dup2, 1) := by decide +kernel
theorem dX8_isHeard_135 : decode cX8_isHeard 135 = .ok (.iaload, 1) := by decide +kernel
theorem dX8_isHeard_136 : decode cX8_isHeard 136 = .ok (.iconst 1, 1) := by decide +kernel
theorem dX8_isHeard_137 : decode cX8_isHeard 137 = .ok (.isub, 1) := by decide +kernel
theorem dX8_isHeard_138 : decode cX8_isHeard 138 = .ok (.iastore, 1) := by decide +kernel
theorem dX8_isHeard_139 : decode cX8_isHeard 139 = .ok (.goto 31, 3) := by decide +kernel
theorem dX8_isHeard_142 : decode cX8_isHeard 142 = .ok (.aload_n 0, 1) := by decide +kernel
theorem dX8_isHeard_143 : decode cX8_isHeard 143 = .ok (.getfield 35, 3) := by decide +kernel
theorem dX8_isHeard_146 : decode cX8_isHeard 146 = .ok (.iload 4, 2) := by decide +kernel
theorem dX8_isHeard_148 : decode cX8_isHeard 148 = .ok (.baload, 1) := by decide +kernel
theorem dX8_isHeard_149 : decode cX8_isHeard 149 = .ok (.ifCond .eq 13, 3) := by decide +kernel
theorem dX8_isHeard_152 : decode cX8_isHeard 152 = .ok (.aload_n 0, 1) := by decide +kernel
theorem dX8_isHeard_153 : decode cX8_isHeard 153 = .ok (.iload 4, 2) := by decide +kernel
theorem dX8_isHeard_155 : decode cX8_isHeard 155 = .ok (.iload_n 1, 1) := by decide +kernel
theorem dX8_isHeard_156 : decode cX8_isHeard 156 = .ok (.invokevirtual 277, 3) := by decide +kernel
theorem dX8_isHeard_159 : decode cX8_isHeard 159 = .ok (.goto 11, 3) := by decide +kernel
theorem dX8_isHeard_162 : decode cX8_isHeard 162 = .ok (.aload_n 0, 1) := by decide +kernel
theorem dX8_isHeard_163 : decode cX8_isHeard 163 = .ok (.iload 4, 2) := by decide +kernel
theorem dX8_isHeard_165 : decode cX8_isHeard 165 = .ok (.iload_n 1, 1) := by decide +kernel
theorem dX8_isHeard_166 : decode cX8_isHeard 166 = .ok (.iload_n 2, 1) := by decide +kernel
theorem dX8_isHeard_167 : decode cX8_isHeard 167 = .ok (.invokevirtual 280, 3) := by decide +kernel
theorem dX8_isHeard_170 : decode cX8_isHeard 170 = .ok (.iinc 4 1, 3) := by decide +kernel
theorem dX8_isHeard_173 : decode cX8_isHeard 173 = .ok (.goto (-133), 3) := by decide +kernel
theorem dX8_isHeard_176 : decode cX8_isHeard 176 = .ok (.return_, 1) := by decide +kernel
theorem dX8_isCarried_0 : decode cX8_isCarried 0 = .ok (.aload_n 0, 1) := by decide +kernel
theorem dX8_isCarried_1 : decode cX8_isCarried 1 = .ok (.getfield 38, 3) := by decide +kernel
theorem dX8_isCarried_4 : decode cX8_isCarried 4 = .ok (.iload_n 1, 1) := by decide +kernel
theorem dX8_isCarried_5 : decode cX8_isCarried 5 = .ok (.iaload, 1) := by decide +kernel
theorem dX8_isCarried_6 : decode cX8_isCarried 6 = .ok (.iload_n 2, 1) := by decide +kernel
theorem dX8_isCarried_7 : decode cX8_isCarried 7 = .ok (.ishr, 1) := by decide +kernel
theorem dX8_isCarried_8 : decode cX8_isCarried 8 = .ok (.iconst 1, 1) := by decide +kernel
theorem dX8_isCarried_9 : decode cX8_isCarried 9 = .ok (.iand, 1) := by decide +kernel
theorem dX8_isCarried_10 : decode cX8_isCarried 10 = .ok (.iconst 1, 1) := by decide +kernel
theorem dX8_isCarried_11 : decode cX8_isCarried 11 = .ok (.if_icmp .ne 16, 3) := by decide +kernel
theorem dX8_isCarried_14 : decode cX8_isCarried 14 = .ok (.iload_n 3, 1) := by decide +kernel
theorem dX8_isCarried_15 : decode cX8_isCarried 15 = .ok (.iload 4, 2) := by decide +kernel
theorem dX8_isCarried_17 : decode cX8_isCarried 17 = .ok (.ishr, 1) := by decide +kernel
theorem dX8_isCarried_18 : decode cX8_isCarried 18 = .ok (.iconst 1, 1) := by decide +kernel
theorem dX8_isCarried_19 : decode cX8_isCarried 19 = .ok (.iand, 1) := by decide +kernel
theorem dX8_isCarried_20 : decode cX8_isCarried 20 = .ok (.ifCond .ne 7, 3) := by decide +kernel
theorem dX8_isCarried_23 : decode cX8_isCarried 23 = .ok (.iconst 1, 1) := by decide +kernel
theorem dX8_isCarried_24 : decode cX8_isCarried 24 = .ok (.goto 4, 3) := by decide +kernel
theorem dX8_isCarried_27 : decode cX8_isCarried 27 = .ok (.iconst 0, 1) := by decide +kernel
theorem dX8_isCarried_28 : decode cX8_isCarried 28 = .ok (.ireturn, 1) := by decide +kernel
theorem dX8_carries_0 : decode cX8_carries 0 = .ok (.aload_n 0, 1) := by decide +kernel
theorem dX8_carries_1 : decode cX8_carries 1 = .ok (.getfield 116, 3) := by decide +kernel
theorem dX8_carries_4 : decode cX8_carries 4 = .ok (.iload_n 2, 1) := by decide +kernel
theorem dX8_carries_5 : decode cX8_carries 5 = .ok (.iaload, 1) := by decide +kernel
theorem dX8_carries_6 : decode cX8_carries 6 = .ok (.aload_n 0, 1) := by decide +kernel
theorem dX8_carries_7 : decode cX8_carries 7 = .ok (.getfield 9, 3) := by decide +kernel
theorem dX8_carries_10 : decode cX8_carries 10 = .ok (.iload_n 1, 1) := by decide +kernel
theorem dX8_carries_11 : decode cX8_carries 11 = .ok (.iaload, 1) := by decide +kernel
theorem dX8_carries_12 : decode cX8_carries 12 = .ok (.if_icmp .ne 7, 3) := by decide +kernel
theorem dX8_carries_15 : decode cX8_carries 15 = .ok (.iconst 1, 1) := by decide +kernel
theorem dX8_carries_16 : decode cX8_carries 16 = .ok (.goto 4, 3) := by decide +kernel
theorem dX8_carries_19 : decode cX8_carries 19 = .ok (.iconst 0, 1) := by decide +kernel
theorem dX8_carries_20 : decode cX8_carries 20 = .ok (.istore_n 3, 1) := by decide +kernel
theorem dX8_carries_21 : decode cX8_carries 21 = .ok (.iload_n 3, 1) := by decide +kernel
theorem dX8_carries_22 : decode cX8_carries 22 = .ok (.iconst 1, 1) := by decide +kernel
theorem dX8_carries_23 : decode cX8_carries 23 = .ok (.if_icmp .ne 12, 3) := by decide +kernel
theorem dX8_carries_26 : decode cX8_carries 26 = .ok (.aload_n 0, 1) := by decide +kernel
theorem dX8_carries_27 : decode cX8_carries 27 = .ok (.getfield 13, 3) := by decide +kernel
theorem dX8_carries_30 : decode cX8_carries 30 = .ok (.iload_n 1, 1) := by decide +kernel
theorem dX8_carries_31 : decode cX8_carries 31 = .ok (.iaload, 1) := by decide +kernel
theorem dX8_carries_32 : decode cX8_carries 32 = .ok (.goto 9, 3) := by decide +kernel
theorem dX8_carries_35 : decode cX8_carries 35 = .ok (.aload_n 0, 1) := by decide +kernel
theorem dX8_carries_36 : decode cX8_carries 36 = .ok (.getfield 9, 3) := by decide +kernel
theorem dX8_carries_39 : decode cX8_carries 39 = .ok (.iload_n 1, 1) := by decide +kernel
theorem dX8_carries_40 : decode cX8_carries 40 = .ok (.iaload, 1) := by decide +kernel
theorem dX8_carries_41 : decode cX8_carries 41 = .ok (.istore 4, 2) := by decide +kernel
theorem dX8_carries_43 : decode cX8_carries 43 = .ok (.bipush 24, 2) := by decide +kernel
theorem dX8_carries_45 : decode cX8_carries 45 = .ok (.iconst 2, 1) := by decide +kernel
theorem dX8_carries_46 : decode cX8_carries 46 = .ok (.iload_n 1, 1) := by decide +kernel
theorem dX8_carries_47 : decode cX8_carries 47 = .ok (.imul, 1) := by decide +kernel
theorem dX8_carries_48 : decode cX8_carries 48 = .ok (.iadd, 1) := by decide +kernel
theorem dX8_carries_49 : decode cX8_carries 49 = .ok (.iload_n 3, 1) := by decide +kernel
theorem dX8_carries_50 : decode cX8_carries 50 = .ok (.iadd, 1) := by decide +kernel
theorem dX8_carries_51 : decode cX8_carries 51 = .ok (.istore 5, 2) := by decide +kernel
theorem dX8_carries_53 : decode cX8_carries 53 = .ok (.iconst 0, 1) := by decide +kernel
theorem dX8_carries_54 : decode cX8_carries 54 = .ok (.istore 6, 2) := by decide +kernel
theorem dX8_carries_56 : decode cX8_carries 56 = .ok (.iload 6, 2) := by decide +kernel
theorem dX8_carries_58 : decode cX8_carries 58 = .ok (.bipush 16, 2) := by decide +kernel
theorem dX8_carries_60 : decode cX8_carries 60 = .ok (.if_icmp .ge 130, 3) := by decide +kernel
theorem dX8_carries_63 : decode cX8_carries 63 = .ok (.bipush 16, 2) := by decide +kernel
theorem dX8_carries_65 : decode cX8_carries 65 = .ok (.iload_n 2, 1) := by decide +kernel
theorem dX8_carries_66 : decode cX8_carries 66 = .ok (.imul, 1) := by decide +kernel
theorem dX8_carries_67 : decode cX8_carries 67 = .ok (.iload 6, 2) := by decide +kernel
theorem dX8_carries_69 : decode cX8_carries 69 = .ok (.iadd, 1) := by decide +kernel
theorem dX8_carries_70 : decode cX8_carries 70 = .ok (.istore 7, 2) := by decide +kernel
theorem dX8_carries_72 : decode cX8_carries 72 = .ok (.bipush 16, 2) := by decide +kernel
theorem dX8_carries_74 : decode cX8_carries 74 = .ok (.iload 5, 2) := by decide +kernel
theorem dX8_carries_76 : decode cX8_carries 76 = .ok (.imul, 1) := by decide +kernel
theorem dX8_carries_77 : decode cX8_carries 77 = .ok (.iload 6, 2) := by decide +kernel
theorem dX8_carries_79 : decode cX8_carries 79 = .ok (.iadd, 1) := by decide +kernel
theorem dX8_carries_80 : decode cX8_carries 80 = .ok (.istore 8, 2) := by decide +kernel
theorem dX8_carries_82 : decode cX8_carries 82 = .ok (.aload_n 0, 1) := by decide +kernel
theorem dX8_carries_83 : decode cX8_carries 83 = .ok (.getfield 119, 3) := by decide +kernel
theorem dX8_carries_86 : decode cX8_carries 86 = .ok (.iload 7, 2) := by decide +kernel
theorem dX8_carries_88 : decode cX8_carries 88 = .ok (.baload, 1) := by decide +kernel
theorem dX8_carries_89 : decode cX8_carries 89 = .ok (.ifCond .eq 95, 3) := by decide +kernel
theorem dX8_carries_92 : decode cX8_carries 92 = .ok (.aload_n 0, 1) := by decide +kernel
theorem dX8_carries_93 : decode cX8_carries 93 = .ok (.getfield 119, 3) := by decide +kernel
theorem dX8_carries_96 : decode cX8_carries 96 = .ok (.iload 8, 2) := by decide +kernel
theorem dX8_carries_98 : decode cX8_carries 98 = .ok (.baload, 1) := by decide +kernel
theorem dX8_carries_99 : decode cX8_carries 99 = .ok (.ifCond .ne 85, 3) := by decide +kernel
theorem dX8_carries_102 : decode cX8_carries 102 = .ok (.aload_n 0, 1) := by decide +kernel
theorem dX8_carries_103 : decode cX8_carries 103 = .ok (.iload_n 1, 1) := by decide +kernel
theorem dX8_carries_104 : decode cX8_carries 104 = .ok (.iload 6, 2) := by decide +kernel
theorem dX8_carries_106 : decode cX8_carries 106 = .ok (.aload_n 0, 1) := by decide +kernel
theorem dX8_carries_107 : decode cX8_carries 107 = .ok (.getfield 128, 3) := by decide +kernel
theorem dX8_carries_110 : decode cX8_carries 110 = .ok (.iload 7, 2) := by decide +kernel
theorem dX8_carries_112 : decode cX8_carries 112 = .ok (.iaload, 1) := by decide +kernel
theorem dX8_carries_113 : decode cX8_carries 113 = .ok (.iload 4, 2) := by decide +kernel
theorem dX8_carries_115 : decode cX8_carries 115 = .ok (.invokevirtual 283, 3) := by decide +kernel
theorem dX8_carries_118 : decode cX8_carries 118 = .ok (.ifCond .ne 6, 3) := by decide +kernel
theorem dX8_carries_121 : decode cX8_carries 121 = .ok (.goto 63, 3) := by decide +kernel
theorem dX8_carries_124 : decode cX8_carries 124 = .ok (.aload_n 0, 1) := by decide +kernel
theorem dX8_carries_125 : decode cX8_carries 125 = .ok (.getfield 119, 3) := by decide +kernel
theorem dX8_carries_128 : decode cX8_carries 128 = .ok (.iload 8, 2) := by decide +kernel
theorem dX8_carries_130 : decode cX8_carries 130 = .ok (.iconst 1, 1) := by decide +kernel
theorem dX8_carries_131 : decode cX8_carries 131 = .ok (.bastore, 1) := by decide +kernel
theorem dX8_carries_132 : decode cX8_carries 132 = .ok (.aload_n 0, 1) := by decide +kernel
theorem dX8_carries_133 : decode cX8_carries 133 = .ok (.getfield 122, 3) := by decide +kernel
theorem dX8_carries_136 : decode cX8_carries 136 = .ok (.iload 8, 2) := by decide +kernel
theorem dX8_carries_138 : decode cX8_carries 138 = .ok (.aload_n 0, 1) := by decide +kernel
theorem dX8_carries_139 : decode cX8_carries 139 = .ok (.getfield 122, 3) := by decide +kernel
theorem dX8_carries_142 : decode cX8_carries 142 = .ok (.iload 7, 2) := by decide +kernel
theorem dX8_carries_144 : decode cX8_carries 144 = .ok (.iaload, 1) := by decide +kernel
theorem dX8_carries_145 : decode cX8_carries 145 = .ok (.iastore, 1) := by decide +kernel
theorem dX8_carries_146 : decode cX8_carries 146 = .ok (.aload_n 0, 1) := by decide +kernel
theorem dX8_carries_147 : decode cX8_carries 147 = .ok (.getfield 125, 3) := by decide +kernel
theorem dX8_carries_150 : decode cX8_carries 150 = .ok (.iload 8, 2) := by decide +kernel
theorem dX8_carries_152 : decode cX8_carries 152 = .ok (.aload_n 0, 1) := by decide +kernel
theorem dX8_carries_153 : decode cX8_carries 153 = .ok (.getfield 125, 3) := by decide +kernel
theorem dX8_carries_156 : decode cX8_carries 156 = .ok (.iload 7, 2) := by decide +kernel
theorem dX8_carries_158 : decode cX8_carries 158 = .ok (.iaload, 1) := by decide +kernel
theorem dX8_carries_159 : decode cX8_carries 159 = .ok (.iastore, 1) := by decide +kernel
theorem dX8_carries_160 : decode cX8_carries 160 = .ok (.aload_n 0, 1) := by decide +kernel
theorem dX8_carries_161 : decode cX8_carries 161 = .ok (.getfield 128, 3) := by decide +kernel
theorem dX8_carries_164 : decode cX8_carries 164 = .ok (.iload 8, 2) := by decide +kernel
theorem dX8_carries_166 : decode cX8_carries 166 = .ok (.aload_n 0, 1) := by decide +kernel
theorem dX8_carries_167 : decode cX8_carries 167 = .ok (.getfield 128, 3) := by decide +kernel
theorem dX8_carries_170 : decode cX8_carries 170 = .ok (.iload 7, 2) := by decide +kernel
theorem dX8_carries_172 : decode cX8_carries 172 = .ok (.iaload, 1) := by decide +kernel
theorem dX8_carries_173 : decode cX8_carries 173 = .ok (.iastore, 1) := by decide +kernel
theorem dX8_carries_174 : decode cX8_carries 174 = .ok (.aload_n 0, 1) := by decide +kernel
theorem dX8_carries_175 : decode cX8_carries 175 = .ok (.dup, 1) := by decide +kernel
theorem dX8_carries_176 : decode cX8_carries 176 = .ok (.getfield 286, 3) := by decide +kernel
theorem dX8_carries_179 : decode cX8_carries 179 = .ok (.iconst 1, 1) := by decide +kernel
theorem dX8_carries_180 : decode cX8_carries 180 = .ok (.iadd, 1) := by decide +kernel
theorem dX8_carries_181 : decode cX8_carries 181 = .ok (.putfield 286, 3) := by decide +kernel
theorem dX8_carries_184 : decode cX8_carries 184 = .ok (.iinc 6 1, 3) := by decide +kernel
theorem dX8_carries_187 : decode cX8_carries 187 = .ok (.goto (-131), 3) := by decide +kernel
theorem dX8_carries_190 : decode cX8_carries 190 = .ok (.iconst 0, 1) := by decide +kernel
theorem dX8_carries_191 : decode cX8_carries 191 = .ok (.istore 6, 2) := by decide +kernel
theorem dX8_carries_193 : decode cX8_carries 193 = .ok (.iload 6, 2) := by decide +kernel
theorem dX8_carries_195 : decode cX8_carries 195 = .ok (.aload_n 0, 1) := by decide +kernel
theorem dX8_carries_196 : decode cX8_carries 196 = .ok (.getfield 170, 3) := by decide +kernel
theorem dX8_carries_199 : decode cX8_carries 199 = .ok (.if_icmp .ge 321, 3) := by decide +kernel
theorem dX8_carries_202 : decode cX8_carries 202 = .ok (.bipush 32, 2) := by decide +kernel
theorem dX8_carries_204 : decode cX8_carries 204 = .ok (.iload_n 2, 1) := by decide +kernel
theorem dX8_carries_205 : decode cX8_carries 205 = .ok (.imul, 1) := by decide +kernel
theorem dX8_carries_206 : decode cX8_carries 206 = .ok (.iload 6, 2) := by decide +kernel
theorem dX8_carries_208 : decode cX8_carries 208 = .ok (.iadd, 1) := by decide +kernel
theorem dX8_carries_209 : decode cX8_carries 209 = .ok (.istore 7, 2) := by decide +kernel
theorem dX8_carries_211 : decode cX8_carries 211 = .ok (.bipush 32, 2) := by decide +kernel
theorem dX8_carries_213 : decode cX8_carries 213 = .ok (.iload 5, 2) := by decide +kernel
theorem dX8_carries_215 : decode cX8_carries 215 = .ok (.imul, 1) := by decide +kernel
theorem dX8_carries_216 : decode cX8_carries 216 = .ok (.iload 6, 2) := by decide +kernel
theorem dX8_carries_218 : decode cX8_carries 218 = .ok (.iadd, 1) := by decide +kernel
theorem dX8_carries_219 : decode cX8_carries 219 = .ok (.istore 8, 2) := by decide +kernel
theorem dX8_carries_221 : decode cX8_carries 221 = .ok (.aload_n 0, 1) := by decide +kernel
theorem dX8_carries_222 : decode cX8_carries 222 = .ok (.getfield 131, 3) := by decide +kernel
theorem dX8_carries_225 : decode cX8_carries 225 = .ok (.iload 7, 2) := by decide +kernel
theorem dX8_carries_227 : decode cX8_carries 227 = .ok (.iaload, 1) := by decide +kernel
theorem dX8_carries_228 : decode cX8_carries 228 = .ok (.ifCond .le 79, 3) := by decide +kernel
theorem dX8_carries_231 : decode cX8_carries 231 = .ok (.aload_n 0, 1) := by decide +kernel
theorem dX8_carries_232 : decode cX8_carries 232 = .ok (.iload_n 1, 1) := by decide +kernel
theorem dX8_carries_233 : decode cX8_carries 233 = .ok (.aload_n 0, 1) := by decide +kernel
theorem dX8_carries_234 : decode cX8_carries 234 = .ok (.getfield 56, 3) := by decide +kernel
theorem dX8_carries_237 : decode cX8_carries 237 = .ok (.iload 6, 2) := by decide +kernel
theorem dX8_carries_239 : decode cX8_carries 239 = .ok (.iaload, 1) := by decide +kernel
theorem dX8_carries_240 : decode cX8_carries 240 = .ok (.aload_n 0, 1) := by decide +kernel
theorem dX8_carries_241 : decode cX8_carries 241 = .ok (.getfield 134, 3) := by decide +kernel
theorem dX8_carries_244 : decode cX8_carries 244 = .ok (.iload 7, 2) := by decide +kernel
theorem dX8_carries_246 : decode cX8_carries 246 = .ok (.iaload, 1) := by decide +kernel
theorem dX8_carries_247 : decode cX8_carries 247 = .ok (.iload 4, 2) := by decide +kernel
theorem dX8_carries_249 : decode cX8_carries 249 = .ok (.invokevirtual 283, 3) := by decide +kernel
theorem dX8_carries_252 : decode cX8_carries 252 = .ok (.ifCond .eq 55, 3) := by decide +kernel
theorem dX8_carries_255 : decode cX8_carries 255 = .ok (.aload_n 0, 1) := by decide +kernel
theorem dX8_carries_256 : decode cX8_carries 256 = .ok (.dup, 1) := by decide +kernel
theorem dX8_carries_257 : decode cX8_carries 257 = .ok (.getfield 286, 3) := by decide +kernel
theorem dX8_carries_260 : decode cX8_carries 260 = .ok (.aload_n 0, 1) := by decide +kernel
theorem dX8_carries_261 : decode cX8_carries 261 = .ok (.getfield 131, 3) := by decide +kernel
theorem dX8_carries_264 : decode cX8_carries 264 = .ok (.iload 8, 2) := by decide +kernel
theorem dX8_carries_266 : decode cX8_carries 266 = .ok (.iaload, 1) := by decide +kernel
theorem dX8_carries_267 : decode cX8_carries 267 = .ok (.ifCond .le 7, 3) := by decide +kernel
theorem dX8_carries_270 : decode cX8_carries 270 = .ok (.iconst 0, 1) := by decide +kernel
theorem dX8_carries_271 : decode cX8_carries 271 = .ok (.goto 4, 3) := by decide +kernel
theorem dX8_carries_274 : decode cX8_carries 274 = .ok (.iconst 1, 1) := by decide +kernel
theorem dX8_carries_275 : decode cX8_carries 275 = .ok (.iadd, 1) := by decide +kernel
theorem dX8_carries_276 : decode cX8_carries 276 = .ok (.putfield 286, 3) := by decide +kernel
theorem dX8_carries_279 : decode cX8_carries 279 = .ok (.aload_n 0, 1) := by decide +kernel
theorem dX8_carries_280 : decode cX8_carries 280 = .ok (.getfield 131, 3) := by decide +kernel
theorem dX8_carries_283 : decode cX8_carries 283 = .ok (.iload 8, 2) := by decide +kernel
theorem dX8_carries_285 : decode cX8_carries 285 = .ok (.aload_n 0, 1) := by decide +kernel
theorem dX8_carries_286 : decode cX8_carries 286 = .ok (.getfield 131, 3) := by decide +kernel
theorem dX8_carries_289 : decode cX8_carries 289 = .ok (.iload 7, 2) := by decide +kernel
theorem dX8_carries_291 : decode cX8_carries 291 = .ok (.iaload, 1) := by decide +kernel
theorem dX8_carries_292 : decode cX8_carries 292 = .ok (.iastore, 1) := by decide +kernel
theorem dX8_carries_293 : decode cX8_carries 293 = .ok (.aload_n 0, 1) := by decide +kernel
theorem dX8_carries_294 : decode cX8_carries 294 = .ok (.getfield 134, 3) := by decide +kernel
theorem dX8_carries_297 : decode cX8_carries 297 = .ok (.iload 8, 2) := by decide +kernel
theorem dX8_carries_299 : decode cX8_carries 299 = .ok (.aload_n 0, 1) := by decide +kernel
theorem dX8_carries_300 : decode cX8_carries 300 = .ok (.getfield 134, 3) := by decide +kernel
theorem dX8_carries_303 : decode cX8_carries 303 = .ok (.iload 7, 2) := by decide +kernel
theorem dX8_carries_305 : decode cX8_carries 305 = .ok (.iaload, 1) := by decide +kernel
theorem dX8_carries_306 : decode cX8_carries 306 = .ok (.iastore, 1) := by decide +kernel
theorem dX8_carries_307 : decode cX8_carries 307 = .ok (.aload_n 0, 1) := by decide +kernel
theorem dX8_carries_308 : decode cX8_carries 308 = .ok (.getfield 137, 3) := by decide +kernel
theorem dX8_carries_311 : decode cX8_carries 311 = .ok (.iload 7, 2) := by decide +kernel
theorem dX8_carries_313 : decode cX8_carries 313 = .ok (.baload, 1) := by decide +kernel
theorem dX8_carries_314 : decode cX8_carries 314 = .ok (.ifCond .eq 73, 3) := by decide +kernel
theorem dX8_carries_317 : decode cX8_carries 317 = .ok (.aload_n 0, 1) := by decide +kernel
theorem dX8_carries_318 : decode cX8_carries 318 = .ok (.iload_n 1, 1) := by decide +kernel
theorem dX8_carries_319 : decode cX8_carries 319 = .ok (.aload_n 0, 1) := by decide +kernel
theorem dX8_carries_320 : decode cX8_carries 320 = .ok (.getfield 56, 3) := by decide +kernel
theorem dX8_carries_323 : decode cX8_carries 323 = .ok (.iload 6, 2) := by decide +kernel
theorem dX8_carries_325 : decode cX8_carries 325 = .ok (.iaload, 1) := by decide +kernel
theorem dX8_carries_326 : decode cX8_carries 326 = .ok (.aload_n 0, 1) := by decide +kernel
theorem dX8_carries_327 : decode cX8_carries 327 = .ok (.getfield 140, 3) := by decide +kernel
theorem dX8_carries_330 : decode cX8_carries 330 = .ok (.iload 7, 2) := by decide +kernel
theorem dX8_carries_332 : decode cX8_carries 332 = .ok (.iaload, 1) := by decide +kernel
theorem dX8_carries_333 : decode cX8_carries 333 = .ok (.iload 4, 2) := by decide +kernel
theorem dX8_carries_335 : decode cX8_carries 335 = .ok (.invokevirtual 283, 3) := by decide +kernel
theorem dX8_carries_338 : decode cX8_carries 338 = .ok (.ifCond .eq 49, 3) := by decide +kernel
theorem dX8_carries_341 : decode cX8_carries 341 = .ok (.aload_n 0, 1) := by decide +kernel
theorem dX8_carries_342 : decode cX8_carries 342 = .ok (.dup, 1) := by decide +kernel
theorem dX8_carries_343 : decode cX8_carries 343 = .ok (.getfield 286, 3) := by decide +kernel
theorem dX8_carries_346 : decode cX8_carries 346 = .ok (.aload_n 0, 1) := by decide +kernel
theorem dX8_carries_347 : decode cX8_carries 347 = .ok (.getfield 137, 3) := by decide +kernel
theorem dX8_carries_350 : decode cX8_carries 350 = .ok (.iload 8, 2) := by decide +kernel
theorem dX8_carries_352 : decode cX8_carries 352 = .ok (.baload, 1) := by decide +kernel
theorem dX8_carries_353 : decode cX8_carries 353 = .ok (.ifCond .eq 7, 3) := by decide +kernel
theorem dX8_carries_356 : decode cX8_carries 356 = .ok (.iconst 0, 1) := by decide +kernel
theorem dX8_carries_357 : decode cX8_carries 357 = .ok (.goto 4, 3) := by decide +kernel
theorem dX8_carries_360 : decode cX8_carries 360 = .ok (.iconst 1, 1) := by decide +kernel
theorem dX8_carries_361 : decode cX8_carries 361 = .ok (.iadd, 1) := by decide +kernel
theorem dX8_carries_362 : decode cX8_carries 362 = .ok (.putfield 286, 3) := by decide +kernel
theorem dX8_carries_365 : decode cX8_carries 365 = .ok (.aload_n 0, 1) := by decide +kernel
theorem dX8_carries_366 : decode cX8_carries 366 = .ok (.getfield 137, 3) := by decide +kernel
theorem dX8_carries_369 : decode cX8_carries 369 = .ok (.iload 8, 2) := by decide +kernel
theorem dX8_carries_371 : decode cX8_carries 371 = .ok (.iconst 1, 1) := by decide +kernel
theorem dX8_carries_372 : decode cX8_carries 372 = .ok (.bastore, 1) := by decide +kernel
theorem dX8_carries_373 : decode cX8_carries 373 = .ok (.aload_n 0, 1) := by decide +kernel
theorem dX8_carries_374 : decode cX8_carries 374 = .ok (.getfield 140, 3) := by decide +kernel
theorem dX8_carries_377 : decode cX8_carries 377 = .ok (.iload 8, 2) := by decide +kernel
theorem dX8_carries_379 : decode cX8_carries 379 = .ok (.aload_n 0, 1) := by decide +kernel
theorem dX8_carries_380 : decode cX8_carries 380 = .ok (.getfield 140, 3) := by decide +kernel
theorem dX8_carries_383 : decode cX8_carries 383 = .ok (.iload 7, 2) := by decide +kernel
theorem dX8_carries_385 : decode cX8_carries 385 = .ok (.iaload, 1) := by decide +kernel
theorem dX8_carries_386 : decode cX8_carries 386 = .ok (.iastore, 1) := by decide +kernel
theorem dX8_carries_387 : decode cX8_carries 387 = .ok (.aload_n 0, 1) := by decide +kernel
theorem dX8_carries_388 : decode cX8_carries 388 = .ok (.getfield 143, 3) := by decide +kernel
theorem dX8_carries_391 : decode cX8_carries 391 = .ok (.iload 7, 2) := by decide +kernel
theorem dX8_carries_393 : decode cX8_carries 393 = .ok (.iaload, 1) := by decide +kernel
theorem dX8_carries_394 : decode cX8_carries 394 = .ok (.ifCond .le 120, 3) := by decide +kernel
theorem dX8_carries_397 : decode cX8_carries 397 = .ok (.aload_n 0, 1) := by decide +kernel
theorem dX8_carries_398 : decode cX8_carries 398 = .ok (.getfield 149, 3) := by decide +kernel
theorem dX8_carries_401 : decode cX8_carries 401 = .ok (.iload 7, 2) := by decide +kernel
theorem dX8_carries_403 : decode cX8_carries 403 = .ok (.iaload, 1) := by decide +kernel
theorem dX8_carries_404 : decode cX8_carries 404 = .ok (.iconst 1, 1) := by decide +kernel
theorem dX8_carries_405 : decode cX8_carries 405 = .ok (.if_icmp .le 109, 3) := by decide +kernel
theorem dX8_carries_408 : decode cX8_carries 408 = .ok (.aload_n 0, 1) := by decide +kernel
theorem dX8_carries_409 : decode cX8_carries 409 = .ok (.iload_n 1, 1) := by decide +kernel
theorem dX8_carries_410 : decode cX8_carries 410 = .ok (.aload_n 0, 1) := by decide +kernel
theorem dX8_carries_411 : decode cX8_carries 411 = .ok (.getfield 56, 3) := by decide +kernel
theorem dX8_carries_414 : decode cX8_carries 414 = .ok (.iload 6, 2) := by decide +kernel
theorem dX8_carries_416 : decode cX8_carries 416 = .ok (.iaload, 1) := by decide +kernel
theorem dX8_carries_417 : decode cX8_carries 417 = .ok (.aload_n 0, 1) := by decide +kernel
theorem dX8_carries_418 : decode cX8_carries 418 = .ok (.getfield 152, 3) := by decide +kernel
theorem dX8_carries_421 : decode cX8_carries 421 = .ok (.iload 7, 2) := by decide +kernel
theorem dX8_carries_423 : decode cX8_carries 423 = .ok (.iaload, 1) := by decide +kernel
theorem dX8_carries_424 : decode cX8_carries 424 = .ok (.iload 4, 2) := by decide +kernel
theorem dX8_carries_426 : decode cX8_carries 426 = .ok (.invokevirtual 283, 3) := by decide +kernel
theorem dX8_carries_429 : decode cX8_carries 429 = .ok (.ifCond .eq 85, 3) := by decide +kernel
theorem dX8_carries_432 : decode cX8_carries 432 = .ok (.aload_n 0, 1) := by decide +kernel
theorem dX8_carries_433 : decode cX8_carries 433 = .ok (.dup, 1) := by decide +kernel
theorem dX8_carries_434 : decode cX8_carries 434 = .ok (.getfield 286, 3) := by decide +kernel
theorem dX8_carries_437 : decode cX8_carries 437 = .ok (.aload_n 0, 1) := by decide +kernel
theorem dX8_carries_438 : decode cX8_carries 438 = .ok (.getfield 143, 3) := by decide +kernel
theorem dX8_carries_441 : decode cX8_carries 441 = .ok (.iload 8, 2) := by decide +kernel
theorem dX8_carries_443 : decode cX8_carries 443 = .ok (.iaload, 1) := by decide +kernel
theorem dX8_carries_444 : decode cX8_carries 444 = .ok (.ifCond .le 7, 3) := by decide +kernel
theorem dX8_carries_447 : decode cX8_carries 447 = .ok (.iconst 0, 1) := by decide +kernel
theorem dX8_carries_448 : decode cX8_carries 448 = .ok (.goto 4, 3) := by decide +kernel
theorem dX8_carries_451 : decode cX8_carries 451 = .ok (.iconst 1, 1) := by decide +kernel
theorem dX8_carries_452 : decode cX8_carries 452 = .ok (.iadd, 1) := by decide +kernel
theorem dX8_carries_453 : decode cX8_carries 453 = .ok (.putfield 286, 3) := by decide +kernel
theorem dX8_carries_456 : decode cX8_carries 456 = .ok (.aload_n 0, 1) := by decide +kernel
theorem dX8_carries_457 : decode cX8_carries 457 = .ok (.getfield 143, 3) := by decide +kernel
theorem dX8_carries_460 : decode cX8_carries 460 = .ok (.iload 8, 2) := by decide +kernel
theorem dX8_carries_462 : decode cX8_carries 462 = .ok (.aload_n 0, 1) := by decide +kernel
theorem dX8_carries_463 : decode cX8_carries 463 = .ok (.getfield 143, 3) := by decide +kernel
theorem dX8_carries_466 : decode cX8_carries 466 = .ok (.iload 7, 2) := by decide +kernel
theorem dX8_carries_468 : decode cX8_carries 468 = .ok (.iaload, 1) := by decide +kernel
theorem dX8_carries_469 : decode cX8_carries 469 = .ok (.iastore, 1) := by decide +kernel
theorem dX8_carries_470 : decode cX8_carries 470 = .ok (.aload_n 0, 1) := by decide +kernel
theorem dX8_carries_471 : decode cX8_carries 471 = .ok (.getfield 146, 3) := by decide +kernel
theorem dX8_carries_474 : decode cX8_carries 474 = .ok (.iload 8, 2) := by decide +kernel
theorem dX8_carries_476 : decode cX8_carries 476 = .ok (.aload_n 0, 1) := by decide +kernel
theorem dX8_carries_477 : decode cX8_carries 477 = .ok (.getfield 146, 3) := by decide +kernel
theorem dX8_carries_480 : decode cX8_carries 480 = .ok (.iload 7, 2) := by decide +kernel
theorem dX8_carries_482 : decode cX8_carries 482 = .ok (.iaload, 1) := by decide +kernel
theorem dX8_carries_483 : decode cX8_carries 483 = .ok (.iastore, 1) := by decide +kernel
theorem dX8_carries_484 : decode cX8_carries 484 = .ok (.aload_n 0, 1) := by decide +kernel
theorem dX8_carries_485 : decode cX8_carries 485 = .ok (.getfield 149, 3) := by decide +kernel
theorem dX8_carries_488 : decode cX8_carries 488 = .ok (.iload 8, 2) := by decide +kernel
theorem dX8_carries_490 : decode cX8_carries 490 = .ok (.aload_n 0, 1) := by decide +kernel
theorem dX8_carries_491 : decode cX8_carries 491 = .ok (.getfield 149, 3) := by decide +kernel
theorem dX8_carries_494 : decode cX8_carries 494 = .ok (.iload 7, 2) := by decide +kernel
theorem dX8_carries_496 : decode cX8_carries 496 = .ok (.iaload, 1) := by decide +kernel
theorem dX8_carries_497 : decode cX8_carries 497 = .ok (.iconst 1, 1) := by decide +kernel
theorem dX8_carries_498 : decode cX8_carries 498 = .ok (.isub, 1) := by decide +kernel
theorem dX8_carries_499 : decode cX8_carries 499 = .ok (.iastore, 1) := by decide +kernel
theorem dX8_carries_500 : decode cX8_carries 500 = .ok (.aload_n 0, 1) := by decide +kernel
theorem dX8_carries_501 : decode cX8_carries 501 = .ok (.getfield 152, 3) := by decide +kernel
theorem dX8_carries_504 : decode cX8_carries 504 = .ok (.iload 8, 2) := by decide +kernel
theorem dX8_carries_506 : decode cX8_carries 506 = .ok (.aload_n 0, 1) := by decide +kernel
theorem dX8_carries_507 : decode cX8_carries 507 = .ok (.getfield 152, 3) := by decide +kernel
theorem dX8_carries_510 : decode cX8_carries 510 = .ok (.iload 7, 2) := by decide +kernel
theorem dX8_carries_512 : decode cX8_carries 512 = .ok (.iaload, 1) := by decide +kernel
theorem dX8_carries_513 : decode cX8_carries 513 = .ok (.iastore, 1) := by decide +kernel
theorem dX8_carries_514 : decode cX8_carries 514 = .ok (.iinc 6 1, 3) := by decide +kernel
theorem dX8_carries_517 : decode cX8_carries 517 = .ok (.goto (-324), 3) := by decide +kernel
theorem dX8_carries_520 : decode cX8_carries 520 = .ok (.return_, 1) := by decide +kernel
theorem dX8_hears_0 : decode cX8_hears 0 = .ok (.iconst 0, 1) := by decide +kernel
theorem dX8_hears_1 : decode cX8_hears 1 = .ok (.istore 4, 2) := by decide +kernel
theorem dX8_hears_3 : decode cX8_hears 3 = .ok (.iload 4, 2) := by decide +kernel
theorem dX8_hears_5 : decode cX8_hears 5 = .ok (.bipush 16, 2) := by decide +kernel
theorem dX8_hears_7 : decode cX8_hears 7 = .ok (.if_icmp .ge 33, 3) := by decide +kernel
theorem dX8_hears_10 : decode cX8_hears 10 = .ok (.aload_n 0, 1) := by decide +kernel
theorem dX8_hears_11 : decode cX8_hears 11 = .ok (.getfield 119, 3) := by decide +kernel
theorem dX8_hears_14 : decode cX8_hears 14 = .ok (.bipush 16, 2) := by decide +kernel
theorem dX8_hears_16 : decode cX8_hears 16 = .ok (.iload_n 2, 1) := by decide +kernel
theorem dX8_hears_17 : decode cX8_hears 17 = .ok (.imul, 1) := by decide +kernel
theorem dX8_hears_18 : decode cX8_hears 18 = .ok (.iload 4, 2) := by decide +kernel
theorem dX8_hears_20 : decode cX8_hears 20 = .ok (.iadd, 1) := by decide +kernel
theorem dX8_hears_21 : decode cX8_hears 21 = .ok (.baload, 1) := by decide +kernel
theorem dX8_hears_22 : decode cX8_hears 22 = .ok (.ifCond .eq 12, 3) := by decide +kernel
theorem dX8_hears_25 : decode cX8_hears 25 = .ok (.aload_n 0, 1) := by decide +kernel
theorem dX8_hears_26 : decode cX8_hears 26 = .ok (.iload_n 1, 1) := by decide +kernel
theorem dX8_hears_27 : decode cX8_hears 27 = .ok (.iload_n 2, 1) := by decide +kernel
theorem dX8_hears_28 : decode cX8_hears 28 = .ok (.iload 4, 2) := by decide +kernel
theorem dX8_hears_30 : decode cX8_hears 30 = .ok (.iload_n 3, 1) := by decide +kernel
theorem dX8_hears_31 : decode cX8_hears 31 = .ok (.invokevirtual 289, 3) := by decide +kernel
theorem dX8_hears_34 : decode cX8_hears 34 = .ok (.iinc 4 1, 3) := by decide +kernel
theorem dX8_hears_37 : decode cX8_hears 37 = .ok (.goto (-34), 3) := by decide +kernel
theorem dX8_hears_40 : decode cX8_hears 40 = .ok (.iconst 0, 1) := by decide +kernel
theorem dX8_hears_41 : decode cX8_hears 41 = .ok (.istore 4, 2) := by decide +kernel
theorem dX8_hears_43 : decode cX8_hears 43 = .ok (.iload 4, 2) := by decide +kernel
theorem dX8_hears_45 : decode cX8_hears 45 = .ok (.aload_n 0, 1) := by decide +kernel
theorem dX8_hears_46 : decode cX8_hears 46 = .ok (.getfield 170, 3) := by decide +kernel
theorem dX8_hears_49 : decode cX8_hears 49 = .ok (.if_icmp .ge 44, 3) := by decide +kernel
theorem dX8_hears_52 : decode cX8_hears 52 = .ok (.aload_n 0, 1) := by decide +kernel
theorem dX8_hears_53 : decode cX8_hears 53 = .ok (.getfield 131, 3) := by decide +kernel
theorem dX8_hears_56 : decode cX8_hears 56 = .ok (.bipush 32, 2) := by decide +kernel
theorem dX8_hears_58 : decode cX8_hears 58 = .ok (.iload_n 2, 1) := by decide +kernel
theorem dX8_hears_59 : decode cX8_hears 59 = .ok (.imul, 1) := by decide +kernel
theorem dX8_hears_60 : decode cX8_hears 60 = .ok (.iload 4, 2) := by decide +kernel
theorem dX8_hears_62 : decode cX8_hears 62 = .ok (.iadd, 1) := by decide +kernel
theorem dX8_hears_63 : decode cX8_hears 63 = .ok (.iaload, 1) := by decide +kernel
theorem dX8_hears_64 : decode cX8_hears 64 = .ok (.ifCond .le 23, 3) := by decide +kernel
theorem dX8_hears_67 : decode cX8_hears 67 = .ok (.aload_n 0, 1) := by decide +kernel
theorem dX8_hears_68 : decode cX8_hears 68 = .ok (.iload_n 1, 1) := by decide +kernel
theorem dX8_hears_69 : decode cX8_hears 69 = .ok (.iload 4, 2) := by decide +kernel
theorem dX8_hears_71 : decode cX8_hears 71 = .ok (.aload_n 0, 1) := by decide +kernel
theorem dX8_hears_72 : decode cX8_hears 72 = .ok (.getfield 131, 3) := by decide +kernel
theorem dX8_hears_75 : decode cX8_hears 75 = .ok (.bipush 32, 2) := by decide +kernel
theorem dX8_hears_77 : decode cX8_hears 77 = .ok (.iload_n 2, 1) := by decide +kernel
theorem dX8_hears_78 : decode cX8_hears 78 = .ok (.imul, 1) := by decide +kernel
theorem dX8_hears_79 : decode cX8_hears 79 = .ok (.iload 4, 2) := by decide +kernel
theorem dX8_hears_81 : decode cX8_hears 81 = .ok (.iadd, 1) := by decide +kernel
theorem dX8_hears_82 : decode cX8_hears 82 = .ok (.iaload, 1) := by decide +kernel
theorem dX8_hears_83 : decode cX8_hears 83 = .ok (.iload_n 3, 1) := by decide +kernel
theorem dX8_hears_84 : decode cX8_hears 84 = .ok (.invokevirtual 293, 3) := by decide +kernel
theorem dX8_hears_87 : decode cX8_hears 87 = .ok (.iinc 4 1, 3) := by decide +kernel
theorem dX8_hears_90 : decode cX8_hears 90 = .ok (.goto (-47), 3) := by decide +kernel
theorem dX8_hears_93 : decode cX8_hears 93 = .ok (.iconst 0, 1) := by decide +kernel
theorem dX8_hears_94 : decode cX8_hears 94 = .ok (.istore 4, 2) := by decide +kernel
theorem dX8_hears_96 : decode cX8_hears 96 = .ok (.iload 4, 2) := by decide +kernel
theorem dX8_hears_98 : decode cX8_hears 98 = .ok (.aload_n 0, 1) := by decide +kernel
theorem dX8_hears_99 : decode cX8_hears 99 = .ok (.getfield 170, 3) := by decide +kernel
theorem dX8_hears_102 : decode cX8_hears 102 = .ok (.if_icmp .ge 37, 3) := by decide +kernel
theorem dX8_hears_105 : decode cX8_hears 105 = .ok (.aload_n 0, 1) := by decide +kernel
theorem dX8_hears_106 : decode cX8_hears 106 = .ok (.getfield 137, 3) := by decide +kernel
theorem dX8_hears_109 : decode cX8_hears 109 = .ok (.bipush 32, 2) := by decide +kernel
theorem dX8_hears_111 : decode cX8_hears 111 = .ok (.iload_n 2, 1) := by decide +kernel
theorem dX8_hears_112 : decode cX8_hears 112 = .ok (.imul, 1) := by decide +kernel
theorem dX8_hears_113 : decode cX8_hears 113 = .ok (.iload 4, 2) := by decide +kernel
theorem dX8_hears_115 : decode cX8_hears 115 = .ok (.iadd, 1) := by decide +kernel
theorem dX8_hears_116 : decode cX8_hears 116 = .ok (.baload, 1) := by decide +kernel
theorem dX8_hears_117 : decode cX8_hears 117 = .ok (.ifCond .eq 16, 3) := by decide +kernel
theorem dX8_hears_120 : decode cX8_hears 120 = .ok (.aload_n 0, 1) := by decide +kernel
theorem dX8_hears_121 : decode cX8_hears 121 = .ok (.getfield 86, 3) := by decide +kernel
theorem dX8_hears_124 : decode cX8_hears 124 = .ok (.bipush 32, 2) := by decide +kernel
theorem dX8_hears_126 : decode cX8_hears 126 = .ok (.iload_n 1, 1) := by decide +kernel
theorem dX8_hears_127 : decode cX8_hears 127 = .ok (.imul, 1) := by decide +kernel
theorem dX8_hears_128 : decode cX8_hears 128 = .ok (.iload 4, 2) := by decide +kernel
theorem dX8_hears_130 : decode cX8_hears 130 = .ok (.iadd, 1) := by decide +kernel
theorem dX8_hears_131 : decode cX8_hears 131 = .ok (.iconst 0, 1) := by decide +kernel
theorem dX8_hears_132 : decode cX8_hears 132 = .ok (.bastore, 1) := by decide +kernel
theorem dX8_hears_133 : decode cX8_hears 133 = .ok (.iinc 4 1, 3) := by decide +kernel
theorem dX8_hears_136 : decode cX8_hears 136 = .ok (.goto (-40), 3) := by decide +kernel
theorem dX8_hears_139 : decode cX8_hears 139 = .ok (.iconst 0, 1) := by decide +kernel
theorem dX8_hears_140 : decode cX8_hears 140 = .ok (.istore 4, 2) := by decide +kernel
theorem dX8_hears_142 : decode cX8_hears 142 = .ok (.iload 4, 2) := by decide +kernel
theorem dX8_hears_144 : decode cX8_hears 144 = .ok (.aload_n 0, 1) := by decide +kernel
theorem dX8_hears_145 : decode cX8_hears 145 = .ok (.getfield 170, 3) := by decide +kernel
theorem dX8_hears_148 : decode cX8_hears 148 = .ok (.if_icmp .ge 39, 3) := by decide +kernel
theorem dX8_hears_151 : decode cX8_hears 151 = .ok (.aload_n 0, 1) := by decide +kernel
theorem dX8_hears_152 : decode cX8_hears 152 = .ok (.getfield 143, 3) := by decide +kernel
theorem dX8_hears_155 : decode cX8_hears 155 = .ok (.bipush 32, 2) := by decide +kernel
theorem dX8_hears_157 : decode cX8_hears 157 = .ok (.iload_n 2, 1) := by decide +kernel
theorem dX8_hears_158 : decode cX8_hears 158 = .ok (.imul, 1) := by decide +kernel
theorem dX8_hears_159 : decode cX8_hears 159 = .ok (.iload 4, 2) := by decide +kernel
theorem dX8_hears_161 : decode cX8_hears 161 = .ok (.iadd, 1) := by decide +kernel
theorem dX8_hears_162 : decode cX8_hears 162 = .ok (.iaload, 1) := by decide +kernel
theorem dX8_hears_163 : decode cX8_hears 163 = .ok (.ifCond .le 18, 3) := by decide +kernel
theorem dX8_hears_166 : decode cX8_hears 166 = .ok (.aload_n 0, 1) := by decide +kernel
theorem dX8_hears_167 : decode cX8_hears 167 = .ok (.iload_n 1, 1) := by decide +kernel
theorem dX8_hears_168 : decode cX8_hears 168 = .ok (.iload 4, 2) := by decide +kernel
theorem dX8_hears_170 : decode cX8_hears 170 = .ok (.bipush 32, 2) := by decide +kernel
theorem dX8_hears_172 : decode cX8_hears 172 = .ok (.iload_n 2, 1) := by decide +kernel
theorem dX8_hears_173 : decode cX8_hears 173 = .ok (.imul, 1) := by decide +kernel
theorem dX8_hears_174 : decode cX8_hears 174 = .ok (.iload 4, 2) := by decide +kernel
theorem dX8_hears_176 : decode cX8_hears 176 = .ok (.iadd, 1) := by decide +kernel
theorem dX8_hears_177 : decode cX8_hears 177 = .ok (.iload_n 3, 1) := by decide +kernel
theorem dX8_hears_178 : decode cX8_hears 178 = .ok (.invokevirtual 296, 3) := by decide +kernel
theorem dX8_hears_181 : decode cX8_hears 181 = .ok (.iinc 4 1, 3) := by decide +kernel
theorem dX8_hears_184 : decode cX8_hears 184 = .ok (.goto (-42), 3) := by decide +kernel
theorem dX8_hears_187 : decode cX8_hears 187 = .ok (.return_, 1) := by decide +kernel
theorem dX8_keeperOn_0 : decode cX8_keeperOn 0 = .ok (.iconst 0, 1) := by decide +kernel
theorem dX8_keeperOn_1 : decode cX8_keeperOn 1 = .ok (.istore_n 3, 1) := by decide +kernel
theorem dX8_keeperOn_2 : decode cX8_keeperOn 2 = .ok (.iload_n 3, 1) := by decide +kernel
theorem dX8_keeperOn_3 : decode cX8_keeperOn 3 = .ok (.aload_n 0, 1) := by decide +kernel
theorem dX8_keeperOn_4 : decode cX8_keeperOn 4 = .ok (.getfield 155, 3) := by decide +kernel
theorem dX8_keeperOn_7 : decode cX8_keeperOn 7 = .ok (.if_icmp .ge 45, 3) := by decide +kernel
theorem dX8_keeperOn_10 : decode cX8_keeperOn 10 = .ok (.iload_n 3, 1) := by decide +kernel
theorem dX8_keeperOn_11 : decode cX8_keeperOn 11 = .ok (.iload_n 2, 1) := by decide +kernel
theorem dX8_keeperOn_12 : decode cX8_keeperOn 12 = .ok (.if_icmp .eq 34, 3) := by decide +kernel
theorem dX8_keeperOn_15 : decode cX8_keeperOn 15 = .ok (.aload_n 0, 1) := by decide +kernel
theorem dX8_keeperOn_16 : decode cX8_keeperOn 16 = .ok (.getfield 25, 3) := by decide +kernel
theorem dX8_keeperOn_19 : decode cX8_keeperOn 19 = .ok (.iload_n 3, 1) := by decide +kernel
theorem dX8_keeperOn_20 : decode cX8_keeperOn 20 = .ok (.iaload, 1) := by decide +kernel
theorem dX8_keeperOn_21 : decode cX8_keeperOn 21 = .ok (.iconst 2, 1) := by decide +kernel
theorem dX8_keeperOn_22 : decode cX8_keeperOn 22 = .ok (.if_icmp .ne 24, 3) := by decide +kernel
theorem dX8_keeperOn_25 : decode cX8_keeperOn 25 = .ok (.aload_n 0, 1) := by decide +kernel
theorem dX8_keeperOn_26 : decode cX8_keeperOn 26 = .ok (.getfield 32, 3) := by decide +kernel
theorem dX8_keeperOn_29 : decode cX8_keeperOn 29 = .ok (.iload_n 3, 1) := by decide +kernel
theorem dX8_keeperOn_30 : decode cX8_keeperOn 30 = .ok (.baload, 1) := by decide +kernel
theorem dX8_keeperOn_31 : decode cX8_keeperOn 31 = .ok (.ifCond .eq 15, 3) := by decide +kernel
theorem dX8_keeperOn_34 : decode cX8_keeperOn 34 = .ok (.aload_n 0, 1) := by decide +kernel
theorem dX8_keeperOn_35 : decode cX8_keeperOn 35 = .ok (.getfield 9, 3) := by decide +kernel
theorem dX8_keeperOn_38 : decode cX8_keeperOn 38 = .ok (.iload_n 3, 1) := by decide +kernel
theorem dX8_keeperOn_39 : decode cX8_keeperOn 39 = .ok (.iaload, 1) := by decide +kernel
theorem dX8_keeperOn_40 : decode cX8_keeperOn 40 = .ok (.iload_n 1, 1) := by decide +kernel
theorem dX8_keeperOn_41 : decode cX8_keeperOn 41 = .ok (.if_icmp .ne 5, 3) := by decide +kernel
theorem dX8_keeperOn_44 : decode cX8_keeperOn 44 = .ok (.iload_n 3, 1) := by decide +kernel
theorem dX8_keeperOn_45 : decode cX8_keeperOn 45 = .ok (.ireturn, 1) := by decide +kernel
theorem dX8_keeperOn_46 : decode cX8_keeperOn 46 = .ok (.iinc 3 1, 3) := by decide +kernel
theorem dX8_keeperOn_49 : decode cX8_keeperOn 49 = .ok (.goto (-47), 3) := by decide +kernel
theorem dX8_keeperOn_52 : decode cX8_keeperOn 52 = .ok (.iconst (-1), 1) := by decide +kernel
theorem dX8_keeperOn_53 : decode cX8_keeperOn 53 = .ok (.ireturn, 1) := by decide +kernel
theorem dX8_hearsAsk_0 : decode cX8_hearsAsk 0 = .ok (.bipush 16, 2) := by decide +kernel
theorem dX8_hearsAsk_2 : decode cX8_hearsAsk 2 = .ok (.iload_n 2, 1) := by decide +kernel
theorem dX8_hearsAsk_3 : decode cX8_hearsAsk 3 = .ok (.imul, 1) := by decide +kernel
theorem dX8_hearsAsk_4 : decode cX8_hearsAsk 4 = .ok (.iload_n 3, 1) := by decide +kernel
theorem dX8_hearsAsk_5 : decode cX8_hearsAsk 5 = .ok (.iadd, 1) := by decide +kernel
theorem dX8_hearsAsk_6 : decode cX8_hearsAsk 6 = .ok (.istore 5, 2) := by decide +kernel
theorem dX8_hearsAsk_8 : decode cX8_hearsAsk 8 = .ok (.bipush 16, 2) := by decide +kernel
theorem dX8_hearsAsk_10 : decode cX8_hearsAsk 10 = .ok (.iload_n 1, 1) := by decide +kernel
theorem dX8_hearsAsk_11 : decode cX8_hearsAsk 11 = .ok (.imul, 1) := by decide +kernel
theorem dX8_hearsAsk_12 : decode cX8_hearsAsk 12 = .ok (.iload_n 3, 1) := by decide +kernel
theorem dX8_hearsAsk_13 : decode cX8_hearsAsk 13 = .ok (.iadd, 1) := by decide +kernel
theorem dX8_hearsAsk_14 : decode cX8_hearsAsk 14 = .ok (.istore 6, 2) := by decide +kernel
theorem dX8_hearsAsk_16 : decode cX8_hearsAsk 16 = .ok (.aload_n 0, 1) := by decide +kernel
theorem dX8_hearsAsk_17 : decode cX8_hearsAsk 17 = .ok (.getfield 104, 3) := by decide +kernel
theorem dX8_hearsAsk_20 : decode cX8_hearsAsk 20 = .ok (.iload 6, 2) := by decide +kernel
theorem dX8_hearsAsk_22 : decode cX8_hearsAsk 22 = .ok (.baload, 1) := by decide +kernel
theorem dX8_hearsAsk_23 : decode cX8_hearsAsk 23 = .ok (.ifCond .eq 49, 3) := by decide +kernel
theorem dX8_hearsAsk_26 : decode cX8_hearsAsk 26 = .ok (.aload_n 0, 1) := by decide +kernel
theorem dX8_hearsAsk_27 : decode cX8_hearsAsk 27 = .ok (.getfield 107, 3) := by decide +kernel
theorem dX8_hearsAsk_30 : decode cX8_hearsAsk 30 = .ok (.iload 6, 2) := by decide +kernel
theorem dX8_hearsAsk_32 : decode cX8_hearsAsk 32 = .ok (.iaload, 1) := by decide +kernel
theorem dX8_hearsAsk_33 : decode cX8_hearsAsk 33 = .ok (.aload_n 0, 1) := by decide +kernel
theorem dX8_hearsAsk_34 : decode cX8_hearsAsk 34 = .ok (.getfield 122, 3) := by decide +kernel
theorem dX8_hearsAsk_37 : decode cX8_hearsAsk 37 = .ok (.iload 5, 2) := by decide +kernel
theorem dX8_hearsAsk_39 : decode cX8_hearsAsk 39 = .ok (.iaload, 1) := by decide +kernel
theorem dX8_hearsAsk_40 : decode cX8_hearsAsk 40 = .ok (.if_icmp .ne 32, 3) := by decide +kernel
theorem dX8_hearsAsk_43 : decode cX8_hearsAsk 43 = .ok (.aload_n 0, 1) := by decide +kernel
theorem dX8_hearsAsk_44 : decode cX8_hearsAsk 44 = .ok (.getfield 125, 3) := by decide +kernel
theorem dX8_hearsAsk_47 : decode cX8_hearsAsk 47 = .ok (.iload 5, 2) := by decide +kernel
theorem dX8_hearsAsk_49 : decode cX8_hearsAsk 49 = .ok (.iaload, 1) := by decide +kernel
theorem dX8_hearsAsk_50 : decode cX8_hearsAsk 50 = .ok (.aload_n 0, 1) := by decide +kernel
theorem dX8_hearsAsk_51 : decode cX8_hearsAsk 51 = .ok (.iload_n 1, 1) := by decide +kernel
theorem dX8_hearsAsk_52 : decode cX8_hearsAsk 52 = .ok (.iload_n 3, 1) := by decide +kernel
theorem dX8_hearsAsk_53 : decode cX8_hearsAsk 53 = .ok (.iload 4, 2) := by decide +kernel
theorem dX8_hearsAsk_55 : decode cX8_hearsAsk 55 = .ok (.invokevirtual 266, 3) := by decide +kernel
theorem dX8_hearsAsk_58 : decode cX8_hearsAsk 58 = .ok (.iconst (-1), 1) := by decide +kernel
theorem dX8_hearsAsk_59 : decode cX8_hearsAsk 59 = .ok (.ixor, 1) := by decide +kernel
theorem dX8_hearsAsk_60 : decode cX8_hearsAsk 60 = .ok (.iand, 1) := by decide +kernel
theorem dX8_hearsAsk_61 : decode cX8_hearsAsk 61 = .ok (.ifCond .ne 11, 3) := by decide +kernel
theorem dX8_hearsAsk_64 : decode cX8_hearsAsk 64 = .ok (.aload_n 0, 1) := by decide +kernel
theorem dX8_hearsAsk_65 : decode cX8_hearsAsk 65 = .ok (.getfield 104, 3) := by decide +kernel
theorem dX8_hearsAsk_68 : decode cX8_hearsAsk 68 = .ok (.iload 6, 2) := by decide +kernel
theorem dX8_hearsAsk_70 : decode cX8_hearsAsk 70 = .ok (.iconst 0, 1) := by decide +kernel
theorem dX8_hearsAsk_71 : decode cX8_hearsAsk 71 = .ok (.bastore, 1) := by decide +kernel
theorem dX8_hearsAsk_72 : decode cX8_hearsAsk 72 = .ok (.aload_n 0, 1) := by decide +kernel
theorem dX8_hearsAsk_73 : decode cX8_hearsAsk 73 = .ok (.aload_n 0, 1) := by decide +kernel
theorem dX8_hearsAsk_74 : decode cX8_hearsAsk 74 = .ok (.getfield 116, 3) := by decide +kernel
theorem dX8_hearsAsk_77 : decode cX8_hearsAsk 77 = .ok (.iload_n 2, 1) := by decide +kernel
theorem dX8_hearsAsk_78 : decode cX8_hearsAsk 78 = .ok (.iaload, 1) := by decide +kernel
theorem dX8_hearsAsk_79 : decode cX8_hearsAsk 79 = .ok (.aload_n 0, 1) := by decide +kernel
theorem dX8_hearsAsk_80 : decode cX8_hearsAsk 80 = .ok (.getfield 113, 3) := by decide +kernel
theorem dX8_hearsAsk_83 : decode cX8_hearsAsk 83 = .ok (.iload_n 2, 1) := by decide +kernel
theorem dX8_hearsAsk_84 : decode cX8_hearsAsk 84 = .ok (.iaload, 1) := by decide +kernel
theorem dX8_hearsAsk_85 : decode cX8_hearsAsk 85 = .ok (.invokevirtual 299, 3) := by decide +kernel
theorem dX8_hearsAsk_88 : decode cX8_hearsAsk 88 = .ok (.istore 7, 2) := by decide +kernel
theorem dX8_hearsAsk_90 : decode cX8_hearsAsk 90 = .ok (.iload 7, 2) := by decide +kernel
theorem dX8_hearsAsk_92 : decode cX8_hearsAsk 92 = .ok (.iconst (-1), 1) := by decide +kernel
theorem dX8_hearsAsk_93 : decode cX8_hearsAsk 93 = .ok (.if_icmp .eq 10, 3) := by decide +kernel
theorem dX8_hearsAsk_96 : decode cX8_hearsAsk 96 = .ok (.iload 7, 2) := by decide +kernel
theorem dX8_hearsAsk_98 : decode cX8_hearsAsk 98 = .ok (.iload_n 1, 1) := by decide +kernel
theorem dX8_hearsAsk_99 : decode cX8_hearsAsk 99 = .ok (.if_icmp .eq 4, 3) := by decide +kernel
theorem dX8_hearsAsk_102 : decode cX8_hearsAsk 102 = .ok (.return_, 1) := by decide +kernel
theorem dX8_hearsAsk_103 : decode cX8_hearsAsk 103 = .ok (.iload 4, 2) := by decide +kernel
theorem dX8_hearsAsk_105 : decode cX8_hearsAsk 105 = .ok (.iconst 1, 1) := by decide +kernel
theorem dX8_hearsAsk_106 : decode cX8_hearsAsk 106 = .ok (.iadd, 1) := by decide +kernel
theorem dX8_hearsAsk_107 : decode cX8_hearsAsk 107 = .ok (.iload_n 1, 1) := by decide +kernel
theorem dX8_hearsAsk_108 : decode cX8_hearsAsk 108 = .ok (.iload 4, 2) := by decide +kernel
theorem dX8_hearsAsk_110 : decode cX8_hearsAsk 110 = .ok (.invokestatic 204, 3) := by decide +kernel
theorem dX8_hearsAsk_113 : decode cX8_hearsAsk 113 = .ok (.iadd, 1) := by decide +kernel
theorem dX8_hearsAsk_114 : decode cX8_hearsAsk 114 = .ok (.istore 8, 2) := by decide +kernel
theorem dX8_hearsAsk_116 : decode cX8_hearsAsk 116 = .ok (.aload_n 0, 1) := by decide +kernel
theorem dX8_hearsAsk_117 : decode cX8_hearsAsk 117 = .ok (.getfield 122, 3) := by decide +kernel
theorem dX8_hearsAsk_120 : decode cX8_hearsAsk 120 = .ok (.iload 5, 2) := by decide +kernel
theorem dX8_hearsAsk_122 : decode cX8_hearsAsk 122 = .ok (.iaload, 1) := by decide +kernel
theorem dX8_hearsAsk_123 : decode cX8_hearsAsk 123 = .ok (.istore 9, 2) := by decide +kernel
theorem dX8_hearsAsk_125 : decode cX8_hearsAsk 125 = .ok (.iconst 0, 1) := by decide +kernel
theorem dX8_hearsAsk_126 : decode cX8_hearsAsk 126 = .ok (.istore 10, 2) := by decide +kernel
theorem dX8_hearsAsk_128 : decode cX8_hearsAsk 128 = .ok (.iload 10, 2) := by decide +kernel
theorem dX8_hearsAsk_130 : decode cX8_hearsAsk 130 = .ok (.aload_n 0, 1) := by decide +kernel
theorem dX8_hearsAsk_131 : decode cX8_hearsAsk 131 = .ok (.getfield 170, 3) := by decide +kernel
theorem dX8_hearsAsk_134 : decode cX8_hearsAsk 134 = .ok (.if_icmp .ge 136, 3) := by decide +kernel
theorem dX8_hearsAsk_137 : decode cX8_hearsAsk 137 = .ok (.aload_n 0, 1) := by decide +kernel
theorem dX8_hearsAsk_138 : decode cX8_hearsAsk 138 = .ok (.getfield 56, 3) := by decide +kernel
theorem dX8_hearsAsk_141 : decode cX8_hearsAsk 141 = .ok (.iload 10, 2) := by decide +kernel
theorem dX8_hearsAsk_143 : decode cX8_hearsAsk 143 = .ok (.iaload, 1) := by decide +kernel
theorem dX8_hearsAsk_144 : decode cX8_hearsAsk 144 = .ok (.iload_n 3, 1) := by decide +kernel
theorem dX8_hearsAsk_145 : decode cX8_hearsAsk 145 = .ok (.if_icmp .ne 119, 3) := by decide +kernel
theorem dX8_hearsAsk_148 : decode cX8_hearsAsk 148 = .ok (.aload_n 0, 1) := by decide +kernel
theorem dX8_hearsAsk_149 : decode cX8_hearsAsk 149 = .ok (.getfield 125, 3) := by decide +kernel
theorem dX8_hearsAsk_152 : decode cX8_hearsAsk 152 = .ok (.iload 5, 2) := by decide +kernel
theorem dX8_hearsAsk_154 : decode cX8_hearsAsk 154 = .ok (.iaload, 1) := by decide +kernel
theorem dX8_hearsAsk_155 : decode cX8_hearsAsk 155 = .ok (.iload 10, 2) := by decide +kernel
theorem dX8_hearsAsk_157 : decode cX8_hearsAsk 157 = .ok (.ishr, 1) := by decide +kernel
theorem dX8_hearsAsk_158 : decode cX8_hearsAsk 158 = .ok (.iconst 1, 1) := by decide +kernel
theorem dX8_hearsAsk_159 : decode cX8_hearsAsk 159 = .ok (.iand, 1) := by decide +kernel
theorem dX8_hearsAsk_160 : decode cX8_hearsAsk 160 = .ok (.iconst 1, 1) := by decide +kernel
theorem dX8_hearsAsk_161 : decode cX8_hearsAsk 161 = .ok (.if_icmp .ne 6, 3) := by decide +kernel
theorem dX8_hearsAsk_164 : decode cX8_hearsAsk 164 = .ok (.goto 100, 3) := by decide +kernel
theorem dX8_hearsAsk_167 : decode cX8_hearsAsk 167 = .ok (.bipush 32, 2) := by decide +kernel
theorem dX8_hearsAsk_169 : decode cX8_hearsAsk 169 = .ok (.iload_n 1, 1) := by decide +kernel
theorem dX8_hearsAsk_170 : decode cX8_hearsAsk 170 = .ok (.imul, 1) := by decide +kernel
theorem dX8_hearsAsk_171 : decode cX8_hearsAsk 171 = .ok (.iload 10, 2) := by decide +kernel
theorem dX8_hearsAsk_173 : decode cX8_hearsAsk 173 = .ok (.iadd, 1) := by decide +kernel
theorem dX8_hearsAsk_174 : decode cX8_hearsAsk 174 = .ok (.istore 11, 2) := by decide +kernel
theorem dX8_hearsAsk_176 : decode cX8_hearsAsk 176 = .ok (.aload_n 0, 1) := by decide +kernel
theorem dX8_hearsAsk_177 : decode cX8_hearsAsk 177 = .ok (.iload_n 1, 1) := by decide +kernel
theorem dX8_hearsAsk_178 : decode cX8_hearsAsk 178 = .ok (.iload 10, 2) := by decide +kernel
theorem dX8_hearsAsk_180 : decode cX8_hearsAsk 180 = .ok (.invokevirtual 270, 3) := by decide +kernel
theorem dX8_hearsAsk_183 : decode cX8_hearsAsk 183 = .ok (.ifCond .eq 41, 3) := by decide +kernel
theorem dX8_hearsAsk_186 : decode cX8_hearsAsk 186 = .ok (.aload_n 0, 1) := by decide +kernel
theorem dX8_hearsAsk_187 : decode cX8_hearsAsk 187 = .ok (.getfield 68, 3) := by decide +kernel
theorem dX8_hearsAsk_190 : decode cX8_hearsAsk 190 = .ok (.iload 10, 2) := by decide +kernel
theorem dX8_hearsAsk_192 : decode cX8_hearsAsk 192 = .ok (.iaload, 1) := by decide +kernel
theorem dX8_hearsAsk_193 : decode cX8_hearsAsk 193 = .ok (.iconst 2, 1) := by decide +kernel
theorem dX8_hearsAsk_194 : decode cX8_hearsAsk 194 = .ok (.if_icmp .ne 70, 3) := by decide +kernel
theorem dX8_hearsAsk_197 : decode cX8_hearsAsk 197 = .ok (.aload_n 0, 1) := by decide +kernel
theorem dX8_hearsAsk_198 : decode cX8_hearsAsk 198 = .ok (.getfield 62, 3) := by decide +kernel
theorem dX8_hearsAsk_201 : decode cX8_hearsAsk 201 = .ok (.iload 10, 2) := by decide +kernel
theorem dX8_hearsAsk_203 : decode cX8_hearsAsk 203 = .ok (.iaload, 1) := by decide +kernel
theorem dX8_hearsAsk_204 : decode cX8_hearsAsk 204 = .ok (.iload 9, 2) := by decide +kernel
theorem dX8_hearsAsk_206 : decode cX8_hearsAsk 206 = .ok (.iand, 1) := by decide +kernel
theorem dX8_hearsAsk_207 : decode cX8_hearsAsk 207 = .ok (.iload 9, 2) := by decide +kernel
theorem dX8_hearsAsk_209 : decode cX8_hearsAsk 209 = .ok (.if_icmp .ne 55, 3) := by decide +kernel
theorem dX8_hearsAsk_212 : decode cX8_hearsAsk 212 = .ok (.aload_n 0, 1) := by decide +kernel
theorem dX8_hearsAsk_213 : decode cX8_hearsAsk 213 = .ok (.iload_n 1, 1) := by decide +kernel
theorem dX8_hearsAsk_214 : decode cX8_hearsAsk 214 = .ok (.iload 10, 2) := by decide +kernel
theorem dX8_hearsAsk_216 : decode cX8_hearsAsk 216 = .ok (.iload 8, 2) := by decide +kernel
theorem dX8_hearsAsk_218 : decode cX8_hearsAsk 218 = .ok (.invokevirtual 302, 3) := by decide +kernel
theorem dX8_hearsAsk_221 : decode cX8_hearsAsk 221 = .ok (.goto 43, 3) := by decide +kernel
theorem dX8_hearsAsk_224 : decode cX8_hearsAsk 224 = .ok (.iload 7, 2) := by decide +kernel
theorem dX8_hearsAsk_226 : decode cX8_hearsAsk 226 = .ok (.iload_n 1, 1) := by decide +kernel
theorem dX8_hearsAsk_227 : decode cX8_hearsAsk 227 = .ok (.if_icmp .ne 37, 3) := by decide +kernel
theorem dX8_hearsAsk_230 : decode cX8_hearsAsk 230 = .ok (.aload_n 0, 1) := by decide +kernel
theorem dX8_hearsAsk_231 : decode cX8_hearsAsk 231 = .ok (.getfield 86, 3) := by decide +kernel
theorem dX8_hearsAsk_234 : decode cX8_hearsAsk 234 = .ok (.iload 11, 2) := by decide +kernel
theorem dX8_hearsAsk_236 : decode cX8_hearsAsk 236 = .ok (.baload, 1) := by decide +kernel
theorem dX8_hearsAsk_237 : decode cX8_hearsAsk 237 = .ok (.ifCond .eq 27, 3) := by decide +kernel
theorem dX8_hearsAsk_240 : decode cX8_hearsAsk 240 = .ok (.aload_n 0, 1) := by decide +kernel
theorem dX8_hearsAsk_241 : decode cX8_hearsAsk 241 = .ok (.getfield 92, 3) := by decide +kernel
theorem dX8_hearsAsk_244 : decode cX8_hearsAsk 244 = .ok (.iload 11, 2) := by decide +kernel
theorem dX8_hearsAsk_246 : decode cX8_hearsAsk 246 = .ok (.iaload, 1) := by decide +kernel
theorem dX8_hearsAsk_247 : decode cX8_hearsAsk 247 = .ok (.iload 9, 2) := by decide +kernel
theorem dX8_hearsAsk_249 : decode cX8_hearsAsk 249 = .ok (.iand, 1) := by decide +kernel
theorem dX8_hearsAsk_250 : decode cX8_hearsAsk 250 = .ok (.iload 9, 2) := by decide +kernel
theorem dX8_hearsAsk_252 : decode cX8_hearsAsk 252 = .ok (.if_icmp .ne 12, 3) := by decide +kernel
theorem dX8_hearsAsk_255 : decode cX8_hearsAsk 255 = .ok (.aload_n 0, 1) := by decide +kernel
theorem dX8_hearsAsk_256 : decode cX8_hearsAsk 256 = .ok (.iload_n 1, 1) := by decide +kernel
theorem dX8_hearsAsk_257 : decode cX8_hearsAsk 257 = .ok (.iload 10, 2) := by decide +kernel
theorem dX8_hearsAsk_259 : decode cX8_hearsAsk 259 = .ok (.iload 8, 2) := by decide +kernel
theorem dX8_hearsAsk_261 : decode cX8_hearsAsk 261 = .ok (.invokevirtual 302, 3) := by decide +kernel
theorem dX8_hearsAsk_264 : decode cX8_hearsAsk 264 = .ok (.iinc 10 1, 3) := by decide +kernel
theorem dX8_hearsAsk_267 : decode cX8_hearsAsk 267 = .ok (.goto (-139), 3) := by decide +kernel
theorem dX8_hearsAsk_270 : decode cX8_hearsAsk 270 = .ok (.return_, 1) := by decide +kernel
theorem dX8_hearsClaim_0 : decode cX8_hearsClaim 0 = .ok (.iconst 0, 1) := by decide +kernel
theorem dX8_hearsClaim_1 : decode cX8_hearsClaim 1 = .ok (.istore 5, 2) := by decide +kernel
theorem dX8_hearsClaim_3 : decode cX8_hearsClaim 3 = .ok (.iload 5, 2) := by decide +kernel
theorem dX8_hearsClaim_5 : decode cX8_hearsClaim 5 = .ok (.aload_n 0, 1) := by decide +kernel
theorem dX8_hearsClaim_6 : decode cX8_hearsClaim 6 = .ok (.getfield 170, 3) := by decide +kernel
theorem dX8_hearsClaim_9 : decode cX8_hearsClaim 9 = .ok (.if_icmp .ge 90, 3) := by decide +kernel
theorem dX8_hearsClaim_12 : decode cX8_hearsClaim 12 = .ok (.iload 5, 2) := by decide +kernel
theorem dX8_hearsClaim_14 : decode cX8_hearsClaim 14 = .ok (.iload_n 2, 1) := by decide +kernel
theorem dX8_hearsClaim_15 : decode cX8_hearsClaim 15 = .ok (.if_icmp .eq 78, 3) := by decide +kernel
theorem dX8_hearsClaim_18 : decode cX8_hearsClaim 18 = .ok (.aload_n 0, 1) := by decide +kernel
theorem dX8_hearsClaim_19 : decode cX8_hearsClaim 19 = .ok (.getfield 83, 3) := by decide +kernel
theorem dX8_hearsClaim_22 : decode cX8_hearsClaim 22 = .ok (.iload 5, 2) := by decide +kernel
theorem dX8_hearsClaim_24 : decode cX8_hearsClaim 24 = .ok (.baload, 1) := by decide +kernel
theorem dX8_hearsClaim_25 : decode cX8_hearsClaim 25 = .ok (.ifCond .ne 68, 3) := by decide +kernel
theorem dX8_hearsClaim_28 : decode cX8_hearsClaim 28 = .ok (.aload_n 0, 1) := by decide +kernel
theorem dX8_hearsClaim_29 : decode cX8_hearsClaim 29 = .ok (.iload_n 1, 1) := by decide +kernel
theorem dX8_hearsClaim_30 : decode cX8_hearsClaim 30 = .ok (.iload 5, 2) := by decide +kernel
theorem dX8_hearsClaim_32 : decode cX8_hearsClaim 32 = .ok (.invokevirtual 270, 3) := by decide +kernel
theorem dX8_hearsClaim_35 : decode cX8_hearsClaim 35 = .ok (.ifCond .eq 58, 3) := by decide +kernel
theorem dX8_hearsClaim_38 : decode cX8_hearsClaim 38 = .ok (.aload_n 0, 1) := by decide +kernel
theorem dX8_hearsClaim_39 : decode cX8_hearsClaim 39 = .ok (.getfield 59, 3) := by decide +kernel
theorem dX8_hearsClaim_42 : decode cX8_hearsClaim 42 = .ok (.iload 5, 2) := by decide +kernel
theorem dX8_hearsClaim_44 : decode cX8_hearsClaim 44 = .ok (.iaload, 1) := by decide +kernel
theorem dX8_hearsClaim_45 : decode cX8_hearsClaim 45 = .ok (.iload_n 3, 1) := by decide +kernel
theorem dX8_hearsClaim_46 : decode cX8_hearsClaim 46 = .ok (.if_icmp .eq 6, 3) := by decide +kernel
theorem dX8_hearsClaim_49 : decode cX8_hearsClaim 49 = .ok (.goto 44, 3) := by decide +kernel
theorem dX8_hearsClaim_52 : decode cX8_hearsClaim 52 = .ok (.aload_n 0, 1) := by decide +kernel
theorem dX8_hearsClaim_53 : decode cX8_hearsClaim 53 = .ok (.getfield 68, 3) := by decide +kernel
theorem dX8_hearsClaim_56 : decode cX8_hearsClaim 56 = .ok (.iload 5, 2) := by decide +kernel
theorem dX8_hearsClaim_58 : decode cX8_hearsClaim 58 = .ok (.iaload, 1) := by decide +kernel
theorem dX8_hearsClaim_59 : decode cX8_hearsClaim 59 = .ok (.iconst 2, 1) := by decide +kernel
theorem dX8_hearsClaim_60 : decode cX8_hearsClaim 60 = .ok (.if_icmp .ne 17, 3) := by decide +kernel
theorem dX8_hearsClaim_63 : decode cX8_hearsClaim 63 = .ok (.aload_n 0, 1) := by decide +kernel
theorem dX8_hearsClaim_64 : decode cX8_hearsClaim 64 = .ok (.iload_n 1, 1) := by decide +kernel
theorem dX8_hearsClaim_65 : decode cX8_hearsClaim 65 = .ok (.iload 5, 2) := by decide +kernel
theorem dX8_hearsClaim_67 : decode cX8_hearsClaim 67 = .ok (.iload 4, 2) := by decide +kernel
theorem dX8_hearsClaim_69 : decode cX8_hearsClaim 69 = .ok (.iconst 1, 1) := by decide +kernel
theorem dX8_hearsClaim_70 : decode cX8_hearsClaim 70 = .ok (.iadd, 1) := by decide +kernel
theorem dX8_hearsClaim_71 : decode cX8_hearsClaim 71 = .ok (.invokevirtual 302, 3) := by decide +kernel
theorem dX8_hearsClaim_74 : decode cX8_hearsClaim 74 = .ok (.goto 19, 3) := by decide +kernel
theorem dX8_hearsClaim_77 : decode cX8_hearsClaim 77 = .ok (.aload_n 0, 1) := by decide +kernel
theorem dX8_hearsClaim_78 : decode cX8_hearsClaim 78 = .ok (.iload_n 2, 1) := by decide +kernel
theorem dX8_hearsClaim_79 : decode cX8_hearsClaim 79 = .ok (.iload 5, 2) := by decide +kernel
theorem dX8_hearsClaim_81 : decode cX8_hearsClaim 81 = .ok (.invokevirtual 305, 3) := by decide +kernel
theorem dX8_hearsClaim_84 : decode cX8_hearsClaim 84 = .ok (.ifCond .eq 9, 3) := by decide +kernel
theorem dX8_hearsClaim_87 : decode cX8_hearsClaim 87 = .ok (.aload_n 0, 1) := by decide +kernel
theorem dX8_hearsClaim_88 : decode cX8_hearsClaim 88 = .ok (.iload 5, 2) := by decide +kernel
theorem dX8_hearsClaim_90 : decode cX8_hearsClaim 90 = .ok (.invokevirtual 308, 3) := by decide +kernel
theorem dX8_hearsClaim_93 : decode cX8_hearsClaim 93 = .ok (.iinc 5 1, 3) := by decide +kernel
theorem dX8_hearsClaim_96 : decode cX8_hearsClaim 96 = .ok (.goto (-93), 3) := by decide +kernel
theorem dX8_hearsClaim_99 : decode cX8_hearsClaim 99 = .ok (.return_, 1) := by decide +kernel
theorem dX8_hearsTelling_0 : decode cX8_hearsTelling 0 = .ok (.aload_n 0, 1) := by decide +kernel
theorem dX8_hearsTelling_1 : decode cX8_hearsTelling 1 = .ok (.getfield 143, 3) := by decide +kernel
theorem dX8_hearsTelling_4 : decode cX8_hearsTelling 4 = .ok (.iload_n 3, 1) := by decide +kernel
theorem dX8_hearsTelling_5 : decode cX8_hearsTelling 5 = .ok (.iaload, 1) := by decide +kernel
theorem dX8_hearsTelling_6 : decode cX8_hearsTelling 6 = .ok (.istore 5, 2) := by decide +kernel
theorem dX8_hearsTelling_8 : decode cX8_hearsTelling 8 = .ok (.aload_n 0, 1) := by decide +kernel
theorem dX8_hearsTelling_9 : decode cX8_hearsTelling 9 = .ok (.getfield 149, 3) := by decide +kernel
theorem dX8_hearsTelling_12 : decode cX8_hearsTelling 12 = .ok (.iload_n 3, 1) := by decide +kernel
theorem dX8_hearsTelling_13 : decode cX8_hearsTelling 13 = .ok (.iaload, 1) := by decide +kernel
theorem dX8_hearsTelling_14 : decode cX8_hearsTelling 14 = .ok (.istore 6, 2) := by decide +kernel
theorem dX8_hearsTelling_16 : decode cX8_hearsTelling 16 = .ok (.iload 5, 2) := by decide +kernel
theorem dX8_hearsTelling_18 : decode cX8_hearsTelling 18 = .ok (.aload_n 0, 1) := by decide +kernel
theorem dX8_hearsTelling_19 : decode cX8_hearsTelling 19 = .ok (.getfield 16, 3) := by decide +kernel
theorem dX8_hearsTelling_22 : decode cX8_hearsTelling 22 = .ok (.aload_n 0, 1) := by decide +kernel
theorem dX8_hearsTelling_23 : decode cX8_hearsTelling 23 = .ok (.getfield 53, 3) := by decide +kernel
theorem dX8_hearsTelling_26 : decode cX8_hearsTelling 26 = .ok (.iload_n 2, 1) := by decide +kernel
theorem dX8_hearsTelling_27 : decode cX8_hearsTelling 27 = .ok (.iaload, 1) := by decide +kernel
theorem dX8_hearsTelling_28 : decode cX8_hearsTelling 28 = .ok (.iaload, 1) := by decide +kernel
theorem dX8_hearsTelling_29 : decode cX8_hearsTelling 29 = .ok (.aload_n 0, 1) := by decide +kernel
theorem dX8_hearsTelling_30 : decode cX8_hearsTelling 30 = .ok (.getfield 19, 3) := by decide +kernel
theorem dX8_hearsTelling_33 : decode cX8_hearsTelling 33 = .ok (.aload_n 0, 1) := by decide +kernel
theorem dX8_hearsTelling_34 : decode cX8_hearsTelling 34 = .ok (.getfield 53, 3) := by decide +kernel
theorem dX8_hearsTelling_37 : decode cX8_hearsTelling 37 = .ok (.iload_n 2, 1) := by decide +kernel
theorem dX8_hearsTelling_38 : decode cX8_hearsTelling 38 = .ok (.iaload, 1) := by decide +kernel
theorem dX8_hearsTelling_39 : decode cX8_hearsTelling 39 = .ok (.iaload, 1) := by decide +kernel
theorem dX8_hearsTelling_40 : decode cX8_hearsTelling 40 = .ok (.invokestatic 159, 3) := by decide +kernel
theorem dX8_hearsTelling_43 : decode cX8_hearsTelling 43 = .ok (.ifCond .ne 14, 3) := by decide +kernel
theorem dX8_hearsTelling_46 : decode cX8_hearsTelling 46 = .ok (.aload_n 0, 1) := by decide +kernel
theorem dX8_hearsTelling_47 : decode cX8_hearsTelling 47 = .ok (.dup, 1) := by decide +kernel
theorem dX8_hearsTelling_48 : decode cX8_hearsTelling 48 = .ok (.getfield 311, 3) := by decide +kernel
theorem dX8_hearsTelling_51 : decode cX8_hearsTelling 51 = .ok (.iconst 1, 1) := by decide +kernel
theorem dX8_hearsTelling_52 : decode cX8_hearsTelling 52 = .ok (.iadd, 1) := by decide +kernel
theorem dX8_hearsTelling_53 : decode cX8_hearsTelling 53 = .ok (.putfield 311, 3) := by decide +kernel
theorem dX8_hearsTelling_56 : decode cX8_hearsTelling 56 = .ok (.return_, 1) := by decide +kernel
theorem dX8_hearsTelling_57 : decode cX8_hearsTelling 57 = .ok (.iconst 0, 1) := by decide +kernel
theorem dX8_hearsTelling_58 : decode cX8_hearsTelling 58 = .ok (.istore 7, 2) := by decide +kernel
theorem dX8_hearsTelling_60 : decode cX8_hearsTelling 60 = .ok (.iload 7, 2) := by decide +kernel
theorem dX8_hearsTelling_62 : decode cX8_hearsTelling 62 = .ok (.aload_n 0, 1) := by decide +kernel
theorem dX8_hearsTelling_63 : decode cX8_hearsTelling 63 = .ok (.getfield 170, 3) := by decide +kernel
theorem dX8_hearsTelling_66 : decode cX8_hearsTelling 66 = .ok (.if_icmp .ge 91, 3) := by decide +kernel
theorem dX8_hearsTelling_69 : decode cX8_hearsTelling 69 = .ok (.iload 7, 2) := by decide +kernel
theorem dX8_hearsTelling_71 : decode cX8_hearsTelling 71 = .ok (.iload_n 2, 1) := by decide +kernel
theorem dX8_hearsTelling_72 : decode cX8_hearsTelling 72 = .ok (.if_icmp .eq 79, 3) := by decide +kernel
theorem dX8_hearsTelling_75 : decode cX8_hearsTelling 75 = .ok (.aload_n 0, 1) := by decide +kernel
theorem dX8_hearsTelling_76 : decode cX8_hearsTelling 76 = .ok (.getfield 83, 3) := by decide +kernel
theorem dX8_hearsTelling_79 : decode cX8_hearsTelling 79 = .ok (.iload 7, 2) := by decide +kernel
theorem dX8_hearsTelling_81 : decode cX8_hearsTelling 81 = .ok (.baload, 1) := by decide +kernel
theorem dX8_hearsTelling_82 : decode cX8_hearsTelling 82 = .ok (.ifCond .ne 69, 3) := by decide +kernel
theorem dX8_hearsTelling_85 : decode cX8_hearsTelling 85 = .ok (.aload_n 0, 1) := by decide +kernel
theorem dX8_hearsTelling_86 : decode cX8_hearsTelling 86 = .ok (.iload_n 1, 1) := by decide +kernel
theorem dX8_hearsTelling_87 : decode cX8_hearsTelling 87 = .ok (.iload 7, 2) := by decide +kernel
theorem dX8_hearsTelling_89 : decode cX8_hearsTelling 89 = .ok (.invokevirtual 270, 3) := by decide +kernel
theorem dX8_hearsTelling_92 : decode cX8_hearsTelling 92 = .ok (.ifCond .eq 59, 3) := by decide +kernel
theorem dX8_hearsTelling_95 : decode cX8_hearsTelling 95 = .ok (.aload_n 0, 1) := by decide +kernel
theorem dX8_hearsTelling_96 : decode cX8_hearsTelling 96 = .ok (.getfield 59, 3) := by decide +kernel
theorem dX8_hearsTelling_99 : decode cX8_hearsTelling 99 = .ok (.iload 7, 2) := by decide +kernel
theorem dX8_hearsTelling_101 : decode cX8_hearsTelling 101 = .ok (.iaload, 1) := by decide +kernel
theorem dX8_hearsTelling_102 : decode cX8_hearsTelling 102 = .ok (.iload 5, 2) := by decide +kernel
theorem dX8_hearsTelling_104 : decode cX8_hearsTelling 104 = .ok (.if_icmp .eq 6, 3) := by decide +kernel
theorem dX8_hearsTelling_107 : decode cX8_hearsTelling 107 = .ok (.goto 44, 3) := by decide +kernel
theorem dX8_hearsTelling_110 : decode cX8_hearsTelling 110 = .ok (.aload_n 0, 1) := by decide +kernel
theorem dX8_hearsTelling_111 : decode cX8_hearsTelling 111 = .ok (.getfield 68, 3) := by decide +kernel
theorem dX8_hearsTelling_114 : decode cX8_hearsTelling 114 = .ok (.iload 7, 2) := by decide +kernel
theorem dX8_hearsTelling_116 : decode cX8_hearsTelling 116 = .ok (.iaload, 1) := by decide +kernel
theorem dX8_hearsTelling_117 : decode cX8_hearsTelling 117 = .ok (.iconst 1, 1) := by decide +kernel
theorem dX8_hearsTelling_118 : decode cX8_hearsTelling 118 = .ok (.if_icmp .eq 13, 3) := by decide +kernel
theorem dX8_hearsTelling_121 : decode cX8_hearsTelling 121 = .ok (.aload_n 0, 1) := by decide +kernel
theorem dX8_hearsTelling_122 : decode cX8_hearsTelling 122 = .ok (.iload_n 2, 1) := by decide +kernel
theorem dX8_hearsTelling_123 : decode cX8_hearsTelling 123 = .ok (.iload 7, 2) := by decide +kernel
theorem dX8_hearsTelling_125 : decode cX8_hearsTelling 125 = .ok (.invokevirtual 305, 3) := by decide +kernel
theorem dX8_hearsTelling_128 : decode cX8_hearsTelling 128 = .ok (.ifCond .eq 12, 3) := by decide +kernel
theorem dX8_hearsTelling_131 : decode cX8_hearsTelling 131 = .ok (.aload_n 0, 1) := by decide +kernel
theorem dX8_hearsTelling_132 : decode cX8_hearsTelling 132 = .ok (.iload 7, 2) := by decide +kernel
theorem dX8_hearsTelling_134 : decode cX8_hearsTelling 134 = .ok (.invokevirtual 308, 3) := by decide +kernel
theorem dX8_hearsTelling_137 : decode cX8_hearsTelling 137 = .ok (.goto 14, 3) := by decide +kernel
theorem dX8_hearsTelling_140 : decode cX8_hearsTelling 140 = .ok (.aload_n 0, 1) := by decide +kernel
theorem dX8_hearsTelling_141 : decode cX8_hearsTelling 141 = .ok (.iload_n 1, 1) := by decide +kernel
theorem dX8_hearsTelling_142 : decode cX8_hearsTelling 142 = .ok (.iload 7, 2) := by decide +kernel
theorem dX8_hearsTelling_144 : decode cX8_hearsTelling 144 = .ok (.iload 4, 2) := by decide +kernel
theorem dX8_hearsTelling_146 : decode cX8_hearsTelling 146 = .ok (.iconst 1, 1) := by decide +kernel
theorem dX8_hearsTelling_147 : decode cX8_hearsTelling 147 = .ok (.iadd, 1) := by decide +kernel
theorem dX8_hearsTelling_148 : decode cX8_hearsTelling 148 = .ok (.invokevirtual 302, 3) := by decide +kernel
theorem dX8_hearsTelling_151 : decode cX8_hearsTelling 151 = .ok (.iinc 7 1, 3) := by decide +kernel
theorem dX8_hearsTelling_154 : decode cX8_hearsTelling 154 = .ok (.goto (-94), 3) := by decide +kernel
theorem dX8_hearsTelling_157 : decode cX8_hearsTelling 157 = .ok (.bipush 32, 2) := by decide +kernel
theorem dX8_hearsTelling_159 : decode cX8_hearsTelling 159 = .ok (.iload_n 1, 1) := by decide +kernel
theorem dX8_hearsTelling_160 : decode cX8_hearsTelling 160 = .ok (.imul, 1) := by decide +kernel
theorem dX8_hearsTelling_161 : decode cX8_hearsTelling 161 = .ok (.iload_n 2, 1) := by decide +kernel
theorem dX8_hearsTelling_162 : decode cX8_hearsTelling 162 = .ok (.iadd, 1) := by decide +kernel
theorem dX8_hearsTelling_163 : decode cX8_hearsTelling 163 = .ok (.istore 7, 2) := by decide +kernel
theorem dX8_hearsTelling_165 : decode cX8_hearsTelling 165 = .ok (.iconst 2, 1) := by decide +kernel
theorem dX8_hearsTelling_166 : decode cX8_hearsTelling 166 = .ok (.iload 6, 2) := by decide +kernel
theorem dX8_hearsTelling_168 : decode cX8_hearsTelling 168 = .ok (.imul, 1) := by decide +kernel
theorem dX8_hearsTelling_169 : decode cX8_hearsTelling 169 = .ok (.aload_n 0, 1) := by decide +kernel
theorem dX8_hearsTelling_170 : decode cX8_hearsTelling 170 = .ok (.getfield 65, 3) := by decide +kernel
theorem dX8_hearsTelling_173 : decode cX8_hearsTelling 173 = .ok (.iload_n 2, 1) := by decide +kernel
theorem dX8_hearsTelling_174 : decode cX8_hearsTelling 174 = .ok (.iaload, 1) := by decide +kernel
theorem dX8_hearsTelling_175 : decode cX8_hearsTelling 175 = .ok (.if_icmp .lt 11, 3) := by decide +kernel
theorem dX8_hearsTelling_178 : decode cX8_hearsTelling 178 = .ok (.aload_n 0, 1) := by decide +kernel
theorem dX8_hearsTelling_179 : decode cX8_hearsTelling 179 = .ok (.getfield 101, 3) := by decide +kernel
theorem dX8_hearsTelling_182 : decode cX8_hearsTelling 182 = .ok (.iload 7, 2) := by decide +kernel
theorem dX8_hearsTelling_184 : decode cX8_hearsTelling 184 = .ok (.iconst (-1), 1) := by decide +kernel
theorem dX8_hearsTelling_185 : decode cX8_hearsTelling 185 = .ok (.iastore, 1) := by decide +kernel
theorem dX8_hearsTelling_186 : decode cX8_hearsTelling 186 = .ok (.aload_n 0, 1) := by decide +kernel
theorem dX8_hearsTelling_187 : decode cX8_hearsTelling 187 = .ok (.getfield 53, 3) := by decide +kernel
theorem dX8_hearsTelling_190 : decode cX8_hearsTelling 190 = .ok (.iload_n 2, 1) := by decide +kernel
theorem dX8_hearsTelling_191 : decode cX8_hearsTelling 191 = .ok (.iaload, 1) := by decide +kernel
theorem dX8_hearsTelling_192 : decode cX8_hearsTelling 192 = .ok (.iload_n 1, 1) := by decide +kernel
theorem dX8_hearsTelling_193 : decode cX8_hearsTelling 193 = .ok (.if_icmp .ne 4, 3) := by decide +kernel
theorem dX8_hearsTelling_196 : decode cX8_hearsTelling 196 = .ok (.return_, 1) := by decide +kernel
theorem dX8_hearsTelling_197 : decode cX8_hearsTelling 197 = .ok (.iconst 0, 1) := by decide +kernel
theorem dX8_hearsTelling_198 : decode cX8_hearsTelling 198 = .ok (.istore 8, 2) := by decide +kernel
theorem dX8_hearsTelling_200 : decode cX8_hearsTelling 200 = .ok (.iload 8, 2) := by decide +kernel
theorem dX8_hearsTelling_202 : decode cX8_hearsTelling 202 = .ok (.aload_n 0, 1) := by decide +kernel
theorem dX8_hearsTelling_203 : decode cX8_hearsTelling 203 = .ok (.getfield 170, 3) := by decide +kernel
theorem dX8_hearsTelling_206 : decode cX8_hearsTelling 206 = .ok (.if_icmp .ge 70, 3) := by decide +kernel
theorem dX8_hearsTelling_209 : decode cX8_hearsTelling 209 = .ok (.bipush 32, 2) := by decide +kernel
theorem dX8_hearsTelling_211 : decode cX8_hearsTelling 211 = .ok (.iload_n 1, 1) := by decide +kernel
theorem dX8_hearsTelling_212 : decode cX8_hearsTelling 212 = .ok (.imul, 1) := by decide +kernel
theorem dX8_hearsTelling_213 : decode cX8_hearsTelling 213 = .ok (.iload 8, 2) := by decide +kernel
theorem dX8_hearsTelling_215 : decode cX8_hearsTelling 215 = .ok (.iadd, 1) := by decide +kernel
theorem dX8_hearsTelling_216 : decode cX8_hearsTelling 216 = .ok (.istore 9, 2) := by decide +kernel
theorem dX8_hearsTelling_218 : decode cX8_hearsTelling 218 = .ok (.iload 8, 2) := by decide +kernel
theorem dX8_hearsTelling_220 : decode cX8_hearsTelling 220 = .ok (.iload_n 2, 1) := by decide +kernel
theorem dX8_hearsTelling_221 : decode cX8_hearsTelling 221 = .ok (.if_icmp .eq 49, 3) := by decide +kernel
theorem dX8_hearsTelling_224 : decode cX8_hearsTelling 224 = .ok (.aload_n 0, 1) := by decide +kernel
theorem dX8_hearsTelling_225 : decode cX8_hearsTelling 225 = .ok (.getfield 86, 3) := by decide +kernel
theorem dX8_hearsTelling_228 : decode cX8_hearsTelling 228 = .ok (.iload 9, 2) := by decide +kernel
theorem dX8_hearsTelling_230 : decode cX8_hearsTelling 230 = .ok (.baload, 1) := by decide +kernel
theorem dX8_hearsTelling_231 : decode cX8_hearsTelling 231 = .ok (.ifCond .eq 39, 3) := by decide +kernel
theorem dX8_hearsTelling_234 : decode cX8_hearsTelling 234 = .ok (.aload_n 0, 1) := by decide +kernel
theorem dX8_hearsTelling_235 : decode cX8_hearsTelling 235 = .ok (.getfield 89, 3) := by decide +kernel
theorem dX8_hearsTelling_238 : decode cX8_hearsTelling 238 = .ok (.iload 9, 2) := by decide +kernel
theorem dX8_hearsTelling_240 : decode cX8_hearsTelling 240 = .ok (.iaload, 1) := by decide +kernel
theorem dX8_hearsTelling_241 : decode cX8_hearsTelling 241 = .ok (.iload 5, 2) := by decide +kernel
theorem dX8_hearsTelling_243 : decode cX8_hearsTelling 243 = .ok (.if_icmp .ne 27, 3) := by decide +kernel
theorem dX8_hearsTelling_246 : decode cX8_hearsTelling 246 = .ok (.aload_n 0, 1) := by decide +kernel
theorem dX8_hearsTelling_247 : decode cX8_hearsTelling 247 = .ok (.iload 8, 2) := by decide +kernel
theorem dX8_hearsTelling_249 : decode cX8_hearsTelling 249 = .ok (.iload_n 2, 1) := by decide +kernel
theorem dX8_hearsTelling_250 : decode cX8_hearsTelling 250 = .ok (.invokevirtual 305, 3) := by decide +kernel
theorem dX8_hearsTelling_253 : decode cX8_hearsTelling 253 = .ok (.ifCond .ne 6, 3) := by decide +kernel
theorem dX8_hearsTelling_256 : decode cX8_hearsTelling 256 = .ok (.goto 14, 3) := by decide +kernel
theorem dX8_hearsTelling_259 : decode cX8_hearsTelling 259 = .ok (.aload_n 0, 1) := by decide +kernel
theorem dX8_hearsTelling_260 : decode cX8_hearsTelling 260 = .ok (.dup, 1) := by decide +kernel
theorem dX8_hearsTelling_261 : decode cX8_hearsTelling 261 = .ok (.getfield 314, 3) := by decide +kernel
theorem dX8_hearsTelling_264 : decode cX8_hearsTelling 264 = .ok (.iconst 1, 1) := by decide +kernel
theorem dX8_hearsTelling_265 : decode cX8_hearsTelling 265 = .ok (.iadd, 1) := by decide +kernel
theorem dX8_hearsTelling_266 : decode cX8_hearsTelling 266 = .ok (.putfield 314, 3) := by decide +kernel
theorem dX8_hearsTelling_269 : decode cX8_hearsTelling 269 = .ok (.return_, 1) := by decide +kernel
theorem dX8_hearsTelling_270 : decode cX8_hearsTelling 270 = .ok (.iinc 8 1, 3) := by decide +kernel
theorem dX8_hearsTelling_273 : decode cX8_hearsTelling 273 = .ok (.goto (-73), 3) := by decide +kernel
theorem dX8_hearsTelling_276 : decode cX8_hearsTelling 276 = .ok (.iconst 0, 1) := by decide +kernel
theorem dX8_hearsTelling_277 : decode cX8_hearsTelling 277 = .ok (.istore 8, 2) := by decide +kernel
theorem dX8_hearsTelling_279 : decode cX8_hearsTelling 279 = .ok (.iload 8, 2) := by decide +kernel
theorem dX8_hearsTelling_281 : decode cX8_hearsTelling 281 = .ok (.aload_n 0, 1) := by decide +kernel
theorem dX8_hearsTelling_282 : decode cX8_hearsTelling 282 = .ok (.getfield 170, 3) := by decide +kernel
theorem dX8_hearsTelling_285 : decode cX8_hearsTelling 285 = .ok (.if_icmp .ge 45, 3) := by decide +kernel
theorem dX8_hearsTelling_288 : decode cX8_hearsTelling 288 = .ok (.iload 8, 2) := by decide +kernel
theorem dX8_hearsTelling_290 : decode cX8_hearsTelling 290 = .ok (.iload_n 2, 1) := by decide +kernel
theorem dX8_hearsTelling_291 : decode cX8_hearsTelling 291 = .ok (.if_icmp .eq 33, 3) := by decide +kernel
theorem dX8_hearsTelling_294 : decode cX8_hearsTelling 294 = .ok (.aload_n 0, 1) := by decide +kernel
theorem dX8_hearsTelling_295 : decode cX8_hearsTelling 295 = .ok (.getfield 89, 3) := by decide +kernel
theorem dX8_hearsTelling_298 : decode cX8_hearsTelling 298 = .ok (.bipush 32, 2) := by decide +kernel
theorem dX8_hearsTelling_300 : decode cX8_hearsTelling 300 = .ok (.iload_n 1, 1) := by decide +kernel
theorem dX8_hearsTelling_301 : decode cX8_hearsTelling 301 = .ok (.imul, 1) := by decide +kernel
theorem dX8_hearsTelling_302 : decode cX8_hearsTelling 302 = .ok (.iload 8, 2) := by decide +kernel
theorem dX8_hearsTelling_304 : decode cX8_hearsTelling 304 = .ok (.iadd, 1) := by decide +kernel
theorem dX8_hearsTelling_305 : decode cX8_hearsTelling 305 = .ok (.iaload, 1) := by decide +kernel
theorem dX8_hearsTelling_306 : decode cX8_hearsTelling 306 = .ok (.iload 5, 2) := by decide +kernel
theorem dX8_hearsTelling_308 : decode cX8_hearsTelling 308 = .ok (.if_icmp .ne 16, 3) := by decide +kernel
theorem dX8_hearsTelling_311 : decode cX8_hearsTelling 311 = .ok (.aload_n 0, 1) := by decide +kernel
theorem dX8_hearsTelling_312 : decode cX8_hearsTelling 312 = .ok (.getfield 86, 3) := by decide +kernel
theorem dX8_hearsTelling_315 : decode cX8_hearsTelling 315 = .ok (.bipush 32, 2) := by decide +kernel
theorem dX8_hearsTelling_317 : decode cX8_hearsTelling 317 = .ok (.iload_n 1, 1) := by decide +kernel
theorem dX8_hearsTelling_318 : decode cX8_hearsTelling 318 = .ok (.imul, 1) := by decide +kernel
theorem dX8_hearsTelling_319 : decode cX8_hearsTelling 319 = .ok (.iload 8, 2) := by decide +kernel
theorem dX8_hearsTelling_321 : decode cX8_hearsTelling 321 = .ok (.iadd, 1) := by decide +kernel
theorem dX8_hearsTelling_322 : decode cX8_hearsTelling 322 = .ok (.iconst 0, 1) := by decide +kernel
theorem dX8_hearsTelling_323 : decode cX8_hearsTelling 323 = .ok (.bastore, 1) := by decide +kernel
theorem dX8_hearsTelling_324 : decode cX8_hearsTelling 324 = .ok (.iinc 8 1, 3) := by decide +kernel
theorem dX8_hearsTelling_327 : decode cX8_hearsTelling 327 = .ok (.goto (-48), 3) := by decide +kernel
theorem dX8_hearsTelling_330 : decode cX8_hearsTelling 330 = .ok (.aload_n 0, 1) := by decide +kernel
theorem dX8_hearsTelling_331 : decode cX8_hearsTelling 331 = .ok (.getfield 86, 3) := by decide +kernel
theorem dX8_hearsTelling_334 : decode cX8_hearsTelling 334 = .ok (.iload 7, 2) := by decide +kernel
theorem dX8_hearsTelling_336 : decode cX8_hearsTelling 336 = .ok (.iconst 1, 1) := by decide +kernel
theorem dX8_hearsTelling_337 : decode cX8_hearsTelling 337 = .ok (.bastore, 1) := by decide +kernel
theorem dX8_hearsTelling_338 : decode cX8_hearsTelling 338 = .ok (.aload_n 0, 1) := by decide +kernel
theorem dX8_hearsTelling_339 : decode cX8_hearsTelling 339 = .ok (.getfield 89, 3) := by decide +kernel
theorem dX8_hearsTelling_342 : decode cX8_hearsTelling 342 = .ok (.iload 7, 2) := by decide +kernel
theorem dX8_hearsTelling_344 : decode cX8_hearsTelling 344 = .ok (.iload 5, 2) := by decide +kernel
theorem dX8_hearsTelling_346 : decode cX8_hearsTelling 346 = .ok (.iastore, 1) := by decide +kernel
theorem dX8_hearsTelling_347 : decode cX8_hearsTelling 347 = .ok (.aload_n 0, 1) := by decide +kernel
theorem dX8_hearsTelling_348 : decode cX8_hearsTelling 348 = .ok (.getfield 92, 3) := by decide +kernel
theorem dX8_hearsTelling_351 : decode cX8_hearsTelling 351 = .ok (.iload 7, 2) := by decide +kernel
theorem dX8_hearsTelling_353 : decode cX8_hearsTelling 353 = .ok (.aload_n 0, 1) := by decide +kernel
theorem dX8_hearsTelling_354 : decode cX8_hearsTelling 354 = .ok (.getfield 146, 3) := by decide +kernel
theorem dX8_hearsTelling_357 : decode cX8_hearsTelling 357 = .ok (.iload_n 3, 1) := by decide +kernel
theorem dX8_hearsTelling_358 : decode cX8_hearsTelling 358 = .ok (.iaload, 1) := by decide +kernel
theorem dX8_hearsTelling_359 : decode cX8_hearsTelling 359 = .ok (.iastore, 1) := by decide +kernel
theorem dX8_hearsTelling_360 : decode cX8_hearsTelling 360 = .ok (.aload_n 0, 1) := by decide +kernel
theorem dX8_hearsTelling_361 : decode cX8_hearsTelling 361 = .ok (.getfield 95, 3) := by decide +kernel
theorem dX8_hearsTelling_364 : decode cX8_hearsTelling 364 = .ok (.iload 7, 2) := by decide +kernel
theorem dX8_hearsTelling_366 : decode cX8_hearsTelling 366 = .ok (.iload 6, 2) := by decide +kernel
theorem dX8_hearsTelling_368 : decode cX8_hearsTelling 368 = .ok (.iastore, 1) := by decide +kernel
theorem dX8_hearsTelling_369 : decode cX8_hearsTelling 369 = .ok (.aload_n 0, 1) := by decide +kernel
theorem dX8_hearsTelling_370 : decode cX8_hearsTelling 370 = .ok (.getfield 98, 3) := by decide +kernel
theorem dX8_hearsTelling_373 : decode cX8_hearsTelling 373 = .ok (.iload 7, 2) := by decide +kernel
theorem dX8_hearsTelling_375 : decode cX8_hearsTelling 375 = .ok (.iload 4, 2) := by decide +kernel
theorem dX8_hearsTelling_377 : decode cX8_hearsTelling 377 = .ok (.iconst 1, 1) := by decide +kernel
theorem dX8_hearsTelling_378 : decode cX8_hearsTelling 378 = .ok (.iadd, 1) := by decide +kernel
theorem dX8_hearsTelling_379 : decode cX8_hearsTelling 379 = .ok (.iload 6, 2) := by decide +kernel
theorem dX8_hearsTelling_381 : decode cX8_hearsTelling 381 = .ok (.iadd, 1) := by decide +kernel
theorem dX8_hearsTelling_382 : decode cX8_hearsTelling 382 = .ok (.iastore, 1) := by decide +kernel
theorem dX8_hearsTelling_383 : decode cX8_hearsTelling 383 = .ok (.return_, 1) := by decide +kernel
theorem dX8_find_0 : decode cX8_find 0 = .ok (.aload_n 0, 1) := by decide +kernel
theorem dX8_find_1 : decode cX8_find 1 = .ok (.iload_n 1, 1) := by decide +kernel
theorem dX8_find_2 : decode cX8_find 2 = .ok (.invokevirtual 163, 3) := by decide +kernel
theorem dX8_find_5 : decode cX8_find 5 = .ok (.ifCond .eq 8, 3) := by decide +kernel
theorem dX8_find_8 : decode cX8_find 8 = .ok (.iload 4, 2) := by decide +kernel
theorem dX8_find_10 : decode cX8_find 10 = .ok (.ifCond .ge 5, 3) := by decide +kernel
theorem dX8_find_13 : decode cX8_find 13 = .ok (.iconst (-1), 1) := by decide +kernel
theorem dX8_find_14 : decode cX8_find 14 = .ok (.ireturn, 1) := by decide +kernel
theorem dX8_find_15 : decode cX8_find 15 = .ok (.iload 4, 2) := by decide +kernel
theorem dX8_find_17 : decode cX8_find 17 = .ok (.istore 5, 2) := by decide +kernel
theorem dX8_find_19 : decode cX8_find 19 = .ok (.iconst 1, 1) := by decide +kernel
theorem dX8_find_20 : decode cX8_find 20 = .ok (.istore 6, 2) := by decide +kernel
theorem dX8_find_22 : decode cX8_find 22 = .ok (.iload 6, 2) := by decide +kernel
theorem dX8_find_24 : decode cX8_find 24 = .ok (.sipush 250, 3) := by decide +kernel
theorem dX8_find_27 : decode cX8_find 27 = .ok (.if_icmp .gt 96, 3) := by decide +kernel
theorem dX8_find_30 : decode cX8_find 30 = .ok (.iconst 0, 1) := by decide +kernel
theorem dX8_find_31 : decode cX8_find 31 = .ok (.istore 7, 2) := by decide +kernel
theorem dX8_find_33 : decode cX8_find 33 = .ok (.iload 7, 2) := by decide +kernel
theorem dX8_find_35 : decode cX8_find 35 = .ok (.aload_n 0, 1) := by decide +kernel
theorem dX8_find_36 : decode cX8_find 36 = .ok (.getfield 170, 3) := by decide +kernel
theorem dX8_find_39 : decode cX8_find 39 = .ok (.if_icmp .ge 78, 3) := by decide +kernel
theorem dX8_find_42 : decode cX8_find 42 = .ok (.bipush 32, 2) := by decide +kernel
theorem dX8_find_44 : decode cX8_find 44 = .ok (.iload_n 1, 1) := by decide +kernel
theorem dX8_find_45 : decode cX8_find 45 = .ok (.imul, 1) := by decide +kernel
theorem dX8_find_46 : decode cX8_find 46 = .ok (.iload 7, 2) := by decide +kernel
theorem dX8_find_48 : decode cX8_find 48 = .ok (.iadd, 1) := by decide +kernel
theorem dX8_find_49 : decode cX8_find 49 = .ok (.istore 8, 2) := by decide +kernel
theorem dX8_find_51 : decode cX8_find 51 = .ok (.aload_n 0, 1) := by decide +kernel
theorem dX8_find_52 : decode cX8_find 52 = .ok (.getfield 86, 3) := by decide +kernel
theorem dX8_find_55 : decode cX8_find 55 = .ok (.iload 8, 2) := by decide +kernel
theorem dX8_find_57 : decode cX8_find 57 = .ok (.baload, 1) := by decide +kernel
theorem dX8_find_58 : decode cX8_find 58 = .ok (.ifCond .eq 53, 3) := by decide +kernel
theorem dX8_find_61 : decode cX8_find 61 = .ok (.aload_n 0, 1) := by decide +kernel
theorem dX8_find_62 : decode cX8_find 62 = .ok (.getfield 56, 3) := by decide +kernel
theorem dX8_find_65 : decode cX8_find 65 = .ok (.iload 7, 2) := by decide +kernel
theorem dX8_find_67 : decode cX8_find 67 = .ok (.iaload, 1) := by decide +kernel
theorem dX8_find_68 : decode cX8_find 68 = .ok (.iload_n 2, 1) := by decide +kernel
theorem dX8_find_69 : decode cX8_find 69 = .ok (.if_icmp .ne 42, 3) := by decide +kernel
theorem dX8_find_72 : decode cX8_find 72 = .ok (.aload_n 0, 1) := by decide +kernel
theorem dX8_find_73 : decode cX8_find 73 = .ok (.getfield 89, 3) := by decide +kernel
theorem dX8_find_76 : decode cX8_find 76 = .ok (.iload 8, 2) := by decide +kernel
theorem dX8_find_78 : decode cX8_find 78 = .ok (.iaload, 1) := by decide +kernel
theorem dX8_find_79 : decode cX8_find 79 = .ok (.iload 6, 2) := by decide +kernel
theorem dX8_find_81 : decode cX8_find 81 = .ok (.if_icmp .ne 30, 3) := by decide +kernel
theorem dX8_find_84 : decode cX8_find 84 = .ok (.aload_n 0, 1) := by decide +kernel
theorem dX8_find_85 : decode cX8_find 85 = .ok (.getfield 92, 3) := by decide +kernel
theorem dX8_find_88 : decode cX8_find 88 = .ok (.iload 8, 2) := by decide +kernel
theorem dX8_find_90 : decode cX8_find 90 = .ok (.iaload, 1) := by decide +kernel
theorem dX8_find_91 : decode cX8_find 91 = .ok (.iload_n 3, 1) := by decide +kernel
theorem dX8_find_92 : decode cX8_find 92 = .ok (.iand, 1) := by decide +kernel
theorem dX8_find_93 : decode cX8_find 93 = .ok (.iload_n 3, 1) := by decide +kernel
theorem dX8_find_94 : decode cX8_find 94 = .ok (.if_icmp .eq 6, 3) := by decide +kernel
theorem dX8_find_97 : decode cX8_find 97 = .ok (.goto 14, 3) := by decide +kernel
theorem dX8_find_100 : decode cX8_find 100 = .ok (.iload 5, 2) := by decide +kernel
theorem dX8_find_102 : decode cX8_find 102 = .ok (.ifCond .ne 6, 3) := by decide +kernel
theorem dX8_find_105 : decode cX8_find 105 = .ok (.iload 7, 2) := by decide +kernel
theorem dX8_find_107 : decode cX8_find 107 = .ok (.ireturn, 1) := by decide +kernel
theorem dX8_find_108 : decode cX8_find 108 = .ok (.iinc 5 (-1), 3) := by decide +kernel
theorem dX8_find_111 : decode cX8_find 111 = .ok (.iinc 7 1, 3) := by decide +kernel
theorem dX8_find_114 : decode cX8_find 114 = .ok (.goto (-81), 3) := by decide +kernel
theorem dX8_find_117 : decode cX8_find 117 = .ok (.iinc 6 1, 3) := by decide +kernel
theorem dX8_find_120 : decode cX8_find 120 = .ok (.goto (-98), 3) := by decide +kernel
theorem dX8_find_123 : decode cX8_find 123 = .ok (.iconst (-1), 1) := by decide +kernel
theorem dX8_find_124 : decode cX8_find 124 = .ok (.ireturn, 1) := by decide +kernel
theorem dX8_record_0 : decode cX8_record 0 = .ok (.aload_n 0, 1) := by decide +kernel
theorem dX8_record_1 : decode cX8_record 1 = .ok (.iload_n 1, 1) := by decide +kernel
theorem dX8_record_2 : decode cX8_record 2 = .ok (.invokevirtual 163, 3) := by decide +kernel
theorem dX8_record_5 : decode cX8_record 5 = .ok (.ifCond .eq 25, 3) := by decide +kernel
theorem dX8_record_8 : decode cX8_record 8 = .ok (.aload_n 0, 1) := by decide +kernel
theorem dX8_record_9 : decode cX8_record 9 = .ok (.iload_n 2, 1) := by decide +kernel
theorem dX8_record_10 : decode cX8_record 10 = .ok (.invokevirtual 194, 3) := by decide +kernel
theorem dX8_record_13 : decode cX8_record 13 = .ok (.ifCond .eq 17, 3) := by decide +kernel
theorem dX8_record_16 : decode cX8_record 16 = .ok (.aload_n 0, 1) := by decide +kernel
theorem dX8_record_17 : decode cX8_record 17 = .ok (.getfield 86, 3) := by decide +kernel
theorem dX8_record_20 : decode cX8_record 20 = .ok (.bipush 32, 2) := by decide +kernel
theorem dX8_record_22 : decode cX8_record 22 = .ok (.iload_n 1, 1) := by decide +kernel
theorem dX8_record_23 : decode cX8_record 23 = .ok (.imul, 1) := by decide +kernel
theorem dX8_record_24 : decode cX8_record 24 = .ok (.iload_n 2, 1) := by decide +kernel
theorem dX8_record_25 : decode cX8_record 25 = .ok (.iadd, 1) := by decide +kernel
theorem dX8_record_26 : decode cX8_record 26 = .ok (.baload, 1) := by decide +kernel
theorem dX8_record_27 : decode cX8_record 27 = .ok (.ifCond .ne 5, 3) := by decide +kernel
theorem dX8_record_30 : decode cX8_record 30 = .ok (.iconst (-1), 1) := by decide +kernel
theorem dX8_record_31 : decode cX8_record 31 = .ok (.ireturn, 1) := by decide +kernel
theorem dX8_record_32 : decode cX8_record 32 = .ok (.bipush 32, 2) := by decide +kernel
theorem dX8_record_34 : decode cX8_record 34 = .ok (.iload_n 1, 1) := by decide +kernel
theorem dX8_record_35 : decode cX8_record 35 = .ok (.imul, 1) := by decide +kernel
theorem dX8_record_36 : decode cX8_record 36 = .ok (.iload_n 2, 1) := by decide +kernel
theorem dX8_record_37 : decode cX8_record 37 = .ok (.iadd, 1) := by decide +kernel
theorem dX8_record_38 : decode cX8_record 38 = .ok (.istore 4, 2) := by decide +kernel
theorem dX8_record_40 : decode cX8_record 40 = .ok (.iload_n 3, 1) := by decide +kernel
theorem dX8_record_41 : decode cX8_record 41 = .ok (.ifCond .ne 13, 3) := by decide +kernel
theorem dX8_record_44 : decode cX8_record 44 = .ok (.aload_n 0, 1) := by decide +kernel
theorem dX8_record_45 : decode cX8_record 45 = .ok (.getfield 89, 3) := by decide +kernel
theorem dX8_record_48 : decode cX8_record 48 = .ok (.iload 4, 2) := by decide +kernel
theorem dX8_record_50 : decode cX8_record 50 = .ok (.iaload, 1) := by decide +kernel
theorem dX8_record_51 : decode cX8_record 51 = .ok (.goto 54, 3) := by decide +kernel
theorem dX8_record_54 : decode cX8_record 54 = .ok (.iload_n 3, 1) := by decide +kernel
theorem dX8_record_55 : decode cX8_record 55 = .ok (.iconst 1, 1) := by decide +kernel
theorem dX8_record_56 : decode cX8_record 56 = .ok (.if_icmp .ne 13, 3) := by decide +kernel
theorem dX8_record_59 : decode cX8_record 59 = .ok (.aload_n 0, 1) := by decide +kernel
theorem dX8_record_60 : decode cX8_record 60 = .ok (.getfield 92, 3) := by decide +kernel
theorem dX8_record_63 : decode cX8_record 63 = .ok (.iload 4, 2) := by decide +kernel
theorem dX8_record_65 : decode cX8_record 65 = .ok (.iaload, 1) := by decide +kernel
theorem dX8_record_66 : decode cX8_record 66 = .ok (.goto 39, 3) := by decide +kernel
theorem dX8_record_69 : decode cX8_record 69 = .ok (.iload_n 3, 1) := by decide +kernel
theorem dX8_record_70 : decode cX8_record 70 = .ok (.iconst 2, 1) := by decide +kernel
theorem dX8_record_71 : decode cX8_record 71 = .ok (.if_icmp .ne 18, 3) := by decide +kernel
theorem dX8_record_74 : decode cX8_record 74 = .ok (.aload_n 0, 1) := by decide +kernel
theorem dX8_record_75 : decode cX8_record 75 = .ok (.getfield 98, 3) := by decide +kernel
theorem dX8_record_78 : decode cX8_record 78 = .ok (.iload 4, 2) := by decide +kernel
theorem dX8_record_80 : decode cX8_record 80 = .ok (.iaload, 1) := by decide +kernel
theorem dX8_record_81 : decode cX8_record 81 = .ok (.aload_n 0, 1) := by decide +kernel
theorem dX8_record_82 : decode cX8_record 82 = .ok (.getfield 191, 3) := by decide +kernel
theorem dX8_record_85 : decode cX8_record 85 = .ok (.isub, 1) := by decide +kernel
theorem dX8_record_86 : decode cX8_record 86 = .ok (.goto 19, 3) := by decide +kernel
theorem dX8_record_89 : decode cX8_record 89 = .ok (.iload_n 3, 1) := by decide +kernel
theorem dX8_record_90 : decode cX8_record 90 = .ok (.iconst 3, 1) := by decide +kernel
theorem dX8_record_91 : decode cX8_record 91 = .ok (.if_icmp .ne 13, 3) := by decide +kernel
theorem dX8_record_94 : decode cX8_record 94 = .ok (.aload_n 0, 1) := by decide +kernel
theorem dX8_record_95 : decode cX8_record 95 = .ok (.getfield 95, 3) := by decide +kernel
theorem dX8_record_98 : decode cX8_record 98 = .ok (.iload 4, 2) := by decide +kernel
theorem dX8_record_100 : decode cX8_record 100 = .ok (.iaload, 1) := by decide +kernel
theorem dX8_record_101 : decode cX8_record 101 = .ok (.goto 4, 3) := by decide +kernel
theorem dX8_record_104 : decode cX8_record 104 = .ok (.iconst (-1), 1) := by decide +kernel
theorem dX8_record_105 : decode cX8_record 105 = .ok (.ireturn, 1) := by decide +kernel
theorem dX8_service_0 : decode cX8_service 0 = .ok (.aload_n 0, 1) := by decide +kernel
theorem dX8_service_1 : decode cX8_service 1 = .ok (.iload_n 1, 1) := by decide +kernel
theorem dX8_service_2 : decode cX8_service 2 = .ok (.invokevirtual 194, 3) := by decide +kernel
theorem dX8_service_5 : decode cX8_service 5 = .ok (.ifCond .ne 5, 3) := by decide +kernel
theorem dX8_service_8 : decode cX8_service 8 = .ok (.iconst (-1), 1) := by decide +kernel
theorem dX8_service_9 : decode cX8_service 9 = .ok (.ireturn, 1) := by decide +kernel
theorem dX8_service_10 : decode cX8_service 10 = .ok (.iload_n 2, 1) := by decide +kernel
theorem dX8_service_11 : decode cX8_service 11 = .ok (.tableswitch 137 0 7 #[45, 52, 59, 80, 87, 94, 115, 130], 45) := by decide +kernel
theorem dX8_service_56 : decode cX8_service 56 = .ok (.aload_n 0, 1) := by decide +kernel
theorem dX8_service_57 : decode cX8_service 57 = .ok (.getfield 68, 3) := by decide +kernel
theorem dX8_service_60 : decode cX8_service 60 = .ok (.iload_n 1, 1) := by decide +kernel
theorem dX8_service_61 : decode cX8_service 61 = .ok (.iaload, 1) := by decide +kernel
theorem dX8_service_62 : decode cX8_service 62 = .ok (.ireturn, 1) := by decide +kernel
theorem dX8_service_63 : decode cX8_service 63 = .ok (.aload_n 0, 1) := by decide +kernel
theorem dX8_service_64 : decode cX8_service 64 = .ok (.getfield 59, 3) := by decide +kernel
theorem dX8_service_67 : decode cX8_service 67 = .ok (.iload_n 1, 1) := by decide +kernel
theorem dX8_service_68 : decode cX8_service 68 = .ok (.iaload, 1) := by decide +kernel
theorem dX8_service_69 : decode cX8_service 69 = .ok (.ireturn, 1) := by decide +kernel
theorem dX8_service_70 : decode cX8_service 70 = .ok (.aload_n 0, 1) := by decide +kernel
theorem dX8_service_71 : decode cX8_service 71 = .ok (.getfield 68, 3) := by decide +kernel
theorem dX8_service_74 : decode cX8_service 74 = .ok (.iload_n 1, 1) := by decide +kernel
theorem dX8_service_75 : decode cX8_service 75 = .ok (.iaload, 1) := by decide +kernel
theorem dX8_service_76 : decode cX8_service 76 = .ok (.iconst 1, 1) := by decide +kernel
theorem dX8_service_77 : decode cX8_service 77 = .ok (.if_icmp .ne 12, 3) := by decide +kernel
theorem dX8_service_80 : decode cX8_service 80 = .ok (.aload_n 0, 1) := by decide +kernel
theorem dX8_service_81 : decode cX8_service 81 = .ok (.getfield 71, 3) := by decide +kernel
theorem dX8_service_84 : decode cX8_service 84 = .ok (.iload_n 1, 1) := by decide +kernel
theorem dX8_service_85 : decode cX8_service 85 = .ok (.iaload, 1) := by decide +kernel
theorem dX8_service_86 : decode cX8_service 86 = .ok (.goto 4, 3) := by decide +kernel
theorem dX8_service_89 : decode cX8_service 89 = .ok (.iconst 0, 1) := by decide +kernel
theorem dX8_service_90 : decode cX8_service 90 = .ok (.ireturn, 1) := by decide +kernel
theorem dX8_service_91 : decode cX8_service 91 = .ok (.aload_n 0, 1) := by decide +kernel
theorem dX8_service_92 : decode cX8_service 92 = .ok (.getfield 62, 3) := by decide +kernel
theorem dX8_service_95 : decode cX8_service 95 = .ok (.iload_n 1, 1) := by decide +kernel
theorem dX8_service_96 : decode cX8_service 96 = .ok (.iaload, 1) := by decide +kernel
theorem dX8_service_97 : decode cX8_service 97 = .ok (.ireturn, 1) := by decide +kernel
theorem dX8_service_98 : decode cX8_service 98 = .ok (.aload_n 0, 1) := by decide +kernel
theorem dX8_service_99 : decode cX8_service 99 = .ok (.getfield 53, 3) := by decide +kernel
theorem dX8_service_102 : decode cX8_service 102 = .ok (.iload_n 1, 1) := by decide +kernel
theorem dX8_service_103 : decode cX8_service 103 = .ok (.iaload, 1) := by decide +kernel
theorem dX8_service_104 : decode cX8_service 104 = .ok (.ireturn, 1) := by decide +kernel
theorem dX8_service_105 : decode cX8_service 105 = .ok (.aload_n 0, 1) := by decide +kernel
theorem dX8_service_106 : decode cX8_service 106 = .ok (.getfield 68, 3) := by decide +kernel
theorem dX8_service_109 : decode cX8_service 109 = .ok (.iload_n 1, 1) := by decide +kernel
theorem dX8_service_110 : decode cX8_service 110 = .ok (.iaload, 1) := by decide +kernel
theorem dX8_service_111 : decode cX8_service 111 = .ok (.iconst 2, 1) := by decide +kernel
theorem dX8_service_112 : decode cX8_service 112 = .ok (.if_icmp .ne 12, 3) := by decide +kernel
theorem dX8_service_115 : decode cX8_service 115 = .ok (.aload_n 0, 1) := by decide +kernel
theorem dX8_service_116 : decode cX8_service 116 = .ok (.getfield 74, 3) := by decide +kernel
theorem dX8_service_119 : decode cX8_service 119 = .ok (.iload_n 1, 1) := by decide +kernel
theorem dX8_service_120 : decode cX8_service 120 = .ok (.iaload, 1) := by decide +kernel
theorem dX8_service_121 : decode cX8_service 121 = .ok (.goto 4, 3) := by decide +kernel
theorem dX8_service_124 : decode cX8_service 124 = .ok (.iconst (-1), 1) := by decide +kernel
theorem dX8_service_125 : decode cX8_service 125 = .ok (.ireturn, 1) := by decide +kernel
theorem dX8_service_126 : decode cX8_service 126 = .ok (.aload_n 0, 1) := by decide +kernel
theorem dX8_service_127 : decode cX8_service 127 = .ok (.getfield 80, 3) := by decide +kernel
theorem dX8_service_130 : decode cX8_service 130 = .ok (.iload_n 1, 1) := by decide +kernel
theorem dX8_service_131 : decode cX8_service 131 = .ok (.baload, 1) := by decide +kernel
theorem dX8_service_132 : decode cX8_service 132 = .ok (.ifCond .eq 7, 3) := by decide +kernel
theorem dX8_service_135 : decode cX8_service 135 = .ok (.iconst 1, 1) := by decide +kernel
theorem dX8_service_136 : decode cX8_service 136 = .ok (.goto 4, 3) := by decide +kernel
theorem dX8_service_139 : decode cX8_service 139 = .ok (.iconst 0, 1) := by decide +kernel
theorem dX8_service_140 : decode cX8_service 140 = .ok (.ireturn, 1) := by decide +kernel
theorem dX8_service_141 : decode cX8_service 141 = .ok (.aload_n 0, 1) := by decide +kernel
theorem dX8_service_142 : decode cX8_service 142 = .ok (.getfield 77, 3) := by decide +kernel
theorem dX8_service_145 : decode cX8_service 145 = .ok (.iload_n 1, 1) := by decide +kernel
theorem dX8_service_146 : decode cX8_service 146 = .ok (.iaload, 1) := by decide +kernel
theorem dX8_service_147 : decode cX8_service 147 = .ok (.ireturn, 1) := by decide +kernel
theorem dX8_service_148 : decode cX8_service 148 = .ok (.iconst (-1), 1) := by decide +kernel
theorem dX8_service_149 : decode cX8_service 149 = .ok (.ireturn, 1) := by decide +kernel
theorem dX8_look_0 : decode cX8_look 0 = .ok (.aload_n 0, 1) := by decide +kernel
theorem dX8_look_1 : decode cX8_look 1 = .ok (.iload_n 1, 1) := by decide +kernel
theorem dX8_look_2 : decode cX8_look 2 = .ok (.invokevirtual 163, 3) := by decide +kernel
theorem dX8_look_5 : decode cX8_look 5 = .ok (.ifCond .ne 5, 3) := by decide +kernel
theorem dX8_look_8 : decode cX8_look 8 = .ok (.iconst (-1), 1) := by decide +kernel
theorem dX8_look_9 : decode cX8_look 9 = .ok (.ireturn, 1) := by decide +kernel
theorem dX8_look_10 : decode cX8_look 10 = .ok (.iconst 0, 1) := by decide +kernel
theorem dX8_look_11 : decode cX8_look 11 = .ok (.istore_n 3, 1) := by decide +kernel
theorem dX8_look_12 : decode cX8_look 12 = .ok (.iload_n 2, 1) := by decide +kernel
theorem dX8_look_13 : decode cX8_look 13 = .ok (.tableswitch 271 0 8 #[51, 71, 78, 85, 121, 128, 171, 186, 227], 51) := by decide +kernel
theorem dX8_look_64 : decode cX8_look 64 = .ok (.aload_n 0, 1) := by decide +kernel
theorem dX8_look_65 : decode cX8_look 65 = .ok (.getfield 28, 3) := by decide +kernel
theorem dX8_look_68 : decode cX8_look 68 = .ok (.iload_n 1, 1) := by decide +kernel
theorem dX8_look_69 : decode cX8_look 69 = .ok (.baload, 1) := by decide +kernel
theorem dX8_look_70 : decode cX8_look 70 = .ok (.ifCond .eq 7, 3) := by decide +kernel
theorem dX8_look_73 : decode cX8_look 73 = .ok (.iconst 3, 1) := by decide +kernel
theorem dX8_look_74 : decode cX8_look 74 = .ok (.goto 9, 3) := by decide +kernel
theorem dX8_look_77 : decode cX8_look 77 = .ok (.aload_n 0, 1) := by decide +kernel
theorem dX8_look_78 : decode cX8_look 78 = .ok (.getfield 25, 3) := by decide +kernel
theorem dX8_look_81 : decode cX8_look 81 = .ok (.iload_n 1, 1) := by decide +kernel
theorem dX8_look_82 : decode cX8_look 82 = .ok (.iaload, 1) := by decide +kernel
theorem dX8_look_83 : decode cX8_look 83 = .ok (.ireturn, 1) := by decide +kernel
theorem dX8_look_84 : decode cX8_look 84 = .ok (.aload_n 0, 1) := by decide +kernel
theorem dX8_look_85 : decode cX8_look 85 = .ok (.getfield 9, 3) := by decide +kernel
theorem dX8_look_88 : decode cX8_look 88 = .ok (.iload_n 1, 1) := by decide +kernel
theorem dX8_look_89 : decode cX8_look 89 = .ok (.iaload, 1) := by decide +kernel
theorem dX8_look_90 : decode cX8_look 90 = .ok (.ireturn, 1) := by decide +kernel
theorem dX8_look_91 : decode cX8_look 91 = .ok (.aload_n 0, 1) := by decide +kernel
theorem dX8_look_92 : decode cX8_look 92 = .ok (.getfield 13, 3) := by decide +kernel
theorem dX8_look_95 : decode cX8_look 95 = .ok (.iload_n 1, 1) := by decide +kernel
theorem dX8_look_96 : decode cX8_look 96 = .ok (.iaload, 1) := by decide +kernel
theorem dX8_look_97 : decode cX8_look 97 = .ok (.ireturn, 1) := by decide +kernel
theorem dX8_look_98 : decode cX8_look 98 = .ok (.aload_n 0, 1) := by decide +kernel
theorem dX8_look_99 : decode cX8_look 99 = .ok (.getfield 25, 3) := by decide +kernel
theorem dX8_look_102 : decode cX8_look 102 = .ok (.iload_n 1, 1) := by decide +kernel
theorem dX8_look_103 : decode cX8_look 103 = .ok (.iaload, 1) := by decide +kernel
theorem dX8_look_104 : decode cX8_look 104 = .ok (.iconst 1, 1) := by decide +kernel
theorem dX8_look_105 : decode cX8_look 105 = .ok (.if_icmp .ne 27, 3) := by decide +kernel
theorem dX8_look_108 : decode cX8_look 108 = .ok (.aload_n 0, 1) := by decide +kernel
theorem dX8_look_109 : decode cX8_look 109 = .ok (.getfield 25, 3) := by decide +kernel
theorem dX8_look_112 : decode cX8_look 112 = .ok (.aload_n 0, 1) := by decide +kernel
theorem dX8_look_113 : decode cX8_look 113 = .ok (.getfield 41, 3) := by decide +kernel
theorem dX8_look_116 : decode cX8_look 116 = .ok (.iload_n 1, 1) := by decide +kernel
theorem dX8_look_117 : decode cX8_look 117 = .ok (.iaload, 1) := by decide +kernel
theorem dX8_look_118 : decode cX8_look 118 = .ok (.iaload, 1) := by decide +kernel
theorem dX8_look_119 : decode cX8_look 119 = .ok (.iconst 2, 1) := by decide +kernel
theorem dX8_look_120 : decode cX8_look 120 = .ok (.if_icmp .ne 12, 3) := by decide +kernel
theorem dX8_look_123 : decode cX8_look 123 = .ok (.aload_n 0, 1) := by decide +kernel
theorem dX8_look_124 : decode cX8_look 124 = .ok (.getfield 41, 3) := by decide +kernel
theorem dX8_look_127 : decode cX8_look 127 = .ok (.iload_n 1, 1) := by decide +kernel
theorem dX8_look_128 : decode cX8_look 128 = .ok (.iaload, 1) := by decide +kernel
theorem dX8_look_129 : decode cX8_look 129 = .ok (.goto 4, 3) := by decide +kernel
theorem dX8_look_132 : decode cX8_look 132 = .ok (.iconst (-1), 1) := by decide +kernel
theorem dX8_look_133 : decode cX8_look 133 = .ok (.ireturn, 1) := by decide +kernel
theorem dX8_look_134 : decode cX8_look 134 = .ok (.aload_n 0, 1) := by decide +kernel
theorem dX8_look_135 : decode cX8_look 135 = .ok (.getfield 44, 3) := by decide +kernel
theorem dX8_look_138 : decode cX8_look 138 = .ok (.iload_n 1, 1) := by decide +kernel
theorem dX8_look_139 : decode cX8_look 139 = .ok (.iaload, 1) := by decide +kernel
theorem dX8_look_140 : decode cX8_look 140 = .ok (.ireturn, 1) := by decide +kernel
theorem dX8_look_141 : decode cX8_look 141 = .ok (.iconst 0, 1) := by decide +kernel
theorem dX8_look_142 : decode cX8_look 142 = .ok (.istore 4, 2) := by decide +kernel
theorem dX8_look_144 : decode cX8_look 144 = .ok (.iload 4, 2) := by decide +kernel
theorem dX8_look_146 : decode cX8_look 146 = .ok (.aload_n 0, 1) := by decide +kernel
theorem dX8_look_147 : decode cX8_look 147 = .ok (.getfield 170, 3) := by decide +kernel
theorem dX8_look_150 : decode cX8_look 150 = .ok (.if_icmp .ge 32, 3) := by decide +kernel
theorem dX8_look_153 : decode cX8_look 153 = .ok (.iload_n 3, 1) := by decide +kernel
theorem dX8_look_154 : decode cX8_look 154 = .ok (.aload_n 0, 1) := by decide +kernel
theorem dX8_look_155 : decode cX8_look 155 = .ok (.getfield 86, 3) := by decide +kernel
theorem dX8_look_158 : decode cX8_look 158 = .ok (.bipush 32, 2) := by decide +kernel
theorem dX8_look_160 : decode cX8_look 160 = .ok (.iload_n 1, 1) := by decide +kernel
theorem dX8_look_161 : decode cX8_look 161 = .ok (.imul, 1) := by decide +kernel
theorem dX8_look_162 : decode cX8_look 162 = .ok (.iload 4, 2) := by decide +kernel
theorem dX8_look_164 : decode cX8_look 164 = .ok (.iadd, 1) := by decide +kernel
theorem dX8_look_165 : decode cX8_look 165 = .ok (.baload, 1) := by decide +kernel
theorem dX8_look_166 : decode cX8_look 166 = .ok (.ifCond .eq 7, 3) := by decide +kernel
theorem dX8_look_169 : decode cX8_look 169 = .ok (.iconst 1, 1) := by decide +kernel
theorem dX8_look_170 : decode cX8_look 170 = .ok (.goto 4, 3) := by decide +kernel
theorem dX8_look_173 : decode cX8_look 173 = .ok (.iconst 0, 1) := by decide +kernel
theorem dX8_look_174 : decode cX8_look 174 = .ok (.iadd, 1) := by decide +kernel
theorem dX8_look_175 : decode cX8_look 175 = .ok (.istore_n 3, 1) := by decide +kernel
theorem dX8_look_176 : decode cX8_look 176 = .ok (.iinc 4 1, 3) := by decide +kernel
theorem dX8_look_179 : decode cX8_look 179 = .ok (.goto (-35), 3) := by decide +kernel
theorem dX8_look_182 : decode cX8_look 182 = .ok (.iload_n 3, 1) := by decide +kernel
theorem dX8_look_183 : decode cX8_look 183 = .ok (.ireturn, 1) := by decide +kernel
theorem dX8_look_184 : decode cX8_look 184 = .ok (.aload_n 0, 1) := by decide +kernel
theorem dX8_look_185 : decode cX8_look 185 = .ok (.getfield 32, 3) := by decide +kernel
theorem dX8_look_188 : decode cX8_look 188 = .ok (.iload_n 1, 1) := by decide +kernel
theorem dX8_look_189 : decode cX8_look 189 = .ok (.baload, 1) := by decide +kernel
theorem dX8_look_190 : decode cX8_look 190 = .ok (.ifCond .eq 7, 3) := by decide +kernel
theorem dX8_look_193 : decode cX8_look 193 = .ok (.iconst 1, 1) := by decide +kernel
theorem dX8_look_194 : decode cX8_look 194 = .ok (.goto 4, 3) := by decide +kernel
theorem dX8_look_197 : decode cX8_look 197 = .ok (.iconst 0, 1) := by decide +kernel
theorem dX8_look_198 : decode cX8_look 198 = .ok (.ireturn, 1) := by decide +kernel
theorem dX8_look_199 : decode cX8_look 199 = .ok (.iconst 0, 1) := by decide +kernel
theorem dX8_look_200 : decode cX8_look 200 = .ok (.istore 4, 2) := by decide +kernel
theorem dX8_look_202 : decode cX8_look 202 = .ok (.iload 4, 2) := by decide +kernel
theorem dX8_look_204 : decode cX8_look 204 = .ok (.bipush 16, 2) := by decide +kernel
theorem dX8_look_206 : decode cX8_look 206 = .ok (.if_icmp .ge 32, 3) := by decide +kernel
theorem dX8_look_209 : decode cX8_look 209 = .ok (.iload_n 3, 1) := by decide +kernel
theorem dX8_look_210 : decode cX8_look 210 = .ok (.aload_n 0, 1) := by decide +kernel
theorem dX8_look_211 : decode cX8_look 211 = .ok (.getfield 104, 3) := by decide +kernel
theorem dX8_look_214 : decode cX8_look 214 = .ok (.bipush 16, 2) := by decide +kernel
theorem dX8_look_216 : decode cX8_look 216 = .ok (.iload_n 1, 1) := by decide +kernel
theorem dX8_look_217 : decode cX8_look 217 = .ok (.imul, 1) := by decide +kernel
theorem dX8_look_218 : decode cX8_look 218 = .ok (.iload 4, 2) := by decide +kernel
theorem dX8_look_220 : decode cX8_look 220 = .ok (.iadd, 1) := by decide +kernel
theorem dX8_look_221 : decode cX8_look 221 = .ok (.baload, 1) := by decide +kernel
theorem dX8_look_222 : decode cX8_look 222 = .ok (.ifCond .eq 7, 3) := by decide +kernel
theorem dX8_look_225 : decode cX8_look 225 = .ok (.iconst 1, 1) := by decide +kernel
theorem dX8_look_226 : decode cX8_look 226 = .ok (.goto 4, 3) := by decide +kernel
theorem dX8_look_229 : decode cX8_look 229 = .ok (.iconst 0, 1) := by decide +kernel
theorem dX8_look_230 : decode cX8_look 230 = .ok (.iadd, 1) := by decide +kernel
theorem dX8_look_231 : decode cX8_look 231 = .ok (.istore_n 3, 1) := by decide +kernel
theorem dX8_look_232 : decode cX8_look 232 = .ok (.iinc 4 1, 3) := by decide +kernel
theorem dX8_look_235 : decode cX8_look 235 = .ok (.goto (-33), 3) := by decide +kernel
theorem dX8_look_238 : decode cX8_look 238 = .ok (.iload_n 3, 1) := by decide +kernel
theorem dX8_look_239 : decode cX8_look 239 = .ok (.ireturn, 1) := by decide +kernel
theorem dX8_look_240 : decode cX8_look 240 = .ok (.iconst 0, 1) := by decide +kernel
theorem dX8_look_241 : decode cX8_look 241 = .ok (.istore 4, 2) := by decide +kernel
theorem dX8_look_243 : decode cX8_look 243 = .ok (.iload 4, 2) := by decide +kernel
theorem dX8_look_245 : decode cX8_look 245 = .ok (.aload_n 0, 1) := by decide +kernel
theorem dX8_look_246 : decode cX8_look 246 = .ok (.getfield 170, 3) := by decide +kernel
theorem dX8_look_249 : decode cX8_look 249 = .ok (.if_icmp .ge 33, 3) := by decide +kernel
theorem dX8_look_252 : decode cX8_look 252 = .ok (.iload_n 3, 1) := by decide +kernel
theorem dX8_look_253 : decode cX8_look 253 = .ok (.aload_n 0, 1) := by decide +kernel
theorem dX8_look_254 : decode cX8_look 254 = .ok (.getfield 101, 3) := by decide +kernel
theorem dX8_look_257 : decode cX8_look 257 = .ok (.bipush 32, 2) := by decide +kernel
theorem dX8_look_259 : decode cX8_look 259 = .ok (.iload_n 1, 1) := by decide +kernel
theorem dX8_look_260 : decode cX8_look 260 = .ok (.imul, 1) := by decide +kernel
theorem dX8_look_261 : decode cX8_look 261 = .ok (.iload 4, 2) := by decide +kernel
theorem dX8_look_263 : decode cX8_look 263 = .ok (.iadd, 1) := by decide +kernel
theorem dX8_look_264 : decode cX8_look 264 = .ok (.iaload, 1) := by decide +kernel
theorem dX8_look_265 : decode cX8_look 265 = .ok (.iconst (-1), 1) := by decide +kernel
theorem dX8_look_266 : decode cX8_look 266 = .ok (.if_icmp .eq 7, 3) := by decide +kernel
theorem dX8_look_269 : decode cX8_look 269 = .ok (.iconst 1, 1) := by decide +kernel
theorem dX8_look_270 : decode cX8_look 270 = .ok (.goto 4, 3) := by decide +kernel
theorem dX8_look_273 : decode cX8_look 273 = .ok (.iconst 0, 1) := by decide +kernel
theorem dX8_look_274 : decode cX8_look 274 = .ok (.iadd, 1) := by decide +kernel
theorem dX8_look_275 : decode cX8_look 275 = .ok (.istore_n 3, 1) := by decide +kernel
theorem dX8_look_276 : decode cX8_look 276 = .ok (.iinc 4 1, 3) := by decide +kernel
theorem dX8_look_279 : decode cX8_look 279 = .ok (.goto (-36), 3) := by decide +kernel
theorem dX8_look_282 : decode cX8_look 282 = .ok (.iload_n 3, 1) := by decide +kernel
theorem dX8_look_283 : decode cX8_look 283 = .ok (.ireturn, 1) := by decide +kernel
theorem dX8_look_284 : decode cX8_look 284 = .ok (.iconst (-1), 1) := by decide +kernel
theorem dX8_look_285 : decode cX8_look 285 = .ok (.ireturn, 1) := by decide +kernel
theorem dX8_reach_0 : decode cX8_reach 0 = .ok (.aload_n 0, 1) := by decide +kernel
theorem dX8_reach_1 : decode cX8_reach 1 = .ok (.iload_n 1, 1) := by decide +kernel
theorem dX8_reach_2 : decode cX8_reach 2 = .ok (.invokevirtual 167, 3) := by decide +kernel
theorem dX8_reach_5 : decode cX8_reach 5 = .ok (.ifCond .eq 25, 3) := by decide +kernel
theorem dX8_reach_8 : decode cX8_reach 8 = .ok (.aload_n 0, 1) := by decide +kernel
theorem dX8_reach_9 : decode cX8_reach 9 = .ok (.iload_n 2, 1) := by decide +kernel
theorem dX8_reach_10 : decode cX8_reach 10 = .ok (.invokevirtual 194, 3) := by decide +kernel
theorem dX8_reach_13 : decode cX8_reach 13 = .ok (.ifCond .eq 17, 3) := by decide +kernel
theorem dX8_reach_16 : decode cX8_reach 16 = .ok (.aload_n 0, 1) := by decide +kernel
theorem dX8_reach_17 : decode cX8_reach 17 = .ok (.getfield 86, 3) := by decide +kernel
theorem dX8_reach_20 : decode cX8_reach 20 = .ok (.bipush 32, 2) := by decide +kernel
theorem dX8_reach_22 : decode cX8_reach 22 = .ok (.iload_n 1, 1) := by decide +kernel
theorem dX8_reach_23 : decode cX8_reach 23 = .ok (.imul, 1) := by decide +kernel
theorem dX8_reach_24 : decode cX8_reach 24 = .ok (.iload_n 2, 1) := by decide +kernel
theorem dX8_reach_25 : decode cX8_reach 25 = .ok (.iadd, 1) := by decide +kernel
theorem dX8_reach_26 : decode cX8_reach 26 = .ok (.baload, 1) := by decide +kernel
theorem dX8_reach_27 : decode cX8_reach 27 = .ok (.ifCond .ne 5, 3) := by decide +kernel
theorem dX8_reach_30 : decode cX8_reach 30 = .ok (.iconst (-1), 1) := by decide +kernel
theorem dX8_reach_31 : decode cX8_reach 31 = .ok (.ireturn, 1) := by decide +kernel
theorem dX8_reach_32 : decode cX8_reach 32 = .ok (.aload_n 0, 1) := by decide +kernel
theorem dX8_reach_33 : decode cX8_reach 33 = .ok (.getfield 53, 3) := by decide +kernel
theorem dX8_reach_36 : decode cX8_reach 36 = .ok (.iload_n 2, 1) := by decide +kernel
theorem dX8_reach_37 : decode cX8_reach 37 = .ok (.iaload, 1) := by decide +kernel
theorem dX8_reach_38 : decode cX8_reach 38 = .ok (.istore_n 3, 1) := by decide +kernel
theorem dX8_reach_39 : decode cX8_reach 39 = .ok (.aload_n 0, 1) := by decide +kernel
theorem dX8_reach_40 : decode cX8_reach 40 = .ok (.getfield 68, 3) := by decide +kernel
theorem dX8_reach_43 : decode cX8_reach 43 = .ok (.iload_n 2, 1) := by decide +kernel
theorem dX8_reach_44 : decode cX8_reach 44 = .ok (.iaload, 1) := by decide +kernel
theorem dX8_reach_45 : decode cX8_reach 45 = .ok (.iconst 2, 1) := by decide +kernel
theorem dX8_reach_46 : decode cX8_reach 46 = .ok (.if_icmp .ne 23, 3) := by decide +kernel
theorem dX8_reach_49 : decode cX8_reach 49 = .ok (.aload_n 0, 1) := by decide +kernel
theorem dX8_reach_50 : decode cX8_reach 50 = .ok (.getfield 59, 3) := by decide +kernel
theorem dX8_reach_53 : decode cX8_reach 53 = .ok (.iload_n 2, 1) := by decide +kernel
theorem dX8_reach_54 : decode cX8_reach 54 = .ok (.iaload, 1) := by decide +kernel
theorem dX8_reach_55 : decode cX8_reach 55 = .ok (.aload_n 0, 1) := by decide +kernel
theorem dX8_reach_56 : decode cX8_reach 56 = .ok (.getfield 89, 3) := by decide +kernel
theorem dX8_reach_59 : decode cX8_reach 59 = .ok (.bipush 32, 2) := by decide +kernel
theorem dX8_reach_61 : decode cX8_reach 61 = .ok (.iload_n 1, 1) := by decide +kernel
theorem dX8_reach_62 : decode cX8_reach 62 = .ok (.imul, 1) := by decide +kernel
theorem dX8_reach_63 : decode cX8_reach 63 = .ok (.iload_n 2, 1) := by decide +kernel
theorem dX8_reach_64 : decode cX8_reach 64 = .ok (.iadd, 1) := by decide +kernel
theorem dX8_reach_65 : decode cX8_reach 65 = .ok (.iaload, 1) := by decide +kernel
theorem dX8_reach_66 : decode cX8_reach 66 = .ok (.if_icmp .eq 5, 3) := by decide +kernel
theorem dX8_reach_69 : decode cX8_reach 69 = .ok (.iconst 0, 1) := by decide +kernel
theorem dX8_reach_70 : decode cX8_reach 70 = .ok (.ireturn, 1) := by decide +kernel
theorem dX8_reach_71 : decode cX8_reach 71 = .ok (.aload_n 0, 1) := by decide +kernel
theorem dX8_reach_72 : decode cX8_reach 72 = .ok (.getfield 25, 3) := by decide +kernel
theorem dX8_reach_75 : decode cX8_reach 75 = .ok (.iload_n 3, 1) := by decide +kernel
theorem dX8_reach_76 : decode cX8_reach 76 = .ok (.iaload, 1) := by decide +kernel
theorem dX8_reach_77 : decode cX8_reach 77 = .ok (.iconst 2, 1) := by decide +kernel
theorem dX8_reach_78 : decode cX8_reach 78 = .ok (.if_icmp .ne 5, 3) := by decide +kernel
theorem dX8_reach_81 : decode cX8_reach 81 = .ok (.iconst 1, 1) := by decide +kernel
theorem dX8_reach_82 : decode cX8_reach 82 = .ok (.ireturn, 1) := by decide +kernel
theorem dX8_reach_83 : decode cX8_reach 83 = .ok (.aload_n 0, 1) := by decide +kernel
theorem dX8_reach_84 : decode cX8_reach 84 = .ok (.getfield 25, 3) := by decide +kernel
theorem dX8_reach_87 : decode cX8_reach 87 = .ok (.iload_n 3, 1) := by decide +kernel
theorem dX8_reach_88 : decode cX8_reach 88 = .ok (.iaload, 1) := by decide +kernel
theorem dX8_reach_89 : decode cX8_reach 89 = .ok (.iconst 1, 1) := by decide +kernel
theorem dX8_reach_90 : decode cX8_reach 90 = .ok (.if_icmp .ne 18, 3) := by decide +kernel
theorem dX8_reach_93 : decode cX8_reach 93 = .ok (.aload_n 0, 1) := by decide +kernel
theorem dX8_reach_94 : decode cX8_reach 94 = .ok (.getfield 25, 3) := by decide +kernel
theorem dX8_reach_97 : decode cX8_reach 97 = .ok (.aload_n 0, 1) := by decide +kernel
theorem dX8_reach_98 : decode cX8_reach 98 = .ok (.getfield 41, 3) := by decide +kernel
theorem dX8_reach_101 : decode cX8_reach 101 = .ok (.iload_n 3, 1) := by decide +kernel
theorem dX8_reach_102 : decode cX8_reach 102 = .ok (.iaload, 1) := by decide +kernel
theorem dX8_reach_103 : decode cX8_reach 103 = .ok (.iaload, 1) := by decide +kernel
theorem dX8_reach_104 : decode cX8_reach 104 = .ok (.iconst 2, 1) := by decide +kernel
theorem dX8_reach_105 : decode cX8_reach 105 = .ok (.if_icmp .eq 5, 3) := by decide +kernel
theorem dX8_reach_108 : decode cX8_reach 108 = .ok (.iconst 0, 1) := by decide +kernel
theorem dX8_reach_109 : decode cX8_reach 109 = .ok (.ireturn, 1) := by decide +kernel
theorem dX8_reach_110 : decode cX8_reach 110 = .ok (.aload_n 0, 1) := by decide +kernel
theorem dX8_reach_111 : decode cX8_reach 111 = .ok (.iload_n 3, 1) := by decide +kernel
theorem dX8_reach_112 : decode cX8_reach 112 = .ok (.invokevirtual 208, 3) := by decide +kernel
theorem dX8_reach_115 : decode cX8_reach 115 = .ok (.aload_n 0, 1) := by decide +kernel
theorem dX8_reach_116 : decode cX8_reach 116 = .ok (.dup, 1) := by decide +kernel
theorem dX8_reach_117 : decode cX8_reach 117 = .ok (.getfield 221, 3) := by decide +kernel
theorem dX8_reach_120 : decode cX8_reach 120 = .ok (.iconst 1, 1) := by decide +kernel
theorem dX8_reach_121 : decode cX8_reach 121 = .ok (.iadd, 1) := by decide +kernel
theorem dX8_reach_122 : decode cX8_reach 122 = .ok (.putfield 221, 3) := by decide +kernel
theorem dX8_reach_125 : decode cX8_reach 125 = .ok (.iconst 2, 1) := by decide +kernel
theorem dX8_reach_126 : decode cX8_reach 126 = .ok (.ireturn, 1) := by decide +kernel
theorem dX8_isSpoken_0 : decode cX8_isSpoken 0 = .ok (.aload_n 0, 1) := by decide +kernel
theorem dX8_isSpoken_1 : decode cX8_isSpoken 1 = .ok (.getfield 68, 3) := by decide +kernel
theorem dX8_isSpoken_4 : decode cX8_isSpoken 4 = .ok (.iload_n 1, 1) := by decide +kernel
theorem dX8_isSpoken_5 : decode cX8_isSpoken 5 = .ok (.iaload, 1) := by decide +kernel
theorem dX8_isSpoken_6 : decode cX8_isSpoken 6 = .ok (.iconst 2, 1) := by decide +kernel
theorem dX8_isSpoken_7 : decode cX8_isSpoken 7 = .ok (.if_icmp .ne 12, 3) := by decide +kernel
theorem dX8_isSpoken_10 : decode cX8_isSpoken 10 = .ok (.aload_n 0, 1) := by decide +kernel
theorem dX8_isSpoken_11 : decode cX8_isSpoken 11 = .ok (.getfield 83, 3) := by decide +kernel
theorem dX8_isSpoken_14 : decode cX8_isSpoken 14 = .ok (.iload_n 1, 1) := by decide +kernel
theorem dX8_isSpoken_15 : decode cX8_isSpoken 15 = .ok (.baload, 1) := by decide +kernel
theorem dX8_isSpoken_16 : decode cX8_isSpoken 16 = .ok (.ifCond .eq 5, 3) := by decide +kernel
theorem dX8_isSpoken_19 : decode cX8_isSpoken 19 = .ok (.iconst 0, 1) := by decide +kernel
theorem dX8_isSpoken_20 : decode cX8_isSpoken 20 = .ok (.ireturn, 1) := by decide +kernel
theorem dX8_isSpoken_21 : decode cX8_isSpoken 21 = .ok (.iconst 0, 1) := by decide +kernel
theorem dX8_isSpoken_22 : decode cX8_isSpoken 22 = .ok (.istore_n 3, 1) := by decide +kernel
theorem dX8_isSpoken_23 : decode cX8_isSpoken 23 = .ok (.iload_n 3, 1) := by decide +kernel
theorem dX8_isSpoken_24 : decode cX8_isSpoken 24 = .ok (.aload_n 0, 1) := by decide +kernel
theorem dX8_isSpoken_25 : decode cX8_isSpoken 25 = .ok (.getfield 155, 3) := by decide +kernel
theorem dX8_isSpoken_28 : decode cX8_isSpoken 28 = .ok (.if_icmp .ge 40, 3) := by decide +kernel
theorem dX8_isSpoken_31 : decode cX8_isSpoken 31 = .ok (.aload_n 0, 1) := by decide +kernel
theorem dX8_isSpoken_32 : decode cX8_isSpoken 32 = .ok (.getfield 25, 3) := by decide +kernel
theorem dX8_isSpoken_35 : decode cX8_isSpoken 35 = .ok (.iload_n 3, 1) := by decide +kernel
theorem dX8_isSpoken_36 : decode cX8_isSpoken 36 = .ok (.iaload, 1) := by decide +kernel
theorem dX8_isSpoken_37 : decode cX8_isSpoken 37 = .ok (.iconst 2, 1) := by decide +kernel
theorem dX8_isSpoken_38 : decode cX8_isSpoken 38 = .ok (.if_icmp .ne 24, 3) := by decide +kernel
theorem dX8_isSpoken_41 : decode cX8_isSpoken 41 = .ok (.aload_n 0, 1) := by decide +kernel
theorem dX8_isSpoken_42 : decode cX8_isSpoken 42 = .ok (.getfield 9, 3) := by decide +kernel
theorem dX8_isSpoken_45 : decode cX8_isSpoken 45 = .ok (.iload_n 3, 1) := by decide +kernel
theorem dX8_isSpoken_46 : decode cX8_isSpoken 46 = .ok (.iaload, 1) := by decide +kernel
theorem dX8_isSpoken_47 : decode cX8_isSpoken 47 = .ok (.iload_n 2, 1) := by decide +kernel
theorem dX8_isSpoken_48 : decode cX8_isSpoken 48 = .ok (.if_icmp .ne 14, 3) := by decide +kernel
theorem dX8_isSpoken_51 : decode cX8_isSpoken 51 = .ok (.aload_n 0, 1) := by decide +kernel
theorem dX8_isSpoken_52 : decode cX8_isSpoken 52 = .ok (.iload_n 3, 1) := by decide +kernel
theorem dX8_isSpoken_53 : decode cX8_isSpoken 53 = .ok (.iload_n 1, 1) := by decide +kernel
theorem dX8_isSpoken_54 : decode cX8_isSpoken 54 = .ok (.invokevirtual 270, 3) := by decide +kernel
theorem dX8_isSpoken_57 : decode cX8_isSpoken 57 = .ok (.ifCond .eq 5, 3) := by decide +kernel
theorem dX8_isSpoken_60 : decode cX8_isSpoken 60 = .ok (.iconst 1, 1) := by decide +kernel
theorem dX8_isSpoken_61 : decode cX8_isSpoken 61 = .ok (.ireturn, 1) := by decide +kernel
theorem dX8_isSpoken_62 : decode cX8_isSpoken 62 = .ok (.iinc 3 1, 3) := by decide +kernel
theorem dX8_isSpoken_65 : decode cX8_isSpoken 65 = .ok (.goto (-42), 3) := by decide +kernel
theorem dX8_isSpoken_68 : decode cX8_isSpoken 68 = .ok (.iconst 0, 1) := by decide +kernel
theorem dX8_isSpoken_69 : decode cX8_isSpoken 69 = .ok (.ireturn, 1) := by decide +kernel
theorem dX8_twice_0 : decode cX8_twice 0 = .ok (.iload_n 1, 1) := by decide +kernel
theorem dX8_twice_1 : decode cX8_twice 1 = .ok (.iconst 0, 1) := by decide +kernel
theorem dX8_twice_2 : decode cX8_twice 2 = .ok (.iconst 3, 1) := by decide +kernel
theorem dX8_twice_3 : decode cX8_twice 3 = .ok (.invokestatic 159, 3) := by decide +kernel
theorem dX8_twice_6 : decode cX8_twice 6 = .ok (.ifCond .ne 5, 3) := by decide +kernel
theorem dX8_twice_9 : decode cX8_twice 9 = .ok (.iconst (-1), 1) := by decide +kernel
theorem dX8_twice_10 : decode cX8_twice 10 = .ok (.ireturn, 1) := by decide +kernel
theorem dX8_twice_11 : decode cX8_twice 11 = .ok (.iconst 0, 1) := by decide +kernel
theorem dX8_twice_12 : decode cX8_twice 12 = .ok (.istore_n 2, 1) := by decide +kernel
theorem dX8_twice_13 : decode cX8_twice 13 = .ok (.iconst 0, 1) := by decide +kernel
theorem dX8_twice_14 : decode cX8_twice 14 = .ok (.istore_n 3, 1) := by decide +kernel
theorem dX8_twice_15 : decode cX8_twice 15 = .ok (.iload_n 3, 1) := by decide +kernel
theorem dX8_twice_16 : decode cX8_twice 16 = .ok (.aload_n 0, 1) := by decide +kernel
theorem dX8_twice_17 : decode cX8_twice 17 = .ok (.getfield 170, 3) := by decide +kernel
theorem dX8_twice_20 : decode cX8_twice 20 = .ok (.if_icmp .ge 72, 3) := by decide +kernel
theorem dX8_twice_23 : decode cX8_twice 23 = .ok (.iload_n 3, 1) := by decide +kernel
theorem dX8_twice_24 : decode cX8_twice 24 = .ok (.iconst 1, 1) := by decide +kernel
theorem dX8_twice_25 : decode cX8_twice 25 = .ok (.iadd, 1) := by decide +kernel
theorem dX8_twice_26 : decode cX8_twice 26 = .ok (.istore 4, 2) := by decide +kernel
theorem dX8_twice_28 : decode cX8_twice 28 = .ok (.iload 4, 2) := by decide +kernel
theorem dX8_twice_30 : decode cX8_twice 30 = .ok (.aload_n 0, 1) := by decide +kernel
theorem dX8_twice_31 : decode cX8_twice 31 = .ok (.getfield 170, 3) := by decide +kernel
theorem dX8_twice_34 : decode cX8_twice 34 = .ok (.if_icmp .ge 52, 3) := by decide +kernel
theorem dX8_twice_37 : decode cX8_twice 37 = .ok (.iload_n 2, 1) := by decide +kernel
theorem dX8_twice_38 : decode cX8_twice 38 = .ok (.aload_n 0, 1) := by decide +kernel
theorem dX8_twice_39 : decode cX8_twice 39 = .ok (.getfield 59, 3) := by decide +kernel
theorem dX8_twice_42 : decode cX8_twice 42 = .ok (.iload_n 3, 1) := by decide +kernel
theorem dX8_twice_43 : decode cX8_twice 43 = .ok (.iaload, 1) := by decide +kernel
theorem dX8_twice_44 : decode cX8_twice 44 = .ok (.aload_n 0, 1) := by decide +kernel
theorem dX8_twice_45 : decode cX8_twice 45 = .ok (.getfield 59, 3) := by decide +kernel
theorem dX8_twice_48 : decode cX8_twice 48 = .ok (.iload 4, 2) := by decide +kernel
theorem dX8_twice_50 : decode cX8_twice 50 = .ok (.iaload, 1) := by decide +kernel
theorem dX8_twice_51 : decode cX8_twice 51 = .ok (.if_icmp .ne 26, 3) := by decide +kernel
theorem dX8_twice_54 : decode cX8_twice 54 = .ok (.aload_n 0, 1) := by decide +kernel
theorem dX8_twice_55 : decode cX8_twice 55 = .ok (.iload_n 3, 1) := by decide +kernel
theorem dX8_twice_56 : decode cX8_twice 56 = .ok (.iload_n 1, 1) := by decide +kernel
theorem dX8_twice_57 : decode cX8_twice 57 = .ok (.invokevirtual 317, 3) := by decide +kernel
theorem dX8_twice_60 : decode cX8_twice 60 = .ok (.ifCond .eq 17, 3) := by decide +kernel
theorem dX8_twice_63 : decode cX8_twice 63 = .ok (.aload_n 0, 1) := by decide +kernel
theorem dX8_twice_64 : decode cX8_twice 64 = .ok (.iload 4, 2) := by decide +kernel
theorem dX8_twice_66 : decode cX8_twice 66 = .ok (.iload_n 1, 1) := by decide +kernel
theorem dX8_twice_67 : decode cX8_twice 67 = .ok (.invokevirtual 317, 3) := by decide +kernel
theorem dX8_twice_70 : decode cX8_twice 70 = .ok (.ifCond .eq 7, 3) := by decide +kernel
theorem dX8_twice_73 : decode cX8_twice 73 = .ok (.iconst 1, 1) := by decide +kernel
theorem dX8_twice_74 : decode cX8_twice 74 = .ok (.goto 4, 3) := by decide +kernel
theorem dX8_twice_77 : decode cX8_twice 77 = .ok (.iconst 0, 1) := by decide +kernel
theorem dX8_twice_78 : decode cX8_twice 78 = .ok (.iadd, 1) := by decide +kernel
theorem dX8_twice_79 : decode cX8_twice 79 = .ok (.istore_n 2, 1) := by decide +kernel
theorem dX8_twice_80 : decode cX8_twice 80 = .ok (.iinc 4 1, 3) := by decide +kernel
theorem dX8_twice_83 : decode cX8_twice 83 = .ok (.goto (-55), 3) := by decide +kernel
theorem dX8_twice_86 : decode cX8_twice 86 = .ok (.iinc 3 1, 3) := by decide +kernel
theorem dX8_twice_89 : decode cX8_twice 89 = .ok (.goto (-74), 3) := by decide +kernel
theorem dX8_twice_92 : decode cX8_twice 92 = .ok (.iload_n 2, 1) := by decide +kernel
theorem dX8_twice_93 : decode cX8_twice 93 = .ok (.ireturn, 1) := by decide +kernel
theorem dX8_count_0 : decode cX8_count 0 = .ok (.iload_n 1, 1) := by decide +kernel
theorem dX8_count_1 : decode cX8_count 1 = .ok (.tableswitch 114 0 10 #[59, 64, 69, 74, 79, 84, 89, 94, 99, 104, 109], 59) := by decide +kernel
theorem dX8_count_60 : decode cX8_count 60 = .ok (.aload_n 0, 1) := by decide +kernel
theorem dX8_count_61 : decode cX8_count 61 = .ok (.getfield 191, 3) := by decide +kernel
theorem dX8_count_64 : decode cX8_count 64 = .ok (.ireturn, 1) := by decide +kernel
theorem dX8_count_65 : decode cX8_count 65 = .ok (.aload_n 0, 1) := by decide +kernel
theorem dX8_count_66 : decode cX8_count 66 = .ok (.getfield 155, 3) := by decide +kernel
theorem dX8_count_69 : decode cX8_count 69 = .ok (.ireturn, 1) := by decide +kernel
theorem dX8_count_70 : decode cX8_count 70 = .ok (.aload_n 0, 1) := by decide +kernel
theorem dX8_count_71 : decode cX8_count 71 = .ok (.getfield 170, 3) := by decide +kernel
theorem dX8_count_74 : decode cX8_count 74 = .ok (.ireturn, 1) := by decide +kernel
theorem dX8_count_75 : decode cX8_count 75 = .ok (.aload_n 0, 1) := by decide +kernel
theorem dX8_count_76 : decode cX8_count 76 = .ok (.getfield 231, 3) := by decide +kernel
theorem dX8_count_79 : decode cX8_count 79 = .ok (.ireturn, 1) := by decide +kernel
theorem dX8_count_80 : decode cX8_count 80 = .ok (.aload_n 0, 1) := by decide +kernel
theorem dX8_count_81 : decode cX8_count 81 = .ok (.getfield 274, 3) := by decide +kernel
theorem dX8_count_84 : decode cX8_count 84 = .ok (.ireturn, 1) := by decide +kernel
theorem dX8_count_85 : decode cX8_count 85 = .ok (.aload_n 0, 1) := by decide +kernel
theorem dX8_count_86 : decode cX8_count 86 = .ok (.getfield 237, 3) := by decide +kernel
theorem dX8_count_89 : decode cX8_count 89 = .ok (.ireturn, 1) := by decide +kernel
theorem dX8_count_90 : decode cX8_count 90 = .ok (.aload_n 0, 1) := by decide +kernel
theorem dX8_count_91 : decode cX8_count 91 = .ok (.getfield 311, 3) := by decide +kernel
theorem dX8_count_94 : decode cX8_count 94 = .ok (.ireturn, 1) := by decide +kernel
theorem dX8_count_95 : decode cX8_count 95 = .ok (.aload_n 0, 1) := by decide +kernel
theorem dX8_count_96 : decode cX8_count 96 = .ok (.getfield 314, 3) := by decide +kernel
theorem dX8_count_99 : decode cX8_count 99 = .ok (.ireturn, 1) := by decide +kernel
theorem dX8_count_100 : decode cX8_count 100 = .ok (.aload_n 0, 1) := by decide +kernel
theorem dX8_count_101 : decode cX8_count 101 = .ok (.getfield 221, 3) := by decide +kernel
theorem dX8_count_104 : decode cX8_count 104 = .ok (.ireturn, 1) := by decide +kernel
theorem dX8_count_105 : decode cX8_count 105 = .ok (.aload_n 0, 1) := by decide +kernel
theorem dX8_count_106 : decode cX8_count 106 = .ok (.getfield 234, 3) := by decide +kernel
theorem dX8_count_109 : decode cX8_count 109 = .ok (.ireturn, 1) := by decide +kernel
theorem dX8_count_110 : decode cX8_count 110 = .ok (.aload_n 0, 1) := by decide +kernel
theorem dX8_count_111 : decode cX8_count 111 = .ok (.getfield 286, 3) := by decide +kernel
theorem dX8_count_114 : decode cX8_count 114 = .ok (.ireturn, 1) := by decide +kernel
theorem dX8_count_115 : decode cX8_count 115 = .ok (.iconst (-1), 1) := by decide +kernel
theorem dX8_count_116 : decode cX8_count 116 = .ok (.ireturn, 1) := by decide +kernel
