theorem dLaw_law_0 : decode code 0 = .ok (.new 7, 3) := by decide +kernel
theorem dLaw_law_3 : decode code 3 = .ok (.dup, 1) := by decide +kernel
theorem dLaw_law_4 : decode code 4 = .ok (.invokespecial 9, 3) := by decide +kernel
theorem dLaw_law_7 : decode code 7 = .ok (.astore_n 1, 1) := by decide +kernel
theorem dLaw_law_8 : decode code 8 = .ok (.new 10, 3) := by decide +kernel
theorem dLaw_law_11 : decode code 11 = .ok (.dup, 1) := by decide +kernel
theorem dLaw_law_12 : decode code 12 = .ok (.invokespecial 12, 3) := by decide +kernel
theorem dLaw_law_15 : decode code 15 = .ok (.astore_n 2, 1) := by decide +kernel
theorem dLaw_law_16 : decode code 16 = .ok (.iconst 0, 1) := by decide +kernel
theorem dLaw_law_17 : decode code 17 = .ok (.istore_n 3, 1) := by decide +kernel
theorem dLaw_law_18 : decode code 18 = .ok (.iload_n 3, 1) := by decide +kernel
theorem dLaw_law_19 : decode code 19 = .ok (.aload_n 0, 1) := by decide +kernel
theorem dLaw_law_20 : decode code 20 = .ok (.arraylength, 1) := by decide +kernel
theorem dLaw_law_21 : decode code 21 = .ok (.iconst 2, 1) := by decide +kernel
theorem dLaw_law_22 : decode code 22 = .ok (.isub, 1) := by decide +kernel
theorem dLaw_law_23 : decode code 23 = .ok (.if_icmp .gt 383, 3) := by decide +kernel
theorem dLaw_law_26 : decode code 26 = .ok (.aload_n 0, 1) := by decide +kernel
theorem dLaw_law_27 : decode code 27 = .ok (.iload_n 3, 1) := by decide +kernel
theorem dLaw_law_28 : decode code 28 = .ok (.iaload, 1) := by decide +kernel
theorem dLaw_law_29 : decode code 29 = .ok (.bipush 15, 2) := by decide +kernel
theorem dLaw_law_31 : decode code 31 = .ok (.iand, 1) := by decide +kernel
theorem dLaw_law_32 : decode code 32 = .ok (.tableswitch 368 0 15 #[80, 103, 116, 129, 142, 155, 194, 207, 220, 233, 246, 259, 282, 295, 318, 329], 80) := by decide +kernel
theorem dLaw_law_112 : decode code 112 = .ok (.aload_n 1, 1) := by decide +kernel
theorem dLaw_law_113 : decode code 113 = .ok (.aload_n 0, 1) := by decide +kernel
theorem dLaw_law_114 : decode code 114 = .ok (.iload_n 3, 1) := by decide +kernel
theorem dLaw_law_115 : decode code 115 = .ok (.iconst 1, 1) := by decide +kernel
theorem dLaw_law_116 : decode code 116 = .ok (.iadd, 1) := by decide +kernel
theorem dLaw_law_117 : decode code 117 = .ok (.iaload, 1) := by decide +kernel
theorem dLaw_law_118 : decode code 118 = .ok (.invokevirtual 13, 3) := by decide +kernel
theorem dLaw_law_121 : decode code 121 = .ok (.aload_n 2, 1) := by decide +kernel
theorem dLaw_law_122 : decode code 122 = .ok (.aload_n 0, 1) := by decide +kernel
theorem dLaw_law_123 : decode code 123 = .ok (.iload_n 3, 1) := by decide +kernel
theorem dLaw_law_124 : decode code 124 = .ok (.iconst 1, 1) := by decide +kernel
theorem dLaw_law_125 : decode code 125 = .ok (.iadd, 1) := by decide +kernel
theorem dLaw_law_126 : decode code 126 = .ok (.iaload, 1) := by decide +kernel
theorem dLaw_law_127 : decode code 127 = .ok (.invokevirtual 17, 3) := by decide +kernel
theorem dLaw_law_130 : decode code 130 = .ok (.if_icmp .eq 270, 3) := by decide +kernel
theorem dLaw_law_133 : decode code 133 = .ok (.iconst 0, 1) := by decide +kernel
theorem dLaw_law_134 : decode code 134 = .ok (.ireturn, 1) := by decide +kernel
theorem dLaw_law_135 : decode code 135 = .ok (.aload_n 1, 1) := by decide +kernel
theorem dLaw_law_136 : decode code 136 = .ok (.invokevirtual 18, 3) := by decide +kernel
theorem dLaw_law_139 : decode code 139 = .ok (.aload_n 2, 1) := by decide +kernel
theorem dLaw_law_140 : decode code 140 = .ok (.invokevirtual 22, 3) := by decide +kernel
theorem dLaw_law_143 : decode code 143 = .ok (.if_icmp .eq 257, 3) := by decide +kernel
theorem dLaw_law_146 : decode code 146 = .ok (.iconst 0, 1) := by decide +kernel
theorem dLaw_law_147 : decode code 147 = .ok (.ireturn, 1) := by decide +kernel
theorem dLaw_law_148 : decode code 148 = .ok (.aload_n 1, 1) := by decide +kernel
theorem dLaw_law_149 : decode code 149 = .ok (.invokevirtual 23, 3) := by decide +kernel
theorem dLaw_law_152 : decode code 152 = .ok (.aload_n 2, 1) := by decide +kernel
theorem dLaw_law_153 : decode code 153 = .ok (.invokevirtual 26, 3) := by decide +kernel
theorem dLaw_law_156 : decode code 156 = .ok (.if_icmp .eq 244, 3) := by decide +kernel
theorem dLaw_law_159 : decode code 159 = .ok (.iconst 0, 1) := by decide +kernel
theorem dLaw_law_160 : decode code 160 = .ok (.ireturn, 1) := by decide +kernel
theorem dLaw_law_161 : decode code 161 = .ok (.aload_n 1, 1) := by decide +kernel
theorem dLaw_law_162 : decode code 162 = .ok (.invokevirtual 27, 3) := by decide +kernel
theorem dLaw_law_165 : decode code 165 = .ok (.aload_n 2, 1) := by decide +kernel
theorem dLaw_law_166 : decode code 166 = .ok (.invokevirtual 30, 3) := by decide +kernel
theorem dLaw_law_169 : decode code 169 = .ok (.if_icmp .eq 231, 3) := by decide +kernel
theorem dLaw_law_172 : decode code 172 = .ok (.iconst 0, 1) := by decide +kernel
theorem dLaw_law_173 : decode code 173 = .ok (.ireturn, 1) := by decide +kernel
theorem dLaw_law_174 : decode code 174 = .ok (.aload_n 1, 1) := by decide +kernel
theorem dLaw_law_175 : decode code 175 = .ok (.invokevirtual 31, 3) := by decide +kernel
theorem dLaw_law_178 : decode code 178 = .ok (.aload_n 2, 1) := by decide +kernel
theorem dLaw_law_179 : decode code 179 = .ok (.invokevirtual 34, 3) := by decide +kernel
theorem dLaw_law_182 : decode code 182 = .ok (.if_icmp .eq 218, 3) := by decide +kernel
theorem dLaw_law_185 : decode code 185 = .ok (.iconst 0, 1) := by decide +kernel
theorem dLaw_law_186 : decode code 186 = .ok (.ireturn, 1) := by decide +kernel
theorem dLaw_law_187 : decode code 187 = .ok (.aload_n 1, 1) := by decide +kernel
theorem dLaw_law_188 : decode code 188 = .ok (.aload_n 0, 1) := by decide +kernel
theorem dLaw_law_189 : decode code 189 = .ok (.iload_n 3, 1) := by decide +kernel
theorem dLaw_law_190 : decode code 190 = .ok (.iconst 1, 1) := by decide +kernel
theorem dLaw_law_191 : decode code 191 = .ok (.iadd, 1) := by decide +kernel
theorem dLaw_law_192 : decode code 192 = .ok (.iaload, 1) := by decide +kernel
theorem dLaw_law_193 : decode code 193 = .ok (.ifCond .eq 7, 3) := by decide +kernel
theorem dLaw_law_196 : decode code 196 = .ok (.iconst 1, 1) := by decide +kernel
theorem dLaw_law_197 : decode code 197 = .ok (.goto 4, 3) := by decide +kernel
theorem dLaw_law_200 : decode code 200 = .ok (.iconst 0, 1) := by decide +kernel
theorem dLaw_law_201 : decode code 201 = .ok (.invokevirtual 35, 3) := by decide +kernel
theorem dLaw_law_204 : decode code 204 = .ok (.aload_n 2, 1) := by decide +kernel
theorem dLaw_law_205 : decode code 205 = .ok (.aload_n 0, 1) := by decide +kernel
theorem dLaw_law_206 : decode code 206 = .ok (.iload_n 3, 1) := by decide +kernel
theorem dLaw_law_207 : decode code 207 = .ok (.iconst 1, 1) := by decide +kernel
theorem dLaw_law_208 : decode code 208 = .ok (.iadd, 1) := by decide +kernel
theorem dLaw_law_209 : decode code 209 = .ok (.iaload, 1) := by decide +kernel
theorem dLaw_law_210 : decode code 210 = .ok (.ifCond .eq 7, 3) := by decide +kernel
theorem dLaw_law_213 : decode code 213 = .ok (.iconst 1, 1) := by decide +kernel
theorem dLaw_law_214 : decode code 214 = .ok (.goto 4, 3) := by decide +kernel
theorem dLaw_law_217 : decode code 217 = .ok (.iconst 0, 1) := by decide +kernel
theorem dLaw_law_218 : decode code 218 = .ok (.invokevirtual 39, 3) := by decide +kernel
theorem dLaw_law_221 : decode code 221 = .ok (.if_icmp .eq 179, 3) := by decide +kernel
theorem dLaw_law_224 : decode code 224 = .ok (.iconst 0, 1) := by decide +kernel
theorem dLaw_law_225 : decode code 225 = .ok (.ireturn, 1) := by decide +kernel
theorem dLaw_law_226 : decode code 226 = .ok (.aload_n 1, 1) := by decide +kernel
theorem dLaw_law_227 : decode code 227 = .ok (.invokevirtual 40, 3) := by decide +kernel
theorem dLaw_law_230 : decode code 230 = .ok (.aload_n 2, 1) := by decide +kernel
theorem dLaw_law_231 : decode code 231 = .ok (.invokevirtual 43, 3) := by decide +kernel
theorem dLaw_law_234 : decode code 234 = .ok (.if_icmp .eq 166, 3) := by decide +kernel
theorem dLaw_law_237 : decode code 237 = .ok (.iconst 0, 1) := by decide +kernel
theorem dLaw_law_238 : decode code 238 = .ok (.ireturn, 1) := by decide +kernel
theorem dLaw_law_239 : decode code 239 = .ok (.aload_n 1, 1) := by decide +kernel
theorem dLaw_law_240 : decode code 240 = .ok (.invokevirtual 44, 3) := by decide +kernel
theorem dLaw_law_243 : decode code 243 = .ok (.aload_n 2, 1) := by decide +kernel
theorem dLaw_law_244 : decode code 244 = .ok (.invokevirtual 47, 3) := by decide +kernel
theorem dLaw_law_247 : decode code 247 = .ok (.if_icmp .eq 153, 3) := by decide +kernel
theorem dLaw_law_250 : decode code 250 = .ok (.iconst 0, 1) := by decide +kernel
theorem dLaw_law_251 : decode code 251 = .ok (.ireturn, 1) := by decide +kernel
theorem dLaw_law_252 : decode code 252 = .ok (.aload_n 1, 1) := by decide +kernel
theorem dLaw_law_253 : decode code 253 = .ok (.invokevirtual 48, 3) := by decide +kernel
theorem dLaw_law_256 : decode code 256 = .ok (.aload_n 2, 1) := by decide +kernel
theorem dLaw_law_257 : decode code 257 = .ok (.invokevirtual 51, 3) := by decide +kernel
theorem dLaw_law_260 : decode code 260 = .ok (.if_icmp .eq 140, 3) := by decide +kernel
theorem dLaw_law_263 : decode code 263 = .ok (.iconst 0, 1) := by decide +kernel
theorem dLaw_law_264 : decode code 264 = .ok (.ireturn, 1) := by decide +kernel
theorem dLaw_law_265 : decode code 265 = .ok (.aload_n 1, 1) := by decide +kernel
theorem dLaw_law_266 : decode code 266 = .ok (.invokevirtual 52, 3) := by decide +kernel
theorem dLaw_law_269 : decode code 269 = .ok (.aload_n 2, 1) := by decide +kernel
theorem dLaw_law_270 : decode code 270 = .ok (.invokevirtual 55, 3) := by decide +kernel
theorem dLaw_law_273 : decode code 273 = .ok (.if_icmp .eq 127, 3) := by decide +kernel
theorem dLaw_law_276 : decode code 276 = .ok (.iconst 0, 1) := by decide +kernel
theorem dLaw_law_277 : decode code 277 = .ok (.ireturn, 1) := by decide +kernel
theorem dLaw_law_278 : decode code 278 = .ok (.aload_n 1, 1) := by decide +kernel
theorem dLaw_law_279 : decode code 279 = .ok (.invokevirtual 56, 3) := by decide +kernel
theorem dLaw_law_282 : decode code 282 = .ok (.aload_n 2, 1) := by decide +kernel
theorem dLaw_law_283 : decode code 283 = .ok (.invokevirtual 59, 3) := by decide +kernel
theorem dLaw_law_286 : decode code 286 = .ok (.if_icmp .eq 114, 3) := by decide +kernel
theorem dLaw_law_289 : decode code 289 = .ok (.iconst 0, 1) := by decide +kernel
theorem dLaw_law_290 : decode code 290 = .ok (.ireturn, 1) := by decide +kernel
theorem dLaw_law_291 : decode code 291 = .ok (.aload_n 1, 1) := by decide +kernel
theorem dLaw_law_292 : decode code 292 = .ok (.aload_n 0, 1) := by decide +kernel
theorem dLaw_law_293 : decode code 293 = .ok (.iload_n 3, 1) := by decide +kernel
theorem dLaw_law_294 : decode code 294 = .ok (.iconst 1, 1) := by decide +kernel
theorem dLaw_law_295 : decode code 295 = .ok (.iadd, 1) := by decide +kernel
theorem dLaw_law_296 : decode code 296 = .ok (.iaload, 1) := by decide +kernel
theorem dLaw_law_297 : decode code 297 = .ok (.invokevirtual 60, 3) := by decide +kernel
theorem dLaw_law_300 : decode code 300 = .ok (.aload_n 2, 1) := by decide +kernel
theorem dLaw_law_301 : decode code 301 = .ok (.aload_n 0, 1) := by decide +kernel
theorem dLaw_law_302 : decode code 302 = .ok (.iload_n 3, 1) := by decide +kernel
theorem dLaw_law_303 : decode code 303 = .ok (.iconst 1, 1) := by decide +kernel
theorem dLaw_law_304 : decode code 304 = .ok (.iadd, 1) := by decide +kernel
theorem dLaw_law_305 : decode code 305 = .ok (.iaload, 1) := by decide +kernel
theorem dLaw_law_306 : decode code 306 = .ok (.invokevirtual 64, 3) := by decide +kernel
theorem dLaw_law_309 : decode code 309 = .ok (.if_icmp .eq 91, 3) := by decide +kernel
theorem dLaw_law_312 : decode code 312 = .ok (.iconst 0, 1) := by decide +kernel
theorem dLaw_law_313 : decode code 313 = .ok (.ireturn, 1) := by decide +kernel
theorem dLaw_law_314 : decode code 314 = .ok (.aload_n 1, 1) := by decide +kernel
theorem dLaw_law_315 : decode code 315 = .ok (.invokevirtual 65, 3) := by decide +kernel
theorem dLaw_law_318 : decode code 318 = .ok (.aload_n 2, 1) := by decide +kernel
theorem dLaw_law_319 : decode code 319 = .ok (.invokevirtual 68, 3) := by decide +kernel
theorem dLaw_law_322 : decode code 322 = .ok (.if_icmp .eq 78, 3) := by decide +kernel
theorem dLaw_law_325 : decode code 325 = .ok (.iconst 0, 1) := by decide +kernel
theorem dLaw_law_326 : decode code 326 = .ok (.ireturn, 1) := by decide +kernel
theorem dLaw_law_327 : decode code 327 = .ok (.aload_n 1, 1) := by decide +kernel
theorem dLaw_law_328 : decode code 328 = .ok (.aload_n 0, 1) := by decide +kernel
theorem dLaw_law_329 : decode code 329 = .ok (.iload_n 3, 1) := by decide +kernel
theorem dLaw_law_330 : decode code 330 = .ok (.iconst 1, 1) := by decide +kernel
theorem dLaw_law_331 : decode code 331 = .ok (.iadd, 1) := by decide +kernel
theorem dLaw_law_332 : decode code 332 = .ok (.iaload, 1) := by decide +kernel
theorem dLaw_law_333 : decode code 333 = .ok (.invokevirtual 69, 3) := by decide +kernel
theorem dLaw_law_336 : decode code 336 = .ok (.aload_n 2, 1) := by decide +kernel
theorem dLaw_law_337 : decode code 337 = .ok (.aload_n 0, 1) := by decide +kernel
theorem dLaw_law_338 : decode code 338 = .ok (.iload_n 3, 1) := by decide +kernel
theorem dLaw_law_339 : decode code 339 = .ok (.iconst 1, 1) := by decide +kernel
theorem dLaw_law_340 : decode code 340 = .ok (.iadd, 1) := by decide +kernel
theorem dLaw_law_341 : decode code 341 = .ok (.iaload, 1) := by decide +kernel
theorem dLaw_law_342 : decode code 342 = .ok (.invokevirtual 72, 3) := by decide +kernel
theorem dLaw_law_345 : decode code 345 = .ok (.if_icmp .eq 55, 3) := by decide +kernel
theorem dLaw_law_348 : decode code 348 = .ok (.iconst 0, 1) := by decide +kernel
theorem dLaw_law_349 : decode code 349 = .ok (.ireturn, 1) := by decide +kernel
theorem dLaw_law_350 : decode code 350 = .ok (.aload_n 1, 1) := by decide +kernel
theorem dLaw_law_351 : decode code 351 = .ok (.invokevirtual 73, 3) := by decide +kernel
theorem dLaw_law_354 : decode code 354 = .ok (.aload_n 2, 1) := by decide +kernel
theorem dLaw_law_355 : decode code 355 = .ok (.invokevirtual 76, 3) := by decide +kernel
theorem dLaw_law_358 : decode code 358 = .ok (.goto 42, 3) := by decide +kernel
theorem dLaw_law_361 : decode code 361 = .ok (.aload_n 1, 1) := by decide +kernel
theorem dLaw_law_362 : decode code 362 = .ok (.aload_n 0, 1) := by decide +kernel
theorem dLaw_law_363 : decode code 363 = .ok (.iload_n 3, 1) := by decide +kernel
theorem dLaw_law_364 : decode code 364 = .ok (.iconst 1, 1) := by decide +kernel
theorem dLaw_law_365 : decode code 365 = .ok (.iadd, 1) := by decide +kernel
theorem dLaw_law_366 : decode code 366 = .ok (.iaload, 1) := by decide +kernel
theorem dLaw_law_367 : decode code 367 = .ok (.ifCond .eq 7, 3) := by decide +kernel
theorem dLaw_law_370 : decode code 370 = .ok (.iconst 1, 1) := by decide +kernel
theorem dLaw_law_371 : decode code 371 = .ok (.goto 4, 3) := by decide +kernel
theorem dLaw_law_374 : decode code 374 = .ok (.iconst 0, 1) := by decide +kernel
theorem dLaw_law_375 : decode code 375 = .ok (.invokevirtual 77, 3) := by decide +kernel
theorem dLaw_law_378 : decode code 378 = .ok (.aload_n 2, 1) := by decide +kernel
theorem dLaw_law_379 : decode code 379 = .ok (.aload_n 0, 1) := by decide +kernel
theorem dLaw_law_380 : decode code 380 = .ok (.iload_n 3, 1) := by decide +kernel
theorem dLaw_law_381 : decode code 381 = .ok (.iconst 1, 1) := by decide +kernel
theorem dLaw_law_382 : decode code 382 = .ok (.iadd, 1) := by decide +kernel
theorem dLaw_law_383 : decode code 383 = .ok (.iaload, 1) := by decide +kernel
theorem dLaw_law_384 : decode code 384 = .ok (.ifCond .eq 7, 3) := by decide +kernel
theorem dLaw_law_387 : decode code 387 = .ok (.iconst 1, 1) := by decide +kernel
theorem dLaw_law_388 : decode code 388 = .ok (.goto 4, 3) := by decide +kernel
theorem dLaw_law_391 : decode code 391 = .ok (.iconst 0, 1) := by decide +kernel
theorem dLaw_law_392 : decode code 392 = .ok (.invokevirtual 80, 3) := by decide +kernel
theorem dLaw_law_395 : decode code 395 = .ok (.if_icmp .eq 5, 3) := by decide +kernel
theorem dLaw_law_398 : decode code 398 = .ok (.iconst 0, 1) := by decide +kernel
theorem dLaw_law_399 : decode code 399 = .ok (.ireturn, 1) := by decide +kernel
theorem dLaw_law_400 : decode code 400 = .ok (.iinc 3 2, 3) := by decide +kernel
theorem dLaw_law_403 : decode code 403 = .ok (.goto (-385), 3) := by decide +kernel
theorem dLaw_law_406 : decode code 406 = .ok (.iconst 1, 1) := by decide +kernel
theorem dLaw_law_407 : decode code 407 = .ok (.ireturn, 1) := by decide +kernel
