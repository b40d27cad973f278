theorem dl_0 : decode code 0 = .ok (.new 8, 3) := by decide +kernel
theorem dl_3 : decode code 3 = .ok (.dup, 1) := by decide +kernel
theorem dl_4 : decode code 4 = .ok (.invokespecial 74, 3) := by decide +kernel
theorem dl_7 : decode code 7 = .ok (.astore_n 1, 1) := by decide +kernel
theorem dl_8 : decode code 8 = .ok (.new 75, 3) := by decide +kernel
theorem dl_11 : decode code 11 = .ok (.dup, 1) := by decide +kernel
theorem dl_12 : decode code 12 = .ok (.invokespecial 77, 3) := by decide +kernel
theorem dl_15 : decode code 15 = .ok (.astore_n 2, 1) := by decide +kernel
theorem dl_16 : decode code 16 = .ok (.iconst 1, 1) := by decide +kernel
theorem dl_17 : decode code 17 = .ok (.newarray .long, 2) := by decide +kernel
theorem dl_19 : decode code 19 = .ok (.astore_n 3, 1) := by decide +kernel
theorem dl_20 : decode code 20 = .ok (.iconst 0, 1) := by decide +kernel
theorem dl_21 : decode code 21 = .ok (.istore 4, 2) := by decide +kernel
theorem dl_23 : decode code 23 = .ok (.iload 4, 2) := by decide +kernel
theorem dl_25 : decode code 25 = .ok (.aload_n 0, 1) := by decide +kernel
theorem dl_26 : decode code 26 = .ok (.arraylength, 1) := by decide +kernel
theorem dl_27 : decode code 27 = .ok (.bipush 7, 2) := by decide +kernel
theorem dl_29 : decode code 29 = .ok (.isub, 1) := by decide +kernel
theorem dl_30 : decode code 30 = .ok (.if_icmp .gt 923, 3) := by decide +kernel
theorem dl_33 : decode code 33 = .ok (.aload_n 0, 1) := by decide +kernel
theorem dl_34 : decode code 34 = .ok (.iload 4, 2) := by decide +kernel
theorem dl_36 : decode code 36 = .ok (.iaload, 1) := by decide +kernel
theorem dl_37 : decode code 37 = .ok (.bipush 31, 2) := by decide +kernel
theorem dl_39 : decode code 39 = .ok (.iand, 1) := by decide +kernel
theorem dl_40 : decode code 40 = .ok (.tableswitch 907 0 18 #[92, 141, 214, 301, 353, 402, 463, 515, 528, 556, 632, 657, 697, 713, 726, 739, 767, 819, 883], 92) := by decide +kernel
theorem dl_132 : decode code 132 = .ok (.aload_n 1, 1) := by decide +kernel
theorem dl_133 : decode code 133 = .ok (.aload_n 0, 1) := by decide +kernel
theorem dl_134 : decode code 134 = .ok (.iload 4, 2) := by decide +kernel
theorem dl_136 : decode code 136 = .ok (.iconst 1, 1) := by decide +kernel
theorem dl_137 : decode code 137 = .ok (.iadd, 1) := by decide +kernel
theorem dl_138 : decode code 138 = .ok (.iaload, 1) := by decide +kernel
theorem dl_139 : decode code 139 = .ok (.aload_n 0, 1) := by decide +kernel
theorem dl_140 : decode code 140 = .ok (.iload 4, 2) := by decide +kernel
theorem dl_142 : decode code 142 = .ok (.iconst 2, 1) := by decide +kernel
theorem dl_143 : decode code 143 = .ok (.iadd, 1) := by decide +kernel
theorem dl_144 : decode code 144 = .ok (.iaload, 1) := by decide +kernel
theorem dl_145 : decode code 145 = .ok (.aload_n 0, 1) := by decide +kernel
theorem dl_146 : decode code 146 = .ok (.iload 4, 2) := by decide +kernel
theorem dl_148 : decode code 148 = .ok (.iconst 3, 1) := by decide +kernel
theorem dl_149 : decode code 149 = .ok (.iadd, 1) := by decide +kernel
theorem dl_150 : decode code 150 = .ok (.iaload, 1) := by decide +kernel
theorem dl_151 : decode code 151 = .ok (.invokestatic 78, 3) := by decide +kernel
theorem dl_154 : decode code 154 = .ok (.istore 5, 2) := by decide +kernel
theorem dl_156 : decode code 156 = .ok (.aload_n 2, 1) := by decide +kernel
theorem dl_157 : decode code 157 = .ok (.aload_n 0, 1) := by decide +kernel
theorem dl_158 : decode code 158 = .ok (.iload 4, 2) := by decide +kernel
theorem dl_160 : decode code 160 = .ok (.iconst 1, 1) := by decide +kernel
theorem dl_161 : decode code 161 = .ok (.iadd, 1) := by decide +kernel
theorem dl_162 : decode code 162 = .ok (.iaload, 1) := by decide +kernel
theorem dl_163 : decode code 163 = .ok (.aload_n 0, 1) := by decide +kernel
theorem dl_164 : decode code 164 = .ok (.iload 4, 2) := by decide +kernel
theorem dl_166 : decode code 166 = .ok (.iconst 2, 1) := by decide +kernel
theorem dl_167 : decode code 167 = .ok (.iadd, 1) := by decide +kernel
theorem dl_168 : decode code 168 = .ok (.iaload, 1) := by decide +kernel
theorem dl_169 : decode code 169 = .ok (.aload_n 0, 1) := by decide +kernel
theorem dl_170 : decode code 170 = .ok (.iload 4, 2) := by decide +kernel
theorem dl_172 : decode code 172 = .ok (.iconst 3, 1) := by decide +kernel
theorem dl_173 : decode code 173 = .ok (.iadd, 1) := by decide +kernel
theorem dl_174 : decode code 174 = .ok (.iaload, 1) := by decide +kernel
theorem dl_175 : decode code 175 = .ok (.invokevirtual 83, 3) := by decide +kernel
theorem dl_178 : decode code 178 = .ok (.goto 769, 3) := by decide +kernel
theorem dl_181 : decode code 181 = .ok (.aload_n 1, 1) := by decide +kernel
theorem dl_182 : decode code 182 = .ok (.aload_n 0, 1) := by decide +kernel
theorem dl_183 : decode code 183 = .ok (.iload 4, 2) := by decide +kernel
theorem dl_185 : decode code 185 = .ok (.iconst 1, 1) := by decide +kernel
theorem dl_186 : decode code 186 = .ok (.iadd, 1) := by decide +kernel
theorem dl_187 : decode code 187 = .ok (.iaload, 1) := by decide +kernel
theorem dl_188 : decode code 188 = .ok (.aload_n 0, 1) := by decide +kernel
theorem dl_189 : decode code 189 = .ok (.iload 4, 2) := by decide +kernel
theorem dl_191 : decode code 191 = .ok (.iconst 2, 1) := by decide +kernel
theorem dl_192 : decode code 192 = .ok (.iadd, 1) := by decide +kernel
theorem dl_193 : decode code 193 = .ok (.iaload, 1) := by decide +kernel
theorem dl_194 : decode code 194 = .ok (.aload_n 0, 1) := by decide +kernel
theorem dl_195 : decode code 195 = .ok (.iload 4, 2) := by decide +kernel
theorem dl_197 : decode code 197 = .ok (.iconst 3, 1) := by decide +kernel
theorem dl_198 : decode code 198 = .ok (.iadd, 1) := by decide +kernel
theorem dl_199 : decode code 199 = .ok (.iaload, 1) := by decide +kernel
theorem dl_200 : decode code 200 = .ok (.aload_n 0, 1) := by decide +kernel
theorem dl_201 : decode code 201 = .ok (.iload 4, 2) := by decide +kernel
theorem dl_203 : decode code 203 = .ok (.iconst 4, 1) := by decide +kernel
theorem dl_204 : decode code 204 = .ok (.iadd, 1) := by decide +kernel
theorem dl_205 : decode code 205 = .ok (.iaload, 1) := by decide +kernel
theorem dl_206 : decode code 206 = .ok (.aload_n 0, 1) := by decide +kernel
theorem dl_207 : decode code 207 = .ok (.iload 4, 2) := by decide +kernel
theorem dl_209 : decode code 209 = .ok (.iconst 5, 1) := by decide +kernel
theorem dl_210 : decode code 210 = .ok (.iadd, 1) := by decide +kernel
theorem dl_211 : decode code 211 = .ok (.iaload, 1) := by decide +kernel
theorem dl_212 : decode code 212 = .ok (.invokestatic 84, 3) := by decide +kernel
theorem dl_215 : decode code 215 = .ok (.istore 5, 2) := by decide +kernel
theorem dl_217 : decode code 217 = .ok (.aload_n 2, 1) := by decide +kernel
theorem dl_218 : decode code 218 = .ok (.aload_n 0, 1) := by decide +kernel
theorem dl_219 : decode code 219 = .ok (.iload 4, 2) := by decide +kernel
theorem dl_221 : decode code 221 = .ok (.iconst 1, 1) := by decide +kernel
theorem dl_222 : decode code 222 = .ok (.iadd, 1) := by decide +kernel
theorem dl_223 : decode code 223 = .ok (.iaload, 1) := by decide +kernel
theorem dl_224 : decode code 224 = .ok (.aload_n 0, 1) := by decide +kernel
theorem dl_225 : decode code 225 = .ok (.iload 4, 2) := by decide +kernel
theorem dl_227 : decode code 227 = .ok (.iconst 2, 1) := by decide +kernel
theorem dl_228 : decode code 228 = .ok (.iadd, 1) := by decide +kernel
theorem dl_229 : decode code 229 = .ok (.iaload, 1) := by decide +kernel
theorem dl_230 : decode code 230 = .ok (.aload_n 0, 1) := by decide +kernel
theorem dl_231 : decode code 231 = .ok (.iload 4, 2) := by decide +kernel
theorem dl_233 : decode code 233 = .ok (.iconst 3, 1) := by decide +kernel
theorem dl_234 : decode code 234 = .ok (.iadd, 1) := by decide +kernel
theorem dl_235 : decode code 235 = .ok (.iaload, 1) := by decide +kernel
theorem dl_236 : decode code 236 = .ok (.aload_n 0, 1) := by decide +kernel
theorem dl_237 : decode code 237 = .ok (.iload 4, 2) := by decide +kernel
theorem dl_239 : decode code 239 = .ok (.iconst 4, 1) := by decide +kernel
theorem dl_240 : decode code 240 = .ok (.iadd, 1) := by decide +kernel
theorem dl_241 : decode code 241 = .ok (.iaload, 1) := by decide +kernel
theorem dl_242 : decode code 242 = .ok (.aload_n 0, 1) := by decide +kernel
theorem dl_243 : decode code 243 = .ok (.iload 4, 2) := by decide +kernel
theorem dl_245 : decode code 245 = .ok (.iconst 5, 1) := by decide +kernel
theorem dl_246 : decode code 246 = .ok (.iadd, 1) := by decide +kernel
theorem dl_247 : decode code 247 = .ok (.iaload, 1) := by decide +kernel
theorem dl_248 : decode code 248 = .ok (.invokevirtual 87, 3) := by decide +kernel
theorem dl_251 : decode code 251 = .ok (.goto 696, 3) := by decide +kernel
theorem dl_254 : decode code 254 = .ok (.aload_n 1, 1) := by decide +kernel
theorem dl_255 : decode code 255 = .ok (.aload_n 0, 1) := by decide +kernel
theorem dl_256 : decode code 256 = .ok (.iload 4, 2) := by decide +kernel
theorem dl_258 : decode code 258 = .ok (.iconst 1, 1) := by decide +kernel
theorem dl_259 : decode code 259 = .ok (.iadd, 1) := by decide +kernel
theorem dl_260 : decode code 260 = .ok (.iaload, 1) := by decide +kernel
theorem dl_261 : decode code 261 = .ok (.aload_n 0, 1) := by decide +kernel
theorem dl_262 : decode code 262 = .ok (.iload 4, 2) := by decide +kernel
theorem dl_264 : decode code 264 = .ok (.iconst 2, 1) := by decide +kernel
theorem dl_265 : decode code 265 = .ok (.iadd, 1) := by decide +kernel
theorem dl_266 : decode code 266 = .ok (.iaload, 1) := by decide +kernel
theorem dl_267 : decode code 267 = .ok (.aload_n 0, 1) := by decide +kernel
theorem dl_268 : decode code 268 = .ok (.iload 4, 2) := by decide +kernel
theorem dl_270 : decode code 270 = .ok (.iconst 3, 1) := by decide +kernel
theorem dl_271 : decode code 271 = .ok (.iadd, 1) := by decide +kernel
theorem dl_272 : decode code 272 = .ok (.iaload, 1) := by decide +kernel
theorem dl_273 : decode code 273 = .ok (.aload_n 0, 1) := by decide +kernel
theorem dl_274 : decode code 274 = .ok (.iload 4, 2) := by decide +kernel
theorem dl_276 : decode code 276 = .ok (.iconst 4, 1) := by decide +kernel
theorem dl_277 : decode code 277 = .ok (.iadd, 1) := by decide +kernel
theorem dl_278 : decode code 278 = .ok (.iaload, 1) := by decide +kernel
theorem dl_279 : decode code 279 = .ok (.aload_n 0, 1) := by decide +kernel
theorem dl_280 : decode code 280 = .ok (.iload 4, 2) := by decide +kernel
theorem dl_282 : decode code 282 = .ok (.iconst 5, 1) := by decide +kernel
theorem dl_283 : decode code 283 = .ok (.iadd, 1) := by decide +kernel
theorem dl_284 : decode code 284 = .ok (.iaload, 1) := by decide +kernel
theorem dl_285 : decode code 285 = .ok (.aload_n 0, 1) := by decide +kernel
theorem dl_286 : decode code 286 = .ok (.iload 4, 2) := by decide +kernel
theorem dl_288 : decode code 288 = .ok (.bipush 6, 2) := by decide +kernel
theorem dl_290 : decode code 290 = .ok (.iadd, 1) := by decide +kernel
theorem dl_291 : decode code 291 = .ok (.iaload, 1) := by decide +kernel
theorem dl_292 : decode code 292 = .ok (.invokestatic 88, 3) := by decide +kernel
theorem dl_295 : decode code 295 = .ok (.istore 5, 2) := by decide +kernel
theorem dl_297 : decode code 297 = .ok (.aload_n 2, 1) := by decide +kernel
theorem dl_298 : decode code 298 = .ok (.aload_n 0, 1) := by decide +kernel
theorem dl_299 : decode code 299 = .ok (.iload 4, 2) := by decide +kernel
theorem dl_301 : decode code 301 = .ok (.iconst 1, 1) := by decide +kernel
theorem dl_302 : decode code 302 = .ok (.iadd, 1) := by decide +kernel
theorem dl_303 : decode code 303 = .ok (.iaload, 1) := by decide +kernel
theorem dl_304 : decode code 304 = .ok (.aload_n 0, 1) := by decide +kernel
theorem dl_305 : decode code 305 = .ok (.iload 4, 2) := by decide +kernel
theorem dl_307 : decode code 307 = .ok (.iconst 2, 1) := by decide +kernel
theorem dl_308 : decode code 308 = .ok (.iadd, 1) := by decide +kernel
theorem dl_309 : decode code 309 = .ok (.iaload, 1) := by decide +kernel
theorem dl_310 : decode code 310 = .ok (.aload_n 0, 1) := by decide +kernel
theorem dl_311 : decode code 311 = .ok (.iload 4, 2) := by decide +kernel
theorem dl_313 : decode code 313 = .ok (.iconst 3, 1) := by decide +kernel
theorem dl_314 : decode code 314 = .ok (.iadd, 1) := by decide +kernel
theorem dl_315 : decode code 315 = .ok (.iaload, 1) := by decide +kernel
theorem dl_316 : decode code 316 = .ok (.aload_n 0, 1) := by decide +kernel
theorem dl_317 : decode code 317 = .ok (.iload 4, 2) := by decide +kernel
theorem dl_319 : decode code 319 = .ok (.iconst 4, 1) := by decide +kernel
theorem dl_320 : decode code 320 = .ok (.iadd, 1) := by decide +kernel
theorem dl_321 : decode code 321 = .ok (.iaload, 1) := by decide +kernel
theorem dl_322 : decode code 322 = .ok (.aload_n 0, 1) := by decide +kernel
theorem dl_323 : decode code 323 = .ok (.iload 4, 2) := by decide +kernel
theorem dl_325 : decode code 325 = .ok (.iconst 5, 1) := by decide +kernel
theorem dl_326 : decode code 326 = .ok (.iadd, 1) := by decide +kernel
theorem dl_327 : decode code 327 = .ok (.iaload, 1) := by decide +kernel
theorem dl_328 : decode code 328 = .ok (.aload_n 0, 1) := by decide +kernel
theorem dl_329 : decode code 329 = .ok (.iload 4, 2) := by decide +kernel
theorem dl_331 : decode code 331 = .ok (.bipush 6, 2) := by decide +kernel
theorem dl_333 : decode code 333 = .ok (.iadd, 1) := by decide +kernel
theorem dl_334 : decode code 334 = .ok (.iaload, 1) := by decide +kernel
theorem dl_335 : decode code 335 = .ok (.invokevirtual 91, 3) := by decide +kernel
theorem dl_338 : decode code 338 = .ok (.goto 609, 3) := by decide +kernel
theorem dl_341 : decode code 341 = .ok (.aload_n 1, 1) := by decide +kernel
theorem dl_342 : decode code 342 = .ok (.aload_n 0, 1) := by decide +kernel
theorem dl_343 : decode code 343 = .ok (.iload 4, 2) := by decide +kernel
theorem dl_345 : decode code 345 = .ok (.iconst 1, 1) := by decide +kernel
theorem dl_346 : decode code 346 = .ok (.iadd, 1) := by decide +kernel
theorem dl_347 : decode code 347 = .ok (.iaload, 1) := by decide +kernel
theorem dl_348 : decode code 348 = .ok (.aload_n 0, 1) := by decide +kernel
theorem dl_349 : decode code 349 = .ok (.iload 4, 2) := by decide +kernel
theorem dl_351 : decode code 351 = .ok (.iconst 2, 1) := by decide +kernel
theorem dl_352 : decode code 352 = .ok (.iadd, 1) := by decide +kernel
theorem dl_353 : decode code 353 = .ok (.iaload, 1) := by decide +kernel
theorem dl_354 : decode code 354 = .ok (.aload_n 0, 1) := by decide +kernel
theorem dl_355 : decode code 355 = .ok (.iload 4, 2) := by decide +kernel
theorem dl_357 : decode code 357 = .ok (.iconst 3, 1) := by decide +kernel
theorem dl_358 : decode code 358 = .ok (.iadd, 1) := by decide +kernel
theorem dl_359 : decode code 359 = .ok (.iaload, 1) := by decide +kernel
theorem dl_360 : decode code 360 = .ok (.aload_n 3, 1) := by decide +kernel
theorem dl_361 : decode code 361 = .ok (.invokestatic 92, 3) := by decide +kernel
theorem dl_364 : decode code 364 = .ok (.istore 5, 2) := by decide +kernel
theorem dl_366 : decode code 366 = .ok (.aload_n 2, 1) := by decide +kernel
theorem dl_367 : decode code 367 = .ok (.aload_n 0, 1) := by decide +kernel
theorem dl_368 : decode code 368 = .ok (.iload 4, 2) := by decide +kernel
theorem dl_370 : decode code 370 = .ok (.iconst 1, 1) := by decide +kernel
theorem dl_371 : decode code 371 = .ok (.iadd, 1) := by decide +kernel
theorem dl_372 : decode code 372 = .ok (.iaload, 1) := by decide +kernel
theorem dl_373 : decode code 373 = .ok (.aload_n 0, 1) := by decide +kernel
theorem dl_374 : decode code 374 = .ok (.iload 4, 2) := by decide +kernel
theorem dl_376 : decode code 376 = .ok (.iconst 2, 1) := by decide +kernel
theorem dl_377 : decode code 377 = .ok (.iadd, 1) := by decide +kernel
theorem dl_378 : decode code 378 = .ok (.iaload, 1) := by decide +kernel
theorem dl_379 : decode code 379 = .ok (.aload_n 0, 1) := by decide +kernel
theorem dl_380 : decode code 380 = .ok (.iload 4, 2) := by decide +kernel
theorem dl_382 : decode code 382 = .ok (.iconst 3, 1) := by decide +kernel
theorem dl_383 : decode code 383 = .ok (.iadd, 1) := by decide +kernel
theorem dl_384 : decode code 384 = .ok (.iaload, 1) := by decide +kernel
theorem dl_385 : decode code 385 = .ok (.invokevirtual 95, 3) := by decide +kernel
theorem dl_388 : decode code 388 = .ok (.istore 6, 2) := by decide +kernel
theorem dl_390 : decode code 390 = .ok (.goto 557, 3) := by decide +kernel
theorem dl_393 : decode code 393 = .ok (.aload_n 1, 1) := by decide +kernel
theorem dl_394 : decode code 394 = .ok (.aload_n 0, 1) := by decide +kernel
theorem dl_395 : decode code 395 = .ok (.iload 4, 2) := by decide +kernel
theorem dl_397 : decode code 397 = .ok (.iconst 1, 1) := by decide +kernel
theorem dl_398 : decode code 398 = .ok (.iadd, 1) := by decide +kernel
theorem dl_399 : decode code 399 = .ok (.iaload, 1) := by decide +kernel
theorem dl_400 : decode code 400 = .ok (.aload_n 0, 1) := by decide +kernel
theorem dl_401 : decode code 401 = .ok (.iload 4, 2) := by decide +kernel
theorem dl_403 : decode code 403 = .ok (.iconst 2, 1) := by decide +kernel
theorem dl_404 : decode code 404 = .ok (.iadd, 1) := by decide +kernel
theorem dl_405 : decode code 405 = .ok (.iaload, 1) := by decide +kernel
theorem dl_406 : decode code 406 = .ok (.aload_n 0, 1) := by decide +kernel
theorem dl_407 : decode code 407 = .ok (.iload 4, 2) := by decide +kernel
theorem dl_409 : decode code 409 = .ok (.iconst 3, 1) := by decide +kernel
theorem dl_410 : decode code 410 = .ok (.iadd, 1) := by decide +kernel
theorem dl_411 : decode code 411 = .ok (.iaload, 1) := by decide +kernel
theorem dl_412 : decode code 412 = .ok (.invokestatic 96, 3) := by decide +kernel
theorem dl_415 : decode code 415 = .ok (.istore 5, 2) := by decide +kernel
theorem dl_417 : decode code 417 = .ok (.aload_n 2, 1) := by decide +kernel
theorem dl_418 : decode code 418 = .ok (.aload_n 0, 1) := by decide +kernel
theorem dl_419 : decode code 419 = .ok (.iload 4, 2) := by decide +kernel
theorem dl_421 : decode code 421 = .ok (.iconst 1, 1) := by decide +kernel
theorem dl_422 : decode code 422 = .ok (.iadd, 1) := by decide +kernel
theorem dl_423 : decode code 423 = .ok (.iaload, 1) := by decide +kernel
theorem dl_424 : decode code 424 = .ok (.aload_n 0, 1) := by decide +kernel
theorem dl_425 : decode code 425 = .ok (.iload 4, 2) := by decide +kernel
theorem dl_427 : decode code 427 = .ok (.iconst 2, 1) := by decide +kernel
theorem dl_428 : decode code 428 = .ok (.iadd, 1) := by decide +kernel
theorem dl_429 : decode code 429 = .ok (.iaload, 1) := by decide +kernel
theorem dl_430 : decode code 430 = .ok (.aload_n 0, 1) := by decide +kernel
theorem dl_431 : decode code 431 = .ok (.iload 4, 2) := by decide +kernel
theorem dl_433 : decode code 433 = .ok (.iconst 3, 1) := by decide +kernel
theorem dl_434 : decode code 434 = .ok (.iadd, 1) := by decide +kernel
theorem dl_435 : decode code 435 = .ok (.iaload, 1) := by decide +kernel
theorem dl_436 : decode code 436 = .ok (.invokevirtual 98, 3) := by decide +kernel
theorem dl_439 : decode code 439 = .ok (.goto 508, 3) := by decide +kernel
theorem dl_442 : decode code 442 = .ok (.aload_n 1, 1) := by decide +kernel
theorem dl_443 : decode code 443 = .ok (.aload_n 0, 1) := by decide +kernel
theorem dl_444 : decode code 444 = .ok (.iload 4, 2) := by decide +kernel
theorem dl_446 : decode code 446 = .ok (.iconst 1, 1) := by decide +kernel
theorem dl_447 : decode code 447 = .ok (.iadd, 1) := by decide +kernel
theorem dl_448 : decode code 448 = .ok (.iaload, 1) := by decide +kernel
theorem dl_449 : decode code 449 = .ok (.aload_n 0, 1) := by decide +kernel
theorem dl_450 : decode code 450 = .ok (.iload 4, 2) := by decide +kernel
theorem dl_452 : decode code 452 = .ok (.iconst 2, 1) := by decide +kernel
theorem dl_453 : decode code 453 = .ok (.iadd, 1) := by decide +kernel
theorem dl_454 : decode code 454 = .ok (.iaload, 1) := by decide +kernel
theorem dl_455 : decode code 455 = .ok (.aload_n 0, 1) := by decide +kernel
theorem dl_456 : decode code 456 = .ok (.iload 4, 2) := by decide +kernel
theorem dl_458 : decode code 458 = .ok (.iconst 3, 1) := by decide +kernel
theorem dl_459 : decode code 459 = .ok (.iadd, 1) := by decide +kernel
theorem dl_460 : decode code 460 = .ok (.iaload, 1) := by decide +kernel
theorem dl_461 : decode code 461 = .ok (.aload_n 0, 1) := by decide +kernel
theorem dl_462 : decode code 462 = .ok (.iload 4, 2) := by decide +kernel
theorem dl_464 : decode code 464 = .ok (.iconst 4, 1) := by decide +kernel
theorem dl_465 : decode code 465 = .ok (.iadd, 1) := by decide +kernel
theorem dl_466 : decode code 466 = .ok (.iaload, 1) := by decide +kernel
theorem dl_467 : decode code 467 = .ok (.invokestatic 99, 3) := by decide +kernel
theorem dl_470 : decode code 470 = .ok (.istore 5, 2) := by decide +kernel
theorem dl_472 : decode code 472 = .ok (.aload_n 2, 1) := by decide +kernel
theorem dl_473 : decode code 473 = .ok (.aload_n 0, 1) := by decide +kernel
theorem dl_474 : decode code 474 = .ok (.iload 4, 2) := by decide +kernel
theorem dl_476 : decode code 476 = .ok (.iconst 1, 1) := by decide +kernel
theorem dl_477 : decode code 477 = .ok (.iadd, 1) := by decide +kernel
theorem dl_478 : decode code 478 = .ok (.iaload, 1) := by decide +kernel
theorem dl_479 : decode code 479 = .ok (.aload_n 0, 1) := by decide +kernel
theorem dl_480 : decode code 480 = .ok (.iload 4, 2) := by decide +kernel
theorem dl_482 : decode code 482 = .ok (.iconst 2, 1) := by decide +kernel
theorem dl_483 : decode code 483 = .ok (.iadd, 1) := by decide +kernel
theorem dl_484 : decode code 484 = .ok (.iaload, 1) := by decide +kernel
theorem dl_485 : decode code 485 = .ok (.aload_n 0, 1) := by decide +kernel
theorem dl_486 : decode code 486 = .ok (.iload 4, 2) := by decide +kernel
theorem dl_488 : decode code 488 = .ok (.iconst 3, 1) := by decide +kernel
theorem dl_489 : decode code 489 = .ok (.iadd, 1) := by decide +kernel
theorem dl_490 : decode code 490 = .ok (.iaload, 1) := by decide +kernel
theorem dl_491 : decode code 491 = .ok (.aload_n 0, 1) := by decide +kernel
theorem dl_492 : decode code 492 = .ok (.iload 4, 2) := by decide +kernel
theorem dl_494 : decode code 494 = .ok (.iconst 4, 1) := by decide +kernel
theorem dl_495 : decode code 495 = .ok (.iadd, 1) := by decide +kernel
theorem dl_496 : decode code 496 = .ok (.iaload, 1) := by decide +kernel
theorem dl_497 : decode code 497 = .ok (.invokevirtual 102, 3) := by decide +kernel
theorem dl_500 : decode code 500 = .ok (.goto 447, 3) := by decide +kernel
theorem dl_503 : decode code 503 = .ok (.aload_n 1, 1) := by decide +kernel
theorem dl_504 : decode code 504 = .ok (.aload_n 0, 1) := by decide +kernel
theorem dl_505 : decode code 505 = .ok (.iload 4, 2) := by decide +kernel
theorem dl_507 : decode code 507 = .ok (.iconst 1, 1) := by decide +kernel
theorem dl_508 : decode code 508 = .ok (.iadd, 1) := by decide +kernel
theorem dl_509 : decode code 509 = .ok (.iaload, 1) := by decide +kernel
theorem dl_510 : decode code 510 = .ok (.aload_n 0, 1) := by decide +kernel
theorem dl_511 : decode code 511 = .ok (.iload 4, 2) := by decide +kernel
theorem dl_513 : decode code 513 = .ok (.iconst 2, 1) := by decide +kernel
theorem dl_514 : decode code 514 = .ok (.iadd, 1) := by decide +kernel
theorem dl_515 : decode code 515 = .ok (.iaload, 1) := by decide +kernel
theorem dl_516 : decode code 516 = .ok (.aload_n 0, 1) := by decide +kernel
theorem dl_517 : decode code 517 = .ok (.iload 4, 2) := by decide +kernel
theorem dl_519 : decode code 519 = .ok (.iconst 3, 1) := by decide +kernel
theorem dl_520 : decode code 520 = .ok (.iadd, 1) := by decide +kernel
theorem dl_521 : decode code 521 = .ok (.iaload, 1) := by decide +kernel
theorem dl_522 : decode code 522 = .ok (.aload_n 3, 1) := by decide +kernel
theorem dl_523 : decode code 523 = .ok (.invokestatic 103, 3) := by decide +kernel
theorem dl_526 : decode code 526 = .ok (.istore 5, 2) := by decide +kernel
theorem dl_528 : decode code 528 = .ok (.aload_n 2, 1) := by decide +kernel
theorem dl_529 : decode code 529 = .ok (.aload_n 0, 1) := by decide +kernel
theorem dl_530 : decode code 530 = .ok (.iload 4, 2) := by decide +kernel
theorem dl_532 : decode code 532 = .ok (.iconst 1, 1) := by decide +kernel
theorem dl_533 : decode code 533 = .ok (.iadd, 1) := by decide +kernel
theorem dl_534 : decode code 534 = .ok (.iaload, 1) := by decide +kernel
theorem dl_535 : decode code 535 = .ok (.aload_n 0, 1) := by decide +kernel
theorem dl_536 : decode code 536 = .ok (.iload 4, 2) := by decide +kernel
theorem dl_538 : decode code 538 = .ok (.iconst 2, 1) := by decide +kernel
theorem dl_539 : decode code 539 = .ok (.iadd, 1) := by decide +kernel
theorem dl_540 : decode code 540 = .ok (.iaload, 1) := by decide +kernel
theorem dl_541 : decode code 541 = .ok (.aload_n 0, 1) := by decide +kernel
theorem dl_542 : decode code 542 = .ok (.iload 4, 2) := by decide +kernel
theorem dl_544 : decode code 544 = .ok (.iconst 3, 1) := by decide +kernel
theorem dl_545 : decode code 545 = .ok (.iadd, 1) := by decide +kernel
theorem dl_546 : decode code 546 = .ok (.iaload, 1) := by decide +kernel
theorem dl_547 : decode code 547 = .ok (.invokevirtual 105, 3) := by decide +kernel
theorem dl_550 : decode code 550 = .ok (.istore 6, 2) := by decide +kernel
theorem dl_552 : decode code 552 = .ok (.goto 395, 3) := by decide +kernel
theorem dl_555 : decode code 555 = .ok (.aload_n 1, 1) := by decide +kernel
theorem dl_556 : decode code 556 = .ok (.invokevirtual 106, 3) := by decide +kernel
theorem dl_559 : decode code 559 = .ok (.pop, 1) := by decide +kernel
theorem dl_560 : decode code 560 = .ok (.aload_n 2, 1) := by decide +kernel
theorem dl_561 : decode code 561 = .ok (.invokevirtual 109, 3) := by decide +kernel
theorem dl_564 : decode code 564 = .ok (.pop, 1) := by decide +kernel
theorem dl_565 : decode code 565 = .ok (.goto 382, 3) := by decide +kernel
theorem dl_568 : decode code 568 = .ok (.aload_n 1, 1) := by decide +kernel
theorem dl_569 : decode code 569 = .ok (.aload_n 0, 1) := by decide +kernel
theorem dl_570 : decode code 570 = .ok (.iload 4, 2) := by decide +kernel
theorem dl_572 : decode code 572 = .ok (.iconst 1, 1) := by decide +kernel
theorem dl_573 : decode code 573 = .ok (.iadd, 1) := by decide +kernel
theorem dl_574 : decode code 574 = .ok (.iaload, 1) := by decide +kernel
theorem dl_575 : decode code 575 = .ok (.aload_n 3, 1) := by decide +kernel
theorem dl_576 : decode code 576 = .ok (.invokestatic 110, 3) := by decide +kernel
theorem dl_579 : decode code 579 = .ok (.istore 5, 2) := by decide +kernel
theorem dl_581 : decode code 581 = .ok (.aload_n 2, 1) := by decide +kernel
theorem dl_582 : decode code 582 = .ok (.aload_n 0, 1) := by decide +kernel
theorem dl_583 : decode code 583 = .ok (.iload 4, 2) := by decide +kernel
theorem dl_585 : decode code 585 = .ok (.iconst 1, 1) := by decide +kernel
theorem dl_586 : decode code 586 = .ok (.iadd, 1) := by decide +kernel
theorem dl_587 : decode code 587 = .ok (.iaload, 1) := by decide +kernel
theorem dl_588 : decode code 588 = .ok (.invokevirtual 113, 3) := by decide +kernel
theorem dl_591 : decode code 591 = .ok (.istore 6, 2) := by decide +kernel
theorem dl_593 : decode code 593 = .ok (.goto 354, 3) := by decide +kernel
theorem dl_596 : decode code 596 = .ok (.aload_n 1, 1) := by decide +kernel
theorem dl_597 : decode code 597 = .ok (.aload_n 0, 1) := by decide +kernel
theorem dl_598 : decode code 598 = .ok (.iload 4, 2) := by decide +kernel
theorem dl_600 : decode code 600 = .ok (.iconst 1, 1) := by decide +kernel
theorem dl_601 : decode code 601 = .ok (.iadd, 1) := by decide +kernel
theorem dl_602 : decode code 602 = .ok (.iaload, 1) := by decide +kernel
theorem dl_603 : decode code 603 = .ok (.aload_n 0, 1) := by decide +kernel
theorem dl_604 : decode code 604 = .ok (.iload 4, 2) := by decide +kernel
theorem dl_606 : decode code 606 = .ok (.iconst 2, 1) := by decide +kernel
theorem dl_607 : decode code 607 = .ok (.iadd, 1) := by decide +kernel
theorem dl_608 : decode code 608 = .ok (.iaload, 1) := by decide +kernel
theorem dl_609 : decode code 609 = .ok (.aload_n 0, 1) := by decide +kernel
theorem dl_610 : decode code 610 = .ok (.iload 4, 2) := by decide +kernel
theorem dl_612 : decode code 612 = .ok (.iconst 3, 1) := by decide +kernel
theorem dl_613 : decode code 613 = .ok (.iadd, 1) := by decide +kernel
theorem dl_614 : decode code 614 = .ok (.iaload, 1) := by decide +kernel
theorem dl_615 : decode code 615 = .ok (.aload_n 0, 1) := by decide +kernel
theorem dl_616 : decode code 616 = .ok (.iload 4, 2) := by decide +kernel
theorem dl_618 : decode code 618 = .ok (.iconst 4, 1) := by decide +kernel
theorem dl_619 : decode code 619 = .ok (.iadd, 1) := by decide +kernel
theorem dl_620 : decode code 620 = .ok (.iaload, 1) := by decide +kernel
theorem dl_621 : decode code 621 = .ok (.aload_n 0, 1) := by decide +kernel
theorem dl_622 : decode code 622 = .ok (.iload 4, 2) := by decide +kernel
theorem dl_624 : decode code 624 = .ok (.iconst 5, 1) := by decide +kernel
theorem dl_625 : decode code 625 = .ok (.iadd, 1) := by decide +kernel
theorem dl_626 : decode code 626 = .ok (.iaload, 1) := by decide +kernel
theorem dl_627 : decode code 627 = .ok (.aload_n 3, 1) := by decide +kernel
theorem dl_628 : decode code 628 = .ok (.invokestatic 114, 3) := by decide +kernel
theorem dl_631 : decode code 631 = .ok (.istore 5, 2) := by decide +kernel
theorem dl_633 : decode code 633 = .ok (.aload_n 2, 1) := by decide +kernel
theorem dl_634 : decode code 634 = .ok (.aload_n 0, 1) := by decide +kernel
theorem dl_635 : decode code 635 = .ok (.iload 4, 2) := by decide +kernel
theorem dl_637 : decode code 637 = .ok (.iconst 1, 1) := by decide +kernel
theorem dl_638 : decode code 638 = .ok (.iadd, 1) := by decide +kernel
theorem dl_639 : decode code 639 = .ok (.iaload, 1) := by decide +kernel
theorem dl_640 : decode code 640 = .ok (.aload_n 0, 1) := by decide +kernel
theorem dl_641 : decode code 641 = .ok (.iload 4, 2) := by decide +kernel
theorem dl_643 : decode code 643 = .ok (.iconst 2, 1) := by decide +kernel
theorem dl_644 : decode code 644 = .ok (.iadd, 1) := by decide +kernel
theorem dl_645 : decode code 645 = .ok (.iaload, 1) := by decide +kernel
theorem dl_646 : decode code 646 = .ok (.aload_n 0, 1) := by decide +kernel
theorem dl_647 : decode code 647 = .ok (.iload 4, 2) := by decide +kernel
theorem dl_649 : decode code 649 = .ok (.iconst 3, 1) := by decide +kernel
theorem dl_650 : decode code 650 = .ok (.iadd, 1) := by decide +kernel
theorem dl_651 : decode code 651 = .ok (.iaload, 1) := by decide +kernel
theorem dl_652 : decode code 652 = .ok (.aload_n 0, 1) := by decide +kernel
theorem dl_653 : decode code 653 = .ok (.iload 4, 2) := by decide +kernel
theorem dl_655 : decode code 655 = .ok (.iconst 4, 1) := by decide +kernel
theorem dl_656 : decode code 656 = .ok (.iadd, 1) := by decide +kernel
theorem dl_657 : decode code 657 = .ok (.iaload, 1) := by decide +kernel
theorem dl_658 : decode code 658 = .ok (.aload_n 0, 1) := by decide +kernel
theorem dl_659 : decode code 659 = .ok (.iload 4, 2) := by decide +kernel
theorem dl_661 : decode code 661 = .ok (.iconst 5, 1) := by decide +kernel
theorem dl_662 : decode code 662 = .ok (.iadd, 1) := by decide +kernel
theorem dl_663 : decode code 663 = .ok (.iaload, 1) := by decide +kernel
theorem dl_664 : decode code 664 = .ok (.invokevirtual 117, 3) := by decide +kernel
theorem dl_667 : decode code 667 = .ok (.istore 6, 2) := by decide +kernel
theorem dl_669 : decode code 669 = .ok (.goto 278, 3) := by decide +kernel
theorem dl_672 : decode code 672 = .ok (.aload_n 1, 1) := by decide +kernel
theorem dl_673 : decode code 673 = .ok (.aload_n 0, 1) := by decide +kernel
theorem dl_674 : decode code 674 = .ok (.iload 4, 2) := by decide +kernel
theorem dl_676 : decode code 676 = .ok (.iconst 1, 1) := by decide +kernel
theorem dl_677 : decode code 677 = .ok (.iadd, 1) := by decide +kernel
theorem dl_678 : decode code 678 = .ok (.iaload, 1) := by decide +kernel
theorem dl_679 : decode code 679 = .ok (.invokestatic 118, 3) := by decide +kernel
theorem dl_682 : decode code 682 = .ok (.istore 5, 2) := by decide +kernel
theorem dl_684 : decode code 684 = .ok (.aload_n 2, 1) := by decide +kernel
theorem dl_685 : decode code 685 = .ok (.aload_n 0, 1) := by decide +kernel
theorem dl_686 : decode code 686 = .ok (.iload 4, 2) := by decide +kernel
theorem dl_688 : decode code 688 = .ok (.iconst 1, 1) := by decide +kernel
theorem dl_689 : decode code 689 = .ok (.iadd, 1) := by decide +kernel
theorem dl_690 : decode code 690 = .ok (.iaload, 1) := by decide +kernel
theorem dl_691 : decode code 691 = .ok (.invokevirtual 121, 3) := by decide +kernel
theorem dl_694 : decode code 694 = .ok (.goto 253, 3) := by decide +kernel
theorem dl_697 : decode code 697 = .ok (.aload_n 1, 1) := by decide +kernel
theorem dl_698 : decode code 698 = .ok (.aload_n 0, 1) := by decide +kernel
theorem dl_699 : decode code 699 = .ok (.iload 4, 2) := by decide +kernel
theorem dl_701 : decode code 701 = .ok (.iconst 1, 1) := by decide +kernel
theorem dl_702 : decode code 702 = .ok (.iadd, 1) := by decide +kernel
theorem dl_703 : decode code 703 = .ok (.iaload, 1) := by decide +kernel
theorem dl_704 : decode code 704 = .ok (.aload_n 0, 1) := by decide +kernel
theorem dl_705 : decode code 705 = .ok (.iload 4, 2) := by decide +kernel
theorem dl_707 : decode code 707 = .ok (.iconst 2, 1) := by decide +kernel
theorem dl_708 : decode code 708 = .ok (.iadd, 1) := by decide +kernel
theorem dl_709 : decode code 709 = .ok (.iaload, 1) := by decide +kernel
theorem dl_710 : decode code 710 = .ok (.aload_n 3, 1) := by decide +kernel
theorem dl_711 : decode code 711 = .ok (.invokestatic 122, 3) := by decide +kernel
theorem dl_714 : decode code 714 = .ok (.istore 5, 2) := by decide +kernel
theorem dl_716 : decode code 716 = .ok (.aload_n 2, 1) := by decide +kernel
theorem dl_717 : decode code 717 = .ok (.aload_n 0, 1) := by decide +kernel
theorem dl_718 : decode code 718 = .ok (.iload 4, 2) := by decide +kernel
theorem dl_720 : decode code 720 = .ok (.iconst 1, 1) := by decide +kernel
theorem dl_721 : decode code 721 = .ok (.iadd, 1) := by decide +kernel
theorem dl_722 : decode code 722 = .ok (.iaload, 1) := by decide +kernel
theorem dl_723 : decode code 723 = .ok (.aload_n 0, 1) := by decide +kernel
theorem dl_724 : decode code 724 = .ok (.iload 4, 2) := by decide +kernel
theorem dl_726 : decode code 726 = .ok (.iconst 2, 1) := by decide +kernel
theorem dl_727 : decode code 727 = .ok (.iadd, 1) := by decide +kernel
theorem dl_728 : decode code 728 = .ok (.iaload, 1) := by decide +kernel
theorem dl_729 : decode code 729 = .ok (.invokevirtual 125, 3) := by decide +kernel
theorem dl_732 : decode code 732 = .ok (.istore 6, 2) := by decide +kernel
theorem dl_734 : decode code 734 = .ok (.goto 213, 3) := by decide +kernel
theorem dl_737 : decode code 737 = .ok (.aload_n 1, 1) := by decide +kernel
theorem dl_738 : decode code 738 = .ok (.aload_n 3, 1) := by decide +kernel
theorem dl_739 : decode code 739 = .ok (.invokestatic 126, 3) := by decide +kernel
theorem dl_742 : decode code 742 = .ok (.istore 5, 2) := by decide +kernel
theorem dl_744 : decode code 744 = .ok (.aload_n 2, 1) := by decide +kernel
theorem dl_745 : decode code 745 = .ok (.invokevirtual 129, 3) := by decide +kernel
theorem dl_748 : decode code 748 = .ok (.istore 6, 2) := by decide +kernel
theorem dl_750 : decode code 750 = .ok (.goto 197, 3) := by decide +kernel
theorem dl_753 : decode code 753 = .ok (.aload_n 1, 1) := by decide +kernel
theorem dl_754 : decode code 754 = .ok (.invokevirtual 130, 3) := by decide +kernel
theorem dl_757 : decode code 757 = .ok (.pop, 1) := by decide +kernel
theorem dl_758 : decode code 758 = .ok (.aload_n 2, 1) := by decide +kernel
theorem dl_759 : decode code 759 = .ok (.invokevirtual 133, 3) := by decide +kernel
theorem dl_762 : decode code 762 = .ok (.pop, 1) := by decide +kernel
theorem dl_763 : decode code 763 = .ok (.goto 184, 3) := by decide +kernel
theorem dl_766 : decode code 766 = .ok (.aload_n 1, 1) := by decide +kernel
theorem dl_767 : decode code 767 = .ok (.invokevirtual 134, 3) := by decide +kernel
theorem dl_770 : decode code 770 = .ok (.pop, 1) := by decide +kernel
theorem dl_771 : decode code 771 = .ok (.aload_n 2, 1) := by decide +kernel
theorem dl_772 : decode code 772 = .ok (.invokevirtual 137, 3) := by decide +kernel
theorem dl_775 : decode code 775 = .ok (.pop, 1) := by decide +kernel
theorem dl_776 : decode code 776 = .ok (.goto 171, 3) := by decide +kernel
theorem dl_779 : decode code 779 = .ok (.aload_n 1, 1) := by decide +kernel
theorem dl_780 : decode code 780 = .ok (.aload_n 0, 1) := by decide +kernel
theorem dl_781 : decode code 781 = .ok (.iload 4, 2) := by decide +kernel
theorem dl_783 : decode code 783 = .ok (.iconst 1, 1) := by decide +kernel
theorem dl_784 : decode code 784 = .ok (.iadd, 1) := by decide +kernel
theorem dl_785 : decode code 785 = .ok (.iaload, 1) := by decide +kernel
theorem dl_786 : decode code 786 = .ok (.aload_n 3, 1) := by decide +kernel
theorem dl_787 : decode code 787 = .ok (.invokestatic 138, 3) := by decide +kernel
theorem dl_790 : decode code 790 = .ok (.istore 5, 2) := by decide +kernel
theorem dl_792 : decode code 792 = .ok (.aload_n 2, 1) := by decide +kernel
theorem dl_793 : decode code 793 = .ok (.aload_n 0, 1) := by decide +kernel
theorem dl_794 : decode code 794 = .ok (.iload 4, 2) := by decide +kernel
theorem dl_796 : decode code 796 = .ok (.iconst 1, 1) := by decide +kernel
theorem dl_797 : decode code 797 = .ok (.iadd, 1) := by decide +kernel
theorem dl_798 : decode code 798 = .ok (.iaload, 1) := by decide +kernel
theorem dl_799 : decode code 799 = .ok (.invokevirtual 140, 3) := by decide +kernel
theorem dl_802 : decode code 802 = .ok (.istore 6, 2) := by decide +kernel
theorem dl_804 : decode code 804 = .ok (.goto 143, 3) := by decide +kernel
theorem dl_807 : decode code 807 = .ok (.aload_n 1, 1) := by decide +kernel
theorem dl_808 : decode code 808 = .ok (.aload_n 0, 1) := by decide +kernel
theorem dl_809 : decode code 809 = .ok (.iload 4, 2) := by decide +kernel
theorem dl_811 : decode code 811 = .ok (.iconst 1, 1) := by decide +kernel
theorem dl_812 : decode code 812 = .ok (.iadd, 1) := by decide +kernel
theorem dl_813 : decode code 813 = .ok (.iaload, 1) := by decide +kernel
theorem dl_814 : decode code 814 = .ok (.aload_n 0, 1) := by decide +kernel
theorem dl_815 : decode code 815 = .ok (.iload 4, 2) := by decide +kernel
theorem dl_817 : decode code 817 = .ok (.iconst 2, 1) := by decide +kernel
theorem dl_818 : decode code 818 = .ok (.iadd, 1) := by decide +kernel
theorem dl_819 : decode code 819 = .ok (.iaload, 1) := by decide +kernel
theorem dl_820 : decode code 820 = .ok (.aload_n 0, 1) := by decide +kernel
theorem dl_821 : decode code 821 = .ok (.iload 4, 2) := by decide +kernel
theorem dl_823 : decode code 823 = .ok (.iconst 3, 1) := by decide +kernel
theorem dl_824 : decode code 824 = .ok (.iadd, 1) := by decide +kernel
theorem dl_825 : decode code 825 = .ok (.iaload, 1) := by decide +kernel
theorem dl_826 : decode code 826 = .ok (.aload_n 3, 1) := by decide +kernel
theorem dl_827 : decode code 827 = .ok (.invokestatic 141, 3) := by decide +kernel
theorem dl_830 : decode code 830 = .ok (.istore 5, 2) := by decide +kernel
theorem dl_832 : decode code 832 = .ok (.aload_n 2, 1) := by decide +kernel
theorem dl_833 : decode code 833 = .ok (.aload_n 0, 1) := by decide +kernel
theorem dl_834 : decode code 834 = .ok (.iload 4, 2) := by decide +kernel
theorem dl_836 : decode code 836 = .ok (.iconst 1, 1) := by decide +kernel
theorem dl_837 : decode code 837 = .ok (.iadd, 1) := by decide +kernel
theorem dl_838 : decode code 838 = .ok (.iaload, 1) := by decide +kernel
theorem dl_839 : decode code 839 = .ok (.aload_n 0, 1) := by decide +kernel
theorem dl_840 : decode code 840 = .ok (.iload 4, 2) := by decide +kernel
theorem dl_842 : decode code 842 = .ok (.iconst 2, 1) := by decide +kernel
theorem dl_843 : decode code 843 = .ok (.iadd, 1) := by decide +kernel
theorem dl_844 : decode code 844 = .ok (.iaload, 1) := by decide +kernel
theorem dl_845 : decode code 845 = .ok (.aload_n 0, 1) := by decide +kernel
theorem dl_846 : decode code 846 = .ok (.iload 4, 2) := by decide +kernel
theorem dl_848 : decode code 848 = .ok (.iconst 3, 1) := by decide +kernel
theorem dl_849 : decode code 849 = .ok (.iadd, 1) := by decide +kernel
theorem dl_850 : decode code 850 = .ok (.iaload, 1) := by decide +kernel
theorem dl_851 : decode code 851 = .ok (.invokevirtual 143, 3) := by decide +kernel
theorem dl_854 : decode code 854 = .ok (.istore 6, 2) := by decide +kernel
theorem dl_856 : decode code 856 = .ok (.goto 91, 3) := by decide +kernel
theorem dl_859 : decode code 859 = .ok (.aload_n 1, 1) := by decide +kernel
theorem dl_860 : decode code 860 = .ok (.aload_n 0, 1) := by decide +kernel
theorem dl_861 : decode code 861 = .ok (.iload 4, 2) := by decide +kernel
theorem dl_863 : decode code 863 = .ok (.iconst 1, 1) := by decide +kernel
theorem dl_864 : decode code 864 = .ok (.iadd, 1) := by decide +kernel
theorem dl_865 : decode code 865 = .ok (.iaload, 1) := by decide +kernel
theorem dl_866 : decode code 866 = .ok (.aload_n 0, 1) := by decide +kernel
theorem dl_867 : decode code 867 = .ok (.iload 4, 2) := by decide +kernel
theorem dl_869 : decode code 869 = .ok (.iconst 2, 1) := by decide +kernel
theorem dl_870 : decode code 870 = .ok (.iadd, 1) := by decide +kernel
theorem dl_871 : decode code 871 = .ok (.iaload, 1) := by decide +kernel
theorem dl_872 : decode code 872 = .ok (.aload_n 0, 1) := by decide +kernel
theorem dl_873 : decode code 873 = .ok (.iload 4, 2) := by decide +kernel
theorem dl_875 : decode code 875 = .ok (.iconst 3, 1) := by decide +kernel
theorem dl_876 : decode code 876 = .ok (.iadd, 1) := by decide +kernel
theorem dl_877 : decode code 877 = .ok (.iaload, 1) := by decide +kernel
theorem dl_878 : decode code 878 = .ok (.aload_n 0, 1) := by decide +kernel
theorem dl_879 : decode code 879 = .ok (.iload 4, 2) := by decide +kernel
theorem dl_881 : decode code 881 = .ok (.iconst 4, 1) := by decide +kernel
theorem dl_882 : decode code 882 = .ok (.iadd, 1) := by decide +kernel
theorem dl_883 : decode code 883 = .ok (.iaload, 1) := by decide +kernel
theorem dl_884 : decode code 884 = .ok (.aload_n 3, 1) := by decide +kernel
theorem dl_885 : decode code 885 = .ok (.invokestatic 144, 3) := by decide +kernel
theorem dl_888 : decode code 888 = .ok (.istore 5, 2) := by decide +kernel
theorem dl_890 : decode code 890 = .ok (.aload_n 2, 1) := by decide +kernel
theorem dl_891 : decode code 891 = .ok (.aload_n 0, 1) := by decide +kernel
theorem dl_892 : decode code 892 = .ok (.iload 4, 2) := by decide +kernel
theorem dl_894 : decode code 894 = .ok (.iconst 1, 1) := by decide +kernel
theorem dl_895 : decode code 895 = .ok (.iadd, 1) := by decide +kernel
theorem dl_896 : decode code 896 = .ok (.iaload, 1) := by decide +kernel
theorem dl_897 : decode code 897 = .ok (.aload_n 0, 1) := by decide +kernel
theorem dl_898 : decode code 898 = .ok (.iload 4, 2) := by decide +kernel
theorem dl_900 : decode code 900 = .ok (.iconst 2, 1) := by decide +kernel
theorem dl_901 : decode code 901 = .ok (.iadd, 1) := by decide +kernel
theorem dl_902 : decode code 902 = .ok (.iaload, 1) := by decide +kernel
theorem dl_903 : decode code 903 = .ok (.aload_n 0, 1) := by decide +kernel
theorem dl_904 : decode code 904 = .ok (.iload 4, 2) := by decide +kernel
theorem dl_906 : decode code 906 = .ok (.iconst 3, 1) := by decide +kernel
theorem dl_907 : decode code 907 = .ok (.iadd, 1) := by decide +kernel
theorem dl_908 : decode code 908 = .ok (.iaload, 1) := by decide +kernel
theorem dl_909 : decode code 909 = .ok (.aload_n 0, 1) := by decide +kernel
theorem dl_910 : decode code 910 = .ok (.iload 4, 2) := by decide +kernel
theorem dl_912 : decode code 912 = .ok (.iconst 4, 1) := by decide +kernel
theorem dl_913 : decode code 913 = .ok (.iadd, 1) := by decide +kernel
theorem dl_914 : decode code 914 = .ok (.iaload, 1) := by decide +kernel
theorem dl_915 : decode code 915 = .ok (.invokevirtual 147, 3) := by decide +kernel
theorem dl_918 : decode code 918 = .ok (.istore 6, 2) := by decide +kernel
theorem dl_920 : decode code 920 = .ok (.goto 27, 3) := by decide +kernel
theorem dl_923 : decode code 923 = .ok (.aload_n 1, 1) := by decide +kernel
theorem dl_924 : decode code 924 = .ok (.invokestatic 148, 3) := by decide +kernel
theorem dl_927 : decode code 927 = .ok (.istore 5, 2) := by decide +kernel
theorem dl_929 : decode code 929 = .ok (.aload_n 2, 1) := by decide +kernel
theorem dl_930 : decode code 930 = .ok (.invokevirtual 151, 3) := by decide +kernel
theorem dl_933 : decode code 933 = .ok (.aload_n 2, 1) := by decide +kernel
theorem dl_934 : decode code 934 = .ok (.invokevirtual 152, 3) := by decide +kernel
theorem dl_937 : decode code 937 = .ok (.iload 5, 2) := by decide +kernel
theorem dl_939 : decode code 939 = .ok (.if_icmp .eq 5, 3) := by decide +kernel
theorem dl_942 : decode code 942 = .ok (.iconst 0, 1) := by decide +kernel
theorem dl_943 : decode code 943 = .ok (.ireturn, 1) := by decide +kernel
theorem dl_944 : decode code 944 = .ok (.goto 3, 3) := by decide +kernel
theorem dl_947 : decode code 947 = .ok (.iinc 4 7, 3) := by decide +kernel
theorem dl_950 : decode code 950 = .ok (.goto (-927), 3) := by decide +kernel
theorem dl_953 : decode code 953 = .ok (.iconst 1, 1) := by decide +kernel
theorem dl_954 : decode code 954 = .ok (.ireturn, 1) := by decide +kernel
set_option maxRecDepth 100000 in
theorem x_Lw_8 : Cond.classLink R_Lw 8 "BlockPicture" ∈ gG.1 := List.mem_append_right _ (List.mem_append_right _ (List.mem_append_left _ (List.mem_of_getElem? (i := 32) rfl)))
set_option maxRecDepth 100000 in
theorem l_Lw_74 : Cond.methodLink R_Lw 74 n_C_B_init ∈ gG.1 := List.mem_append_right _ (List.mem_append_right _ (List.mem_append_left _ (List.mem_of_getElem? (i := 34) rfl)))
set_option maxRecDepth 100000 in
theorem x_Lw_75 : Cond.classLink R_Lw 75 "BlockPictureModel" ∈ gG.1 := List.mem_append_right _ (List.mem_append_right _ (List.mem_append_right _ (List.mem_append_right _ (List.mem_append_right _ (List.mem_append_right _ (List.mem_append_right _ (List.mem_append_left _ (List.mem_of_getElem? (i := 211) rfl))))))))
set_option maxRecDepth 100000 in
theorem l_Lw_77 : Cond.methodLink R_Lw 77 n_M_init ∈ gG.1 := List.mem_append_right _ (List.mem_append_right _ (List.mem_append_right _ (List.mem_append_right _ (List.mem_append_right _ (List.mem_append_right _ (List.mem_append_right _ (List.mem_append_left _ (List.mem_of_getElem? (i := 213) rfl))))))))
set_option maxRecDepth 100000 in
theorem l_Lw_78 : Cond.methodLink R_Lw 78 n_C_Lw_canvas ∈ gG.1 := List.mem_append_right _ (List.mem_append_right _ (List.mem_append_right _ (List.mem_append_right _ (List.mem_append_right _ (List.mem_append_left _ (List.mem_of_getElem? (i := 56) rfl))))))
set_option maxRecDepth 100000 in
theorem l_Lw_83 : Cond.methodLink R_Lw 83 n_M_canvas ∈ gG.1 := List.mem_append_right _ (List.mem_append_right _ (List.mem_append_right _ (List.mem_append_right _ (List.mem_append_right _ (List.mem_append_right _ (List.mem_append_right _ (List.mem_append_right _ (List.mem_append_left _ (List.mem_of_getElem? (i := 162) rfl)))))))))
set_option maxRecDepth 100000 in
theorem l_Lw_84 : Cond.methodLink R_Lw 84 n_C_Lw_fill ∈ gG.1 := List.mem_append_right _ (List.mem_append_right _ (List.mem_append_right _ (List.mem_append_right _ (List.mem_append_right _ (List.mem_append_left _ (List.mem_of_getElem? (i := 86) rfl))))))
set_option maxRecDepth 100000 in
theorem l_Lw_87 : Cond.methodLink R_Lw 87 n_M_fill ∈ gG.1 := List.mem_append_right _ (List.mem_append_right _ (List.mem_append_right _ (List.mem_append_right _ (List.mem_append_right _ (List.mem_append_right _ (List.mem_append_right _ (List.mem_append_right _ (List.mem_append_left _ (List.mem_of_getElem? (i := 166) rfl)))))))))
set_option maxRecDepth 100000 in
theorem l_Lw_88 : Cond.methodLink R_Lw 88 n_C_Lw_slope ∈ gG.1 := List.mem_append_right _ (List.mem_append_right _ (List.mem_append_right _ (List.mem_append_right _ (List.mem_append_right _ (List.mem_append_left _ (List.mem_of_getElem? (i := 121) rfl))))))
set_option maxRecDepth 100000 in
theorem l_Lw_91 : Cond.methodLink R_Lw 91 n_M_slope ∈ gG.1 := List.mem_append_right _ (List.mem_append_right _ (List.mem_append_right _ (List.mem_append_right _ (List.mem_append_right _ (List.mem_append_right _ (List.mem_append_right _ (List.mem_append_right _ (List.mem_append_left _ (List.mem_of_getElem? (i := 185) rfl)))))))))
set_option maxRecDepth 100000 in
theorem l_Lw_92 : Cond.methodLink R_Lw 92 n_C_Lw_at ∈ gG.1 := List.mem_append_right _ (List.mem_append_right _ (List.mem_append_right _ (List.mem_append_right _ (List.mem_append_right _ (List.mem_append_left _ (List.mem_of_getElem? (i := 128) rfl))))))
set_option maxRecDepth 100000 in
theorem l_Lw_95 : Cond.methodLink R_Lw 95 n_M_at ∈ gG.1 := List.mem_append_right _ (List.mem_append_right _ (List.mem_append_right _ (List.mem_append_right _ (List.mem_append_right _ (List.mem_append_right _ (List.mem_append_right _ (List.mem_append_right _ (List.mem_append_left _ (List.mem_of_getElem? (i := 186) rfl)))))))))
set_option maxRecDepth 100000 in
theorem l_Lw_96 : Cond.methodLink R_Lw 96 n_C_Lw_scale ∈ gG.1 := List.mem_append_right _ (List.mem_append_right _ (List.mem_append_right _ (List.mem_append_right _ (List.mem_append_right _ (List.mem_append_left _ (List.mem_of_getElem? (i := 137) rfl))))))
set_option maxRecDepth 100000 in
theorem l_Lw_98 : Cond.methodLink R_Lw 98 n_M_scale ∈ gG.1 := List.mem_append_right _ (List.mem_append_right _ (List.mem_append_right _ (List.mem_append_right _ (List.mem_append_right _ (List.mem_append_right _ (List.mem_append_right _ (List.mem_append_right _ (List.mem_append_left _ (List.mem_of_getElem? (i := 190) rfl)))))))))
set_option maxRecDepth 100000 in
theorem l_Lw_99 : Cond.methodLink R_Lw 99 n_C_Lw_entry ∈ gG.1 := List.mem_append_right _ (List.mem_append_right _ (List.mem_append_right _ (List.mem_append_right _ (List.mem_append_right _ (List.mem_append_left _ (List.mem_of_getElem? (i := 148) rfl))))))
set_option maxRecDepth 100000 in
theorem l_Lw_102 : Cond.methodLink R_Lw 102 n_M_entry ∈ gG.1 := List.mem_append_right _ (List.mem_append_right _ (List.mem_append_right _ (List.mem_append_right _ (List.mem_append_right _ (List.mem_append_right _ (List.mem_append_right _ (List.mem_append_right _ (List.mem_append_left _ (List.mem_of_getElem? (i := 194) rfl)))))))))
set_option maxRecDepth 100000 in
theorem l_Lw_103 : Cond.methodLink R_Lw 103 n_C_Lw_pack ∈ gG.1 := List.mem_append_right _ (List.mem_append_right _ (List.mem_append_right _ (List.mem_append_right _ (List.mem_append_right _ (List.mem_append_left _ (List.mem_of_getElem? (i := 157) rfl))))))
set_option maxRecDepth 100000 in
theorem l_Lw_105 : Cond.methodLink R_Lw 105 n_M_pack ∈ gG.1 := List.mem_append_right _ (List.mem_append_right _ (List.mem_append_right _ (List.mem_append_right _ (List.mem_append_right _ (List.mem_append_right _ (List.mem_append_right _ (List.mem_append_right _ (List.mem_append_left _ (List.mem_of_getElem? (i := 198) rfl)))))))))
set_option maxRecDepth 100000 in
theorem l_Lw_106 : Cond.methodLink R_Lw 106 n_C_B_size ∈ gG.1 := List.mem_append_right _ (List.mem_append_right _ (List.mem_append_right _ (List.mem_append_right _ (List.mem_append_left _ (List.mem_of_getElem? (i := 26) rfl)))))
set_option maxRecDepth 100000 in
theorem l_Lw_109 : Cond.methodLink R_Lw 109 n_M_size ∈ gG.1 := List.mem_append_right _ (List.mem_append_right _ (List.mem_append_right _ (List.mem_append_right _ (List.mem_append_right _ (List.mem_append_right _ (List.mem_append_right _ (List.mem_append_right _ (List.mem_append_right _ (List.mem_of_getElem? (i := 59) rfl)))))))))
set_option maxRecDepth 100000 in
theorem l_Lw_110 : Cond.methodLink R_Lw 110 n_C_Lw_out ∈ gG.1 := List.mem_append_right _ (List.mem_append_right _ (List.mem_append_right _ (List.mem_append_right _ (List.mem_append_right _ (List.mem_append_right _ (List.mem_append_left _ (List.mem_of_getElem? (i := 63) rfl)))))))
set_option maxRecDepth 100000 in
theorem l_Lw_113 : Cond.methodLink R_Lw 113 n_M_out ∈ gG.1 := List.mem_append_right _ (List.mem_append_right _ (List.mem_append_right _ (List.mem_append_right _ (List.mem_append_right _ (List.mem_append_right _ (List.mem_append_right _ (List.mem_append_right _ (List.mem_append_right _ (List.mem_of_getElem? (i := 63) rfl)))))))))
set_option maxRecDepth 100000 in
theorem l_Lw_114 : Cond.methodLink R_Lw 114 n_C_Lw_feed ∈ gG.1 := List.mem_append_right _ (List.mem_append_right _ (List.mem_append_right _ (List.mem_append_right _ (List.mem_append_right _ (List.mem_append_right _ (List.mem_append_left _ (List.mem_of_getElem? (i := 72) rfl)))))))
set_option maxRecDepth 100000 in
theorem l_Lw_117 : Cond.methodLink R_Lw 117 n_M_feed ∈ gG.1 := List.mem_append_right _ (List.mem_append_right _ (List.mem_append_right _ (List.mem_append_right _ (List.mem_append_right _ (List.mem_append_right _ (List.mem_append_right _ (List.mem_append_right _ (List.mem_append_right _ (List.mem_of_getElem? (i := 67) rfl)))))))))
set_option maxRecDepth 100000 in
theorem l_Lw_118 : Cond.methodLink R_Lw 118 n_C_Lw_end ∈ gG.1 := List.mem_append_right _ (List.mem_append_right _ (List.mem_append_right _ (List.mem_append_right _ (List.mem_append_right _ (List.mem_append_right _ (List.mem_append_left _ (List.mem_of_getElem? (i := 88) rfl)))))))
set_option maxRecDepth 100000 in
theorem l_Lw_121 : Cond.methodLink R_Lw 121 n_M_end ∈ gG.1 := List.mem_append_right _ (List.mem_append_right _ (List.mem_append_right _ (List.mem_append_right _ (List.mem_append_right _ (List.mem_append_right _ (List.mem_append_right _ (List.mem_append_right _ (List.mem_append_right _ (List.mem_of_getElem? (i := 71) rfl)))))))))
set_option maxRecDepth 100000 in
theorem l_Lw_122 : Cond.methodLink R_Lw 122 n_C_Lw_change ∈ gG.1 := List.mem_append_right _ (List.mem_append_right _ (List.mem_append_right _ (List.mem_append_right _ (List.mem_append_right _ (List.mem_append_right _ (List.mem_append_left _ (List.mem_of_getElem? (i := 96) rfl)))))))
set_option maxRecDepth 100000 in
theorem l_Lw_125 : Cond.methodLink R_Lw 125 n_M_change ∈ gG.1 := List.mem_append_right _ (List.mem_append_right _ (List.mem_append_right _ (List.mem_append_right _ (List.mem_append_right _ (List.mem_append_right _ (List.mem_append_right _ (List.mem_append_right _ (List.mem_append_right _ (List.mem_of_getElem? (i := 75) rfl)))))))))
set_option maxRecDepth 100000 in
theorem l_Lw_126 : Cond.methodLink R_Lw 126 n_C_Lw_turn ∈ gG.1 := List.mem_append_right _ (List.mem_append_right _ (List.mem_append_right _ (List.mem_append_right _ (List.mem_append_right _ (List.mem_append_right _ (List.mem_append_left _ (List.mem_of_getElem? (i := 105) rfl)))))))
set_option maxRecDepth 100000 in
theorem l_Lw_129 : Cond.methodLink R_Lw 129 n_M_turn2 ∈ gG.1 := List.mem_append_right _ (List.mem_append_right _ (List.mem_append_right _ (List.mem_append_right _ (List.mem_append_right _ (List.mem_append_right _ (List.mem_append_right _ (List.mem_append_right _ (List.mem_append_right _ (List.mem_of_getElem? (i := 79) rfl)))))))))
set_option maxRecDepth 100000 in
theorem l_Lw_130 : Cond.methodLink R_Lw 130 n_C_B_unpack ∈ gG.1 := List.mem_append_right _ (List.mem_append_right _ (List.mem_append_right _ (List.mem_append_right _ (List.mem_append_left _ (List.mem_of_getElem? (i := 30) rfl)))))
set_option maxRecDepth 100000 in
theorem l_Lw_133 : Cond.methodLink R_Lw 133 n_M_unpack ∈ gG.1 := List.mem_append_right _ (List.mem_append_right _ (List.mem_append_right _ (List.mem_append_right _ (List.mem_append_right _ (List.mem_append_right _ (List.mem_append_right _ (List.mem_append_right _ (List.mem_append_right _ (List.mem_of_getElem? (i := 83) rfl)))))))))
set_option maxRecDepth 100000 in
theorem l_Lw_134 : Cond.methodLink R_Lw 134 n_C_B_place ∈ gG.1 := List.mem_append_right _ (List.mem_append_right _ (List.mem_append_right _ (List.mem_append_right _ (List.mem_append_right _ (List.mem_append_left _ (List.mem_of_getElem? (i := 52) rfl))))))
set_option maxRecDepth 100000 in
theorem l_Lw_137 : Cond.methodLink R_Lw 137 n_M_place ∈ gG.1 := List.mem_append_right _ (List.mem_append_right _ (List.mem_append_right _ (List.mem_append_right _ (List.mem_append_right _ (List.mem_append_right _ (List.mem_append_right _ (List.mem_append_right _ (List.mem_append_right _ (List.mem_of_getElem? (i := 186) rfl)))))))))
set_option maxRecDepth 100000 in
theorem l_Lw_138 : Cond.methodLink R_Lw 138 n_C_Lw_about ∈ gG.1 := List.mem_append_right _ (List.mem_append_right _ (List.mem_append_right _ (List.mem_append_right _ (List.mem_append_right _ (List.mem_append_right _ (List.mem_append_left _ (List.mem_of_getElem? (i := 114) rfl)))))))
set_option maxRecDepth 100000 in
theorem l_Lw_140 : Cond.methodLink R_Lw 140 n_M_about ∈ gG.1 := List.mem_append_right _ (List.mem_append_right _ (List.mem_append_right _ (List.mem_append_right _ (List.mem_append_right _ (List.mem_append_right _ (List.mem_append_right _ (List.mem_append_right _ (List.mem_append_right _ (List.mem_of_getElem? (i := 190) rfl)))))))))
set_option maxRecDepth 100000 in
theorem l_Lw_141 : Cond.methodLink R_Lw 141 n_C_Lw_sample ∈ gG.1 := List.mem_append_right _ (List.mem_append_right _ (List.mem_append_right _ (List.mem_append_right _ (List.mem_append_right _ (List.mem_append_right _ (List.mem_append_left _ (List.mem_of_getElem? (i := 123) rfl)))))))
set_option maxRecDepth 100000 in
theorem l_Lw_143 : Cond.methodLink R_Lw 143 n_M_sample ∈ gG.1 := List.mem_append_right _ (List.mem_append_right _ (List.mem_append_right _ (List.mem_append_right _ (List.mem_append_right _ (List.mem_append_right _ (List.mem_append_right _ (List.mem_append_right _ (List.mem_append_right _ (List.mem_of_getElem? (i := 194) rfl)))))))))
set_option maxRecDepth 100000 in
theorem l_Lw_144 : Cond.methodLink R_Lw 144 n_C_Lw_level ∈ gG.1 := List.mem_append_right _ (List.mem_append_right _ (List.mem_append_right _ (List.mem_append_right _ (List.mem_append_right _ (List.mem_append_right _ (List.mem_append_right _ (List.mem_append_left _ (List.mem_of_getElem? (i := 189) rfl))))))))
set_option maxRecDepth 100000 in
theorem l_Lw_147 : Cond.methodLink R_Lw 147 n_M_level ∈ gG.1 := List.mem_append_right _ (List.mem_append_right _ (List.mem_append_right _ (List.mem_append_right _ (List.mem_append_right _ (List.mem_append_right _ (List.mem_append_right _ (List.mem_append_right _ (List.mem_append_right _ (List.mem_of_getElem? (i := 209) rfl)))))))))
set_option maxRecDepth 100000 in
theorem l_Lw_148 : Cond.methodLink R_Lw 148 n_C_Lw_take ∈ gG.1 := List.mem_append_right _ (List.mem_append_right _ (List.mem_append_right _ (List.mem_append_right _ (List.mem_append_right _ (List.mem_append_right _ (List.mem_append_right _ (List.mem_append_left _ (List.mem_of_getElem? (i := 204) rfl))))))))
set_option maxRecDepth 100000 in
theorem l_Lw_151 : Cond.methodLink R_Lw 151 n_M_take ∈ gG.1 := List.mem_append_right _ (List.mem_append_right _ (List.mem_append_right _ (List.mem_append_right _ (List.mem_append_right _ (List.mem_append_right _ (List.mem_append_right _ (List.mem_append_right _ (List.mem_append_right _ (List.mem_of_getElem? (i := 213) rfl)))))))))
set_option maxRecDepth 100000 in
theorem l_Lw_152 : Cond.methodLink R_Lw 152 n_M_thrown ∈ gG.1 := List.mem_append_right _ (List.mem_append_right _ (List.mem_append_right _ (List.mem_append_right _ (List.mem_append_right _ (List.mem_append_right _ (List.mem_append_right _ (List.mem_append_right _ (List.mem_append_left _ (List.mem_of_getElem? (i := 158) rfl)))))))))
set_option maxRecDepth 100000 in
theorem nn_M : Cond.instantiable R_M 58 ∈ gG.1 := List.mem_append_right _ (List.mem_append_right _ (List.mem_append_right _ (List.mem_append_right _ (List.mem_append_right _ (List.mem_append_right _ (List.mem_append_right _ (List.mem_append_left _ (List.mem_of_getElem? (i := 212) rfl))))))))
theorem tab_out {x : Int32} (h : ∀ k : Fin 19, ¬ x = Int32.ofNat k.val) : x.toInt < 0 ∨ 18 < x.toInt := by
  refine Classical.byContradiction fun hc => ?_
  have h1 : 0 ≤ x.toInt := by omega
  have h2 : x.toInt ≤ 18 := by omega
  exact h ⟨x.toInt.toNat, by omega⟩ (Int32.toInt_inj.mp (by rw [Int32.toInt_ofNat_of_lt (by simp only; omega)]; simp only; omega))
def h_law_0 (U : ut) (n : Nat) (xs : Nat → Int32) (j : Nat) (i : Int32) (S : cs) (M : ms) (R : Nat → Int32 → cs → ms → Prop) : Prop :=
  vp_in (i + 1) n ∧ (vp_in (i + 2) n ∧ (vp_in (i + 3) n ∧ (p_Lw_canvas U 0 (xs (i + 1).toNatClampNeg) (xs (i + 2).toNatClampNeg) (xs (i + 3).toNatClampNeg) S (fun v151 S151 => vp_in (i + 1) n ∧ (vp_in (i + 2) n ∧ (vp_in (i + 3) n ∧ (p_canvas (xs (i + 1).toNatClampNeg) (xs (i + 2).toNatClampNeg) (xs (i + 3).toNatClampNeg) M (fun M175 => R (j + 1) (i + 7) S151 M175))))))))
def h_law_1 (U : ut) (n : Nat) (xs : Nat → Int32) (j : Nat) (i : Int32) (S : cs) (M : ms) (R : Nat → Int32 → cs → ms → Prop) : Prop :=
  vp_in (i + 1) n ∧ (vp_in (i + 2) n ∧ (vp_in (i + 3) n ∧ (vp_in (i + 4) n ∧ (vp_in (i + 5) n ∧ (p_Lw_fill U 0 (xs (i + 1).toNatClampNeg) (xs (i + 2).toNatClampNeg) (xs (i + 3).toNatClampNeg) (xs (i + 4).toNatClampNeg) (xs (i + 5).toNatClampNeg) S (fun v212 S212 => vp_in (i + 1) n ∧ (vp_in (i + 2) n ∧ (vp_in (i + 3) n ∧ (vp_in (i + 4) n ∧ (vp_in (i + 5) n ∧ (p_fill (xs (i + 1).toNatClampNeg) (xs (i + 2).toNatClampNeg) (xs (i + 3).toNatClampNeg) (xs (i + 4).toNatClampNeg) (xs (i + 5).toNatClampNeg) M (fun M248 => R (j + 1) (i + 7) S212 M248))))))))))))
def h_law_2 (U : ut) (n : Nat) (xs : Nat → Int32) (j : Nat) (i : Int32) (S : cs) (M : ms) (R : Nat → Int32 → cs → ms → Prop) : Prop :=
  vp_in (i + 1) n ∧ (vp_in (i + 2) n ∧ (vp_in (i + 3) n ∧ (vp_in (i + 4) n ∧ (vp_in (i + 5) n ∧ (vp_in (i + 6) n ∧ (p_Lw_slope U 0 (xs (i + 1).toNatClampNeg) (xs (i + 2).toNatClampNeg) (xs (i + 3).toNatClampNeg) (xs (i + 4).toNatClampNeg) (xs (i + 5).toNatClampNeg) (xs (i + 6).toNatClampNeg) S (fun v292 S292 => vp_in (i + 1) n ∧ (vp_in (i + 2) n ∧ (vp_in (i + 3) n ∧ (vp_in (i + 4) n ∧ (vp_in (i + 5) n ∧ (vp_in (i + 6) n ∧ (p_slope (xs (i + 1).toNatClampNeg) (xs (i + 2).toNatClampNeg) (xs (i + 3).toNatClampNeg) (xs (i + 4).toNatClampNeg) (xs (i + 5).toNatClampNeg) (xs (i + 6).toNatClampNeg) M (fun M335 => R (j + 1) (i + 7) S292 M335))))))))))))))
def h_law_3 (U : ut) (n : Nat) (xs : Nat → Int32) (j : Nat) (i : Int32) (S : cs) (M : ms) (R : Nat → Int32 → cs → ms → Prop) : Prop :=
  vp_in (i + 1) n ∧ (vp_in (i + 2) n ∧ (vp_in (i + 3) n ∧ (p_Lw_at U 0 (xs (i + 1).toNatClampNeg) (xs (i + 2).toNatClampNeg) (xs (i + 3).toNatClampNeg) 115 S (fun v361 S361 => vp_in (i + 1) n ∧ (vp_in (i + 2) n ∧ (vp_in (i + 3) n ∧ (p_at (xs (i + 1).toNatClampNeg) (xs (i + 2).toNatClampNeg) (xs (i + 3).toNatClampNeg) M (fun v385 M385 => R (j + 1) (i + 7) S361 M385))))))))
def h_law_4 (U : ut) (n : Nat) (xs : Nat → Int32) (j : Nat) (i : Int32) (S : cs) (M : ms) (R : Nat → Int32 → cs → ms → Prop) : Prop :=
  vp_in (i + 1) n ∧ (vp_in (i + 2) n ∧ (vp_in (i + 3) n ∧ (p_Lw_scale U 0 (xs (i + 1).toNatClampNeg) (xs (i + 2).toNatClampNeg) (xs (i + 3).toNatClampNeg) S (fun v412 S412 => vp_in (i + 1) n ∧ (vp_in (i + 2) n ∧ (vp_in (i + 3) n ∧ (p_scale (xs (i + 1).toNatClampNeg) (xs (i + 2).toNatClampNeg) (xs (i + 3).toNatClampNeg) M (fun M436 => R (j + 1) (i + 7) S412 M436))))))))
def h_law_5 (U : ut) (n : Nat) (xs : Nat → Int32) (j : Nat) (i : Int32) (S : cs) (M : ms) (R : Nat → Int32 → cs → ms → Prop) : Prop :=
  vp_in (i + 1) n ∧ (vp_in (i + 2) n ∧ (vp_in (i + 3) n ∧ (vp_in (i + 4) n ∧ (p_Lw_entry U 0 (xs (i + 1).toNatClampNeg) (xs (i + 2).toNatClampNeg) (xs (i + 3).toNatClampNeg) (xs (i + 4).toNatClampNeg) S (fun v467 S467 => vp_in (i + 1) n ∧ (vp_in (i + 2) n ∧ (vp_in (i + 3) n ∧ (vp_in (i + 4) n ∧ (p_entry (xs (i + 1).toNatClampNeg) (xs (i + 2).toNatClampNeg) (xs (i + 3).toNatClampNeg) (xs (i + 4).toNatClampNeg) M (fun M497 => R (j + 1) (i + 7) S467 M497))))))))))
def h_law_6 (U : ut) (n : Nat) (xs : Nat → Int32) (j : Nat) (i : Int32) (S : cs) (M : ms) (R : Nat → Int32 → cs → ms → Prop) : Prop :=
  vp_in (i + 1) n ∧ (vp_in (i + 2) n ∧ (vp_in (i + 3) n ∧ (p_Lw_pack U 0 (xs (i + 1).toNatClampNeg) (xs (i + 2).toNatClampNeg) (xs (i + 3).toNatClampNeg) 115 S (fun v523 S523 => vp_in (i + 1) n ∧ (vp_in (i + 2) n ∧ (vp_in (i + 3) n ∧ (p_pack (xs (i + 1).toNatClampNeg) (xs (i + 2).toNatClampNeg) (xs (i + 3).toNatClampNeg) M (fun v547 M547 => R (j + 1) (i + 7) S523 M547))))))))
def h_law_7 (U : ut) (n : Nat) (xs : Nat → Int32) (j : Nat) (i : Int32) (S : cs) (M : ms) (R : Nat → Int32 → cs → ms → Prop) : Prop :=
  p_B_size U 0 S (fun v556 S556 => p_size  M (fun v561 M561 => R (j + 1) (i + 7) S556 M561))
def h_law_8 (U : ut) (n : Nat) (xs : Nat → Int32) (j : Nat) (i : Int32) (S : cs) (M : ms) (R : Nat → Int32 → cs → ms → Prop) : Prop :=
  vp_in (i + 1) n ∧ (p_Lw_out U 0 (xs (i + 1).toNatClampNeg) 115 S (fun v576 S576 => vp_in (i + 1) n ∧ (p_out (xs (i + 1).toNatClampNeg) M (fun v588 M588 => R (j + 1) (i + 7) S576 M588))))
def h_law_9 (U : ut) (n : Nat) (xs : Nat → Int32) (j : Nat) (i : Int32) (S : cs) (M : ms) (R : Nat → Int32 → cs → ms → Prop) : Prop :=
  vp_in (i + 1) n ∧ (vp_in (i + 2) n ∧ (vp_in (i + 3) n ∧ (vp_in (i + 4) n ∧ (vp_in (i + 5) n ∧ (p_Lw_feed U 0 (xs (i + 1).toNatClampNeg) (xs (i + 2).toNatClampNeg) (xs (i + 3).toNatClampNeg) (xs (i + 4).toNatClampNeg) (xs (i + 5).toNatClampNeg) 115 S (fun v628 S628 => vp_in (i + 1) n ∧ (vp_in (i + 2) n ∧ (vp_in (i + 3) n ∧ (vp_in (i + 4) n ∧ (vp_in (i + 5) n ∧ (p_feed (xs (i + 1).toNatClampNeg) (xs (i + 2).toNatClampNeg) (xs (i + 3).toNatClampNeg) (xs (i + 4).toNatClampNeg) (xs (i + 5).toNatClampNeg) M (fun v664 M664 => R (j + 1) (i + 7) S628 M664))))))))))))
def h_law_10 (U : ut) (n : Nat) (xs : Nat → Int32) (j : Nat) (i : Int32) (S : cs) (M : ms) (R : Nat → Int32 → cs → ms → Prop) : Prop :=
  vp_in (i + 1) n ∧ (p_Lw_end U 0 (xs (i + 1).toNatClampNeg) S (fun v679 S679 => vp_in (i + 1) n ∧ (p_end (xs (i + 1).toNatClampNeg) M (fun M691 => R (j + 1) (i + 7) S679 M691))))
def h_law_11 (U : ut) (n : Nat) (xs : Nat → Int32) (j : Nat) (i : Int32) (S : cs) (M : ms) (R : Nat → Int32 → cs → ms → Prop) : Prop :=
  vp_in (i + 1) n ∧ (vp_in (i + 2) n ∧ (p_Lw_change U 0 (xs (i + 1).toNatClampNeg) (xs (i + 2).toNatClampNeg) 115 S (fun v711 S711 => vp_in (i + 1) n ∧ (vp_in (i + 2) n ∧ (p_change (xs (i + 1).toNatClampNeg) (xs (i + 2).toNatClampNeg) M (fun v729 M729 => R (j + 1) (i + 7) S711 M729))))))
def h_law_12 (U : ut) (n : Nat) (xs : Nat → Int32) (j : Nat) (i : Int32) (S : cs) (M : ms) (R : Nat → Int32 → cs → ms → Prop) : Prop :=
  p_Lw_turn U 0 115 S (fun v739 S739 => p_turn2  M (fun v745 M745 => R (j + 1) (i + 7) S739 M745))
def h_law_13 (U : ut) (n : Nat) (xs : Nat → Int32) (j : Nat) (i : Int32) (S : cs) (M : ms) (R : Nat → Int32 → cs → ms → Prop) : Prop :=
  p_B_unpack U 0 S (fun v754 S754 => p_unpack  M (fun v759 M759 => R (j + 1) (i + 7) S754 M759))
def h_law_14 (U : ut) (n : Nat) (xs : Nat → Int32) (j : Nat) (i : Int32) (S : cs) (M : ms) (R : Nat → Int32 → cs → ms → Prop) : Prop :=
  p_B_place U 0 S (fun v767 S767 => p_place  M (fun v772 M772 => R (j + 1) (i + 7) S767 M772))
def h_law_15 (U : ut) (n : Nat) (xs : Nat → Int32) (j : Nat) (i : Int32) (S : cs) (M : ms) (R : Nat → Int32 → cs → ms → Prop) : Prop :=
  vp_in (i + 1) n ∧ (p_Lw_about U 0 (xs (i + 1).toNatClampNeg) 115 S (fun v787 S787 => vp_in (i + 1) n ∧ (p_about (xs (i + 1).toNatClampNeg) M (fun v799 M799 => R (j + 1) (i + 7) S787 M799))))
def h_law_16 (U : ut) (n : Nat) (xs : Nat → Int32) (j : Nat) (i : Int32) (S : cs) (M : ms) (R : Nat → Int32 → cs → ms → Prop) : Prop :=
  vp_in (i + 1) n ∧ (vp_in (i + 2) n ∧ (vp_in (i + 3) n ∧ (p_Lw_sample U 0 (xs (i + 1).toNatClampNeg) (xs (i + 2).toNatClampNeg) (xs (i + 3).toNatClampNeg) 115 S (fun v827 S827 => vp_in (i + 1) n ∧ (vp_in (i + 2) n ∧ (vp_in (i + 3) n ∧ (p_sample (xs (i + 1).toNatClampNeg) (xs (i + 2).toNatClampNeg) (xs (i + 3).toNatClampNeg) M (fun v851 M851 => R (j + 1) (i + 7) S827 M851))))))))
def h_law_17 (U : ut) (n : Nat) (xs : Nat → Int32) (j : Nat) (i : Int32) (S : cs) (M : ms) (R : Nat → Int32 → cs → ms → Prop) : Prop :=
  vp_in (i + 1) n ∧ (vp_in (i + 2) n ∧ (vp_in (i + 3) n ∧ (vp_in (i + 4) n ∧ (p_Lw_level U 0 (xs (i + 1).toNatClampNeg) (xs (i + 2).toNatClampNeg) (xs (i + 3).toNatClampNeg) (xs (i + 4).toNatClampNeg) 115 S (fun v885 S885 => vp_in (i + 1) n ∧ (vp_in (i + 2) n ∧ (vp_in (i + 3) n ∧ (vp_in (i + 4) n ∧ (p_level (xs (i + 1).toNatClampNeg) (xs (i + 2).toNatClampNeg) (xs (i + 3).toNatClampNeg) (xs (i + 4).toNatClampNeg) M (fun v915 M915 => R (j + 1) (i + 7) S885 M915))))))))))
def h_law_18 (U : ut) (n : Nat) (xs : Nat → Int32) (j : Nat) (i : Int32) (S : cs) (M : ms) (R : Nat → Int32 → cs → ms → Prop) : Prop :=
  p_Lw_take U 0 S (fun v924 S924 => p_take  M (fun M930 => p_thrown  M930 (fun v934 M934 => (v934 = v924 → (R (j + 1) (i + 7) S924 M934)) ∧ (¬ (v934 = v924) → False))))
def h_law_d (U : ut) (n : Nat) (xs : Nat → Int32) (j : Nat) (i : Int32) (S : cs) (M : ms) (R : Nat → Int32 → cs → ms → Prop) : Prop :=
  R (j + 1) (i + 7) S M
def b_law (U : ut) (n : Nat) (xs : Nat → Int32) (j : Nat) (i : Int32) (S : cs) (M : ms) (R : Nat → Int32 → cs → ms → Prop) : Prop :=
  ¬ (Int32.ofNat n - 7 < i) → j ≤ 511 ∧ vp_in i n ∧ ((xs i.toNatClampNeg &&& 31) = 0 → h_law_0 U n xs j i S M R) ∧ ((xs i.toNatClampNeg &&& 31) = 1 → h_law_1 U n xs j i S M R) ∧ ((xs i.toNatClampNeg &&& 31) = 2 → h_law_2 U n xs j i S M R) ∧ ((xs i.toNatClampNeg &&& 31) = 3 → h_law_3 U n xs j i S M R) ∧ ((xs i.toNatClampNeg &&& 31) = 4 → h_law_4 U n xs j i S M R) ∧ ((xs i.toNatClampNeg &&& 31) = 5 → h_law_5 U n xs j i S M R) ∧ ((xs i.toNatClampNeg &&& 31) = 6 → h_law_6 U n xs j i S M R) ∧ ((xs i.toNatClampNeg &&& 31) = 7 → h_law_7 U n xs j i S M R) ∧ ((xs i.toNatClampNeg &&& 31) = 8 → h_law_8 U n xs j i S M R) ∧ ((xs i.toNatClampNeg &&& 31) = 9 → h_law_9 U n xs j i S M R) ∧ ((xs i.toNatClampNeg &&& 31) = 10 → h_law_10 U n xs j i S M R) ∧ ((xs i.toNatClampNeg &&& 31) = 11 → h_law_11 U n xs j i S M R) ∧ ((xs i.toNatClampNeg &&& 31) = 12 → h_law_12 U n xs j i S M R) ∧ ((xs i.toNatClampNeg &&& 31) = 13 → h_law_13 U n xs j i S M R) ∧ ((xs i.toNatClampNeg &&& 31) = 14 → h_law_14 U n xs j i S M R) ∧ ((xs i.toNatClampNeg &&& 31) = 15 → h_law_15 U n xs j i S M R) ∧ ((xs i.toNatClampNeg &&& 31) = 16 → h_law_16 U n xs j i S M R) ∧ ((xs i.toNatClampNeg &&& 31) = 17 → h_law_17 U n xs j i S M R) ∧ ((xs i.toNatClampNeg &&& 31) = 18 → h_law_18 U n xs j i S M R) ∧ ((∀ k : Fin 19, ¬ (xs i.toNatClampNeg &&& 31) = Int32.ofNat k.val) → h_law_d U n xs j i S M R)
def e_law (U : ut) (n : Nat) (xs : Nat → Int32) (j : Nat) (i : Int32) (S : cs) (M : ms) : Prop :=
  ∃ (I : Nat → Int32 → cs → ms → Prop) (μ : Nat → Int32 → cs → ms → Nat), I j i S M ∧ ∀ j i S M, I j i S M → b_law U n xs j i S M (fun j' i' S' M' => I j' i' S' M' ∧ μ j' i' S' M' < μ j i S M)
section LAWW
variable {D : va_G} {z : Nat → ClassId} {A : Nat → Prop} {X : cx} {b n : Nat} {xs : Nat → Int32} {U : ut} {oa : Nat → Nat} {o : Nat} {ad : Nat → Nat}
set_option maxRecDepth 100000 in
set_option maxHeartbeats 1000000 in
theorem sh_law_0 (C : fcx gG D z A X R_Lw code 7 ret) (hfl : X.2.1.flags = pinnedFlags ++ [noTraceFlag]) (hR : X.2.2.2.1 = room_1) (hX : va_X b n xs X.2.2.2.2.1 X.2.2.2.2.1.heap) (hbl : b < X.2.2.2.2.1.heap.size) (hbA : ¬ A b) (hQ : X.2.2.2.2.2.2.2.2.2.2 = eQ gG D z X.2.2.2.2.2.2.2.1 X.2.2.2.2.1 [] 601023 7293028 (fun o _ => o = .returned (some (.int 1)))) (hA : A = owA gG [] X.2.2.2.2.1.heap.size) (hu0 : c_cl U 0 = 1) {R : Nat → Int32 → cs → ms → Prop} (j : Nat) (i : Int32) (S : cs) (M : ms) (hj : j ≤ 511) (hRR : ∀ (j : Nat) (i : Int32) (S : cs) (M : ms), j ≤ 512 → R j i S M → aw gG D z A X 7 23 [some (.ref b), some (.ref (oa 0)), some (.ref o), some (.ref (oa 115)), some (.int i), none, none] [] (lW U oa S o ad M) (155 + j) (395046 + 6 * j)) (hp : h_law_0 U n xs j i S M R) : aw gG D z A X 7 132 [some (.ref b), some (.ref (oa 0)), some (.ref o), some (.ref (oa 115)), some (.int i), none, none] [] (lW U oa S o ad M) (155 + j) (395046 + 6 * j) := by
  unfold h_law_0 at hp
  refine a_aload_n C dl_132 rfl rfl ?_
  refine a_aload_n C dl_133 rfl rfl ?_
  refine a_iload C dl_134 rfl ?_
  refine a_iconst (v := 1) C dl_136 (by decide) ?_
  refine a_iadd C dl_137 ?_
  refine l_sld C hX hbl hbA dl_138 hp.1 ?_
  have hp := hp.2
  refine a_aload_n C dl_139 rfl rfl ?_
  refine a_iload C dl_140 rfl ?_
  refine a_iconst (v := 2) C dl_142 (by decide) ?_
  refine a_iadd C dl_143 ?_
  refine l_sld C hX hbl hbA dl_144 hp.1 ?_
  have hp := hp.2
  refine a_aload_n C dl_145 rfl rfl ?_
  refine a_iload C dl_146 rfl ?_
  refine a_iconst (v := 3) C dl_148 (by decide) ?_
  refine a_iadd C dl_149 ?_
  refine l_sld C hX hbl hbA dl_150 hp.1 ?_
  have hp := hp.2
  refine l_callW (rest := []) (av := [.ref (oa 0), .int (xs (i + 1).toNatClampNeg), .int (xs (i + 2).toNatClampNeg), .int (xs (i + 3).toNatClampNeg)]) C dl_151 (ct_Lw_canvas 0 (xs (i + 1).toNatClampNeg) (xs (i + 2).toNatClampNeg) (xs (i + 3).toNatClampNeg) S hfl hp) cd_C_Lw_canvas i_Lw (Nat.le_of_ble_eq_true rfl) (by rw [hR]; exact Nat.le_of_ble_eq_true rfl) (by rw [hR]; exact Nat.le_of_ble_eq_true rfl) (by rw [hR]; simp only [room_1]; omega) (by rw [hR]; simp only [room_1]; omega) (inv_SW C dl_151 l_Lw_78 st_C_Lw_canvas i_Lw cd_C_Lw_canvas ⟨by decide, by decide⟩ ln_C_Lw_canvas rfl) (fun v151 S151 hp => ?_)
  refine a_istore (lo' := [some (.ref b), some (.ref (oa 0)), some (.ref o), some (.ref (oa 115)), some (.int i), some (.int v151), none]) C dl_154 (by decide) rfl ?_
  refine a_aload_n C dl_156 rfl rfl ?_
  refine a_aload_n C dl_157 rfl rfl ?_
  refine a_iload C dl_158 rfl ?_
  refine a_iconst (v := 1) C dl_160 (by decide) ?_
  refine a_iadd C dl_161 ?_
  refine l_sld C hX hbl hbA dl_162 hp.1 ?_
  have hp := hp.2
  refine a_aload_n C dl_163 rfl rfl ?_
  refine a_iload C dl_164 rfl ?_
  refine a_iconst (v := 2) C dl_166 (by decide) ?_
  refine a_iadd C dl_167 ?_
  refine l_sld C hX hbl hbA dl_168 hp.1 ?_
  have hp := hp.2
  refine a_aload_n C dl_169 rfl rfl ?_
  refine a_iload C dl_170 rfl ?_
  refine a_iconst (v := 3) C dl_172 (by decide) ?_
  refine a_iadd C dl_173 ?_
  refine l_sld C hX hbl hbA dl_174 hp.1 ?_
  have hp := hp.2
  refine l_callMv (rest := []) (av := .ref o :: [.int (xs (i + 1).toNatClampNeg), .int (xs (i + 2).toNatClampNeg), .int (xs (i + 3).toNatClampNeg)]) C dl_175 (ct_canvas (xs (i + 1).toNatClampNeg) (xs (i + 2).toNatClampNeg) (xs (i + 3).toNatClampNeg) M hp) cd_M_canvas i_M (Nat.le_of_ble_eq_true rfl) (by rw [hR]; exact Nat.le_of_ble_eq_true rfl) (by rw [hR]; exact Nat.le_of_ble_eq_true rfl) (by rw [hR]; simp only [room_1]; omega) (by rw [hR]; simp only [room_1]; omega) (inv_V C 0 dl_175 l_Lw_83 im_M_canvas se_M_canvas cd_M_canvas ⟨by decide, by decide⟩ ln_M_canvas rfl rfl rfl rfl rfl) (fun M175 hp => ?_)
  refine a_goto (tgt := 947) C dl_178 (by decide) ?_
  refine a_iinc (v := i + 7) (lo' := [some (.ref b), some (.ref (oa 0)), some (.ref o), some (.ref (oa 115)), some (.int (i + 7)), some (.int v151), none]) C dl_947 rfl rfl (by decide) rfl ?_
  refine a_goto (tgt := 23) C dl_950 (by decide) ?_
  refine aw_lo (lo' := [some (.ref b), some (.ref (oa 0)), some (.ref o), some (.ref (oa 115)), some (.int (i + 7)), none, none]) ⟨.inr rfl, .inr rfl, .inr rfl, .inr rfl, .inr rfl, .inl rfl, .inr rfl, trivial⟩ ?_
  refine aw_widen (nc' := 155 + (j + 1)) (ns' := 395046 + 6 * (j + 1)) (by omega) (by omega) ?_
  exact hRR _ _ _ _ (by omega) hp
set_option maxRecDepth 100000 in
set_option maxHeartbeats 1000000 in
theorem sh_law_1 (C : fcx gG D z A X R_Lw code 7 ret) (hfl : X.2.1.flags = pinnedFlags ++ [noTraceFlag]) (hR : X.2.2.2.1 = room_1) (hX : va_X b n xs X.2.2.2.2.1 X.2.2.2.2.1.heap) (hbl : b < X.2.2.2.2.1.heap.size) (hbA : ¬ A b) (hQ : X.2.2.2.2.2.2.2.2.2.2 = eQ gG D z X.2.2.2.2.2.2.2.1 X.2.2.2.2.1 [] 601023 7293028 (fun o _ => o = .returned (some (.int 1)))) (hA : A = owA gG [] X.2.2.2.2.1.heap.size) (hu0 : c_cl U 0 = 1) {R : Nat → Int32 → cs → ms → Prop} (j : Nat) (i : Int32) (S : cs) (M : ms) (hj : j ≤ 511) (hRR : ∀ (j : Nat) (i : Int32) (S : cs) (M : ms), j ≤ 512 → R j i S M → aw gG D z A X 7 23 [some (.ref b), some (.ref (oa 0)), some (.ref o), some (.ref (oa 115)), some (.int i), none, none] [] (lW U oa S o ad M) (155 + j) (395046 + 6 * j)) (hp : h_law_1 U n xs j i S M R) : aw gG D z A X 7 181 [some (.ref b), some (.ref (oa 0)), some (.ref o), some (.ref (oa 115)), some (.int i), none, none] [] (lW U oa S o ad M) (155 + j) (395046 + 6 * j) := by
  unfold h_law_1 at hp
  refine a_aload_n C dl_181 rfl rfl ?_
  refine a_aload_n C dl_182 rfl rfl ?_
  refine a_iload C dl_183 rfl ?_
  refine a_iconst (v := 1) C dl_185 (by decide) ?_
  refine a_iadd C dl_186 ?_
  refine l_sld C hX hbl hbA dl_187 hp.1 ?_
  have hp := hp.2
  refine a_aload_n C dl_188 rfl rfl ?_
  refine a_iload C dl_189 rfl ?_
  refine a_iconst (v := 2) C dl_191 (by decide) ?_
  refine a_iadd C dl_192 ?_
  refine l_sld C hX hbl hbA dl_193 hp.1 ?_
  have hp := hp.2
  refine a_aload_n C dl_194 rfl rfl ?_
  refine a_iload C dl_195 rfl ?_
  refine a_iconst (v := 3) C dl_197 (by decide) ?_
  refine a_iadd C dl_198 ?_
  refine l_sld C hX hbl hbA dl_199 hp.1 ?_
  have hp := hp.2
  refine a_aload_n C dl_200 rfl rfl ?_
  refine a_iload C dl_201 rfl ?_
  refine a_iconst (v := 4) C dl_203 (by decide) ?_
  refine a_iadd C dl_204 ?_
  refine l_sld C hX hbl hbA dl_205 hp.1 ?_
  have hp := hp.2
  refine a_aload_n C dl_206 rfl rfl ?_
  refine a_iload C dl_207 rfl ?_
  refine a_iconst (v := 5) C dl_209 (by decide) ?_
  refine a_iadd C dl_210 ?_
  refine l_sld C hX hbl hbA dl_211 hp.1 ?_
  have hp := hp.2
  refine l_callW (rest := []) (av := [.ref (oa 0), .int (xs (i + 1).toNatClampNeg), .int (xs (i + 2).toNatClampNeg), .int (xs (i + 3).toNatClampNeg), .int (xs (i + 4).toNatClampNeg), .int (xs (i + 5).toNatClampNeg)]) C dl_212 (ct_Lw_fill 0 (xs (i + 1).toNatClampNeg) (xs (i + 2).toNatClampNeg) (xs (i + 3).toNatClampNeg) (xs (i + 4).toNatClampNeg) (xs (i + 5).toNatClampNeg) S hfl hp) cd_C_Lw_fill i_Lw (Nat.le_of_ble_eq_true rfl) (by rw [hR]; exact Nat.le_of_ble_eq_true rfl) (by rw [hR]; exact Nat.le_of_ble_eq_true rfl) (by rw [hR]; simp only [room_1]; omega) (by rw [hR]; simp only [room_1]; omega) (inv_SW C dl_212 l_Lw_84 st_C_Lw_fill i_Lw cd_C_Lw_fill ⟨by decide, by decide⟩ ln_C_Lw_fill rfl) (fun v212 S212 hp => ?_)
  refine a_istore (lo' := [some (.ref b), some (.ref (oa 0)), some (.ref o), some (.ref (oa 115)), some (.int i), some (.int v212), none]) C dl_215 (by decide) rfl ?_
  refine a_aload_n C dl_217 rfl rfl ?_
  refine a_aload_n C dl_218 rfl rfl ?_
  refine a_iload C dl_219 rfl ?_
  refine a_iconst (v := 1) C dl_221 (by decide) ?_
  refine a_iadd C dl_222 ?_
  refine l_sld C hX hbl hbA dl_223 hp.1 ?_
  have hp := hp.2
  refine a_aload_n C dl_224 rfl rfl ?_
  refine a_iload C dl_225 rfl ?_
  refine a_iconst (v := 2) C dl_227 (by decide) ?_
  refine a_iadd C dl_228 ?_
  refine l_sld C hX hbl hbA dl_229 hp.1 ?_
  have hp := hp.2
  refine a_aload_n C dl_230 rfl rfl ?_
  refine a_iload C dl_231 rfl ?_
  refine a_iconst (v := 3) C dl_233 (by decide) ?_
  refine a_iadd C dl_234 ?_
  refine l_sld C hX hbl hbA dl_235 hp.1 ?_
  have hp := hp.2
  refine a_aload_n C dl_236 rfl rfl ?_
  refine a_iload C dl_237 rfl ?_
  refine a_iconst (v := 4) C dl_239 (by decide) ?_
  refine a_iadd C dl_240 ?_
  refine l_sld C hX hbl hbA dl_241 hp.1 ?_
  have hp := hp.2
  refine a_aload_n C dl_242 rfl rfl ?_
  refine a_iload C dl_243 rfl ?_
  refine a_iconst (v := 5) C dl_245 (by decide) ?_
  refine a_iadd C dl_246 ?_
  refine l_sld C hX hbl hbA dl_247 hp.1 ?_
  have hp := hp.2
  refine l_callMv (rest := []) (av := .ref o :: [.int (xs (i + 1).toNatClampNeg), .int (xs (i + 2).toNatClampNeg), .int (xs (i + 3).toNatClampNeg), .int (xs (i + 4).toNatClampNeg), .int (xs (i + 5).toNatClampNeg)]) C dl_248 (ct_fill (xs (i + 1).toNatClampNeg) (xs (i + 2).toNatClampNeg) (xs (i + 3).toNatClampNeg) (xs (i + 4).toNatClampNeg) (xs (i + 5).toNatClampNeg) M hp) cd_M_fill i_M (Nat.le_of_ble_eq_true rfl) (by rw [hR]; exact Nat.le_of_ble_eq_true rfl) (by rw [hR]; exact Nat.le_of_ble_eq_true rfl) (by rw [hR]; simp only [room_1]; omega) (by rw [hR]; simp only [room_1]; omega) (inv_V C 0 dl_248 l_Lw_87 im_M_fill se_M_fill cd_M_fill ⟨by decide, by decide⟩ ln_M_fill rfl rfl rfl rfl rfl) (fun M248 hp => ?_)
  refine a_goto (tgt := 947) C dl_251 (by decide) ?_
  refine a_iinc (v := i + 7) (lo' := [some (.ref b), some (.ref (oa 0)), some (.ref o), some (.ref (oa 115)), some (.int (i + 7)), some (.int v212), none]) C dl_947 rfl rfl (by decide) rfl ?_
  refine a_goto (tgt := 23) C dl_950 (by decide) ?_
  refine aw_lo (lo' := [some (.ref b), some (.ref (oa 0)), some (.ref o), some (.ref (oa 115)), some (.int (i + 7)), none, none]) ⟨.inr rfl, .inr rfl, .inr rfl, .inr rfl, .inr rfl, .inl rfl, .inr rfl, trivial⟩ ?_
  refine aw_widen (nc' := 155 + (j + 1)) (ns' := 395046 + 6 * (j + 1)) (by omega) (by omega) ?_
  exact hRR _ _ _ _ (by omega) hp
set_option maxRecDepth 100000 in
set_option maxHeartbeats 1000000 in
theorem sh_law_2 (C : fcx gG D z A X R_Lw code 7 ret) (hfl : X.2.1.flags = pinnedFlags ++ [noTraceFlag]) (hR : X.2.2.2.1 = room_1) (hX : va_X b n xs X.2.2.2.2.1 X.2.2.2.2.1.heap) (hbl : b < X.2.2.2.2.1.heap.size) (hbA : ¬ A b) (hQ : X.2.2.2.2.2.2.2.2.2.2 = eQ gG D z X.2.2.2.2.2.2.2.1 X.2.2.2.2.1 [] 601023 7293028 (fun o _ => o = .returned (some (.int 1)))) (hA : A = owA gG [] X.2.2.2.2.1.heap.size) (hu0 : c_cl U 0 = 1) {R : Nat → Int32 → cs → ms → Prop} (j : Nat) (i : Int32) (S : cs) (M : ms) (hj : j ≤ 511) (hRR : ∀ (j : Nat) (i : Int32) (S : cs) (M : ms), j ≤ 512 → R j i S M → aw gG D z A X 7 23 [some (.ref b), some (.ref (oa 0)), some (.ref o), some (.ref (oa 115)), some (.int i), none, none] [] (lW U oa S o ad M) (155 + j) (395046 + 6 * j)) (hp : h_law_2 U n xs j i S M R) : aw gG D z A X 7 254 [some (.ref b), some (.ref (oa 0)), some (.ref o), some (.ref (oa 115)), some (.int i), none, none] [] (lW U oa S o ad M) (155 + j) (395046 + 6 * j) := by
  unfold h_law_2 at hp
  refine a_aload_n C dl_254 rfl rfl ?_
  refine a_aload_n C dl_255 rfl rfl ?_
  refine a_iload C dl_256 rfl ?_
  refine a_iconst (v := 1) C dl_258 (by decide) ?_
  refine a_iadd C dl_259 ?_
  refine l_sld C hX hbl hbA dl_260 hp.1 ?_
  have hp := hp.2
  refine a_aload_n C dl_261 rfl rfl ?_
  refine a_iload C dl_262 rfl ?_
  refine a_iconst (v := 2) C dl_264 (by decide) ?_
  refine a_iadd C dl_265 ?_
  refine l_sld C hX hbl hbA dl_266 hp.1 ?_
  have hp := hp.2
  refine a_aload_n C dl_267 rfl rfl ?_
  refine a_iload C dl_268 rfl ?_
  refine a_iconst (v := 3) C dl_270 (by decide) ?_
  refine a_iadd C dl_271 ?_
  refine l_sld C hX hbl hbA dl_272 hp.1 ?_
  have hp := hp.2
  refine a_aload_n C dl_273 rfl rfl ?_
  refine a_iload C dl_274 rfl ?_
  refine a_iconst (v := 4) C dl_276 (by decide) ?_
  refine a_iadd C dl_277 ?_
  refine l_sld C hX hbl hbA dl_278 hp.1 ?_
  have hp := hp.2
  refine a_aload_n C dl_279 rfl rfl ?_
  refine a_iload C dl_280 rfl ?_
  refine a_iconst (v := 5) C dl_282 (by decide) ?_
  refine a_iadd C dl_283 ?_
  refine l_sld C hX hbl hbA dl_284 hp.1 ?_
  have hp := hp.2
  refine a_aload_n C dl_285 rfl rfl ?_
  refine a_iload C dl_286 rfl ?_
  refine a_bipush (v := 6) C dl_288 (by decide) ?_
  refine a_iadd C dl_290 ?_
  refine l_sld C hX hbl hbA dl_291 hp.1 ?_
  have hp := hp.2
  refine l_callW (rest := []) (av := [.ref (oa 0), .int (xs (i + 1).toNatClampNeg), .int (xs (i + 2).toNatClampNeg), .int (xs (i + 3).toNatClampNeg), .int (xs (i + 4).toNatClampNeg), .int (xs (i + 5).toNatClampNeg), .int (xs (i + 6).toNatClampNeg)]) C dl_292 (ct_Lw_slope 0 (xs (i + 1).toNatClampNeg) (xs (i + 2).toNatClampNeg) (xs (i + 3).toNatClampNeg) (xs (i + 4).toNatClampNeg) (xs (i + 5).toNatClampNeg) (xs (i + 6).toNatClampNeg) S hfl hp) cd_C_Lw_slope i_Lw (Nat.le_of_ble_eq_true rfl) (by rw [hR]; exact Nat.le_of_ble_eq_true rfl) (by rw [hR]; exact Nat.le_of_ble_eq_true rfl) (by rw [hR]; simp only [room_1]; omega) (by rw [hR]; simp only [room_1]; omega) (inv_SW C dl_292 l_Lw_88 st_C_Lw_slope i_Lw cd_C_Lw_slope ⟨by decide, by decide⟩ ln_C_Lw_slope rfl) (fun v292 S292 hp => ?_)
  refine a_istore (lo' := [some (.ref b), some (.ref (oa 0)), some (.ref o), some (.ref (oa 115)), some (.int i), some (.int v292), none]) C dl_295 (by decide) rfl ?_
  refine a_aload_n C dl_297 rfl rfl ?_
  refine a_aload_n C dl_298 rfl rfl ?_
  refine a_iload C dl_299 rfl ?_
  refine a_iconst (v := 1) C dl_301 (by decide) ?_
  refine a_iadd C dl_302 ?_
  refine l_sld C hX hbl hbA dl_303 hp.1 ?_
  have hp := hp.2
  refine a_aload_n C dl_304 rfl rfl ?_
  refine a_iload C dl_305 rfl ?_
  refine a_iconst (v := 2) C dl_307 (by decide) ?_
  refine a_iadd C dl_308 ?_
  refine l_sld C hX hbl hbA dl_309 hp.1 ?_
  have hp := hp.2
  refine a_aload_n C dl_310 rfl rfl ?_
  refine a_iload C dl_311 rfl ?_
  refine a_iconst (v := 3) C dl_313 (by decide) ?_
  refine a_iadd C dl_314 ?_
  refine l_sld C hX hbl hbA dl_315 hp.1 ?_
  have hp := hp.2
  refine a_aload_n C dl_316 rfl rfl ?_
  refine a_iload C dl_317 rfl ?_
  refine a_iconst (v := 4) C dl_319 (by decide) ?_
  refine a_iadd C dl_320 ?_
  refine l_sld C hX hbl hbA dl_321 hp.1 ?_
  have hp := hp.2
  refine a_aload_n C dl_322 rfl rfl ?_
  refine a_iload C dl_323 rfl ?_
  refine a_iconst (v := 5) C dl_325 (by decide) ?_
  refine a_iadd C dl_326 ?_
  refine l_sld C hX hbl hbA dl_327 hp.1 ?_
  have hp := hp.2
  refine a_aload_n C dl_328 rfl rfl ?_
  refine a_iload C dl_329 rfl ?_
  refine a_bipush (v := 6) C dl_331 (by decide) ?_
  refine a_iadd C dl_333 ?_
  refine l_sld C hX hbl hbA dl_334 hp.1 ?_
  have hp := hp.2
  refine l_callMv (rest := []) (av := .ref o :: [.int (xs (i + 1).toNatClampNeg), .int (xs (i + 2).toNatClampNeg), .int (xs (i + 3).toNatClampNeg), .int (xs (i + 4).toNatClampNeg), .int (xs (i + 5).toNatClampNeg), .int (xs (i + 6).toNatClampNeg)]) C dl_335 (ct_slope (xs (i + 1).toNatClampNeg) (xs (i + 2).toNatClampNeg) (xs (i + 3).toNatClampNeg) (xs (i + 4).toNatClampNeg) (xs (i + 5).toNatClampNeg) (xs (i + 6).toNatClampNeg) M hp) cd_M_slope i_M (Nat.le_of_ble_eq_true rfl) (by rw [hR]; exact Nat.le_of_ble_eq_true rfl) (by rw [hR]; exact Nat.le_of_ble_eq_true rfl) (by rw [hR]; simp only [room_1]; omega) (by rw [hR]; simp only [room_1]; omega) (inv_V C 0 dl_335 l_Lw_91 im_M_slope se_M_slope cd_M_slope ⟨by decide, by decide⟩ ln_M_slope rfl rfl rfl rfl rfl) (fun M335 hp => ?_)
  refine a_goto (tgt := 947) C dl_338 (by decide) ?_
  refine a_iinc (v := i + 7) (lo' := [some (.ref b), some (.ref (oa 0)), some (.ref o), some (.ref (oa 115)), some (.int (i + 7)), some (.int v292), none]) C dl_947 rfl rfl (by decide) rfl ?_
  refine a_goto (tgt := 23) C dl_950 (by decide) ?_
  refine aw_lo (lo' := [some (.ref b), some (.ref (oa 0)), some (.ref o), some (.ref (oa 115)), some (.int (i + 7)), none, none]) ⟨.inr rfl, .inr rfl, .inr rfl, .inr rfl, .inr rfl, .inl rfl, .inr rfl, trivial⟩ ?_
  refine aw_widen (nc' := 155 + (j + 1)) (ns' := 395046 + 6 * (j + 1)) (by omega) (by omega) ?_
  exact hRR _ _ _ _ (by omega) hp
set_option maxRecDepth 100000 in
set_option maxHeartbeats 1000000 in
theorem sh_law_3 (C : fcx gG D z A X R_Lw code 7 ret) (hfl : X.2.1.flags = pinnedFlags ++ [noTraceFlag]) (hR : X.2.2.2.1 = room_1) (hX : va_X b n xs X.2.2.2.2.1 X.2.2.2.2.1.heap) (hbl : b < X.2.2.2.2.1.heap.size) (hbA : ¬ A b) (hQ : X.2.2.2.2.2.2.2.2.2.2 = eQ gG D z X.2.2.2.2.2.2.2.1 X.2.2.2.2.1 [] 601023 7293028 (fun o _ => o = .returned (some (.int 1)))) (hA : A = owA gG [] X.2.2.2.2.1.heap.size) (hu0 : c_cl U 0 = 1) {R : Nat → Int32 → cs → ms → Prop} (j : Nat) (i : Int32) (S : cs) (M : ms) (hj : j ≤ 511) (hRR : ∀ (j : Nat) (i : Int32) (S : cs) (M : ms), j ≤ 512 → R j i S M → aw gG D z A X 7 23 [some (.ref b), some (.ref (oa 0)), some (.ref o), some (.ref (oa 115)), some (.int i), none, none] [] (lW U oa S o ad M) (155 + j) (395046 + 6 * j)) (hp : h_law_3 U n xs j i S M R) : aw gG D z A X 7 341 [some (.ref b), some (.ref (oa 0)), some (.ref o), some (.ref (oa 115)), some (.int i), none, none] [] (lW U oa S o ad M) (155 + j) (395046 + 6 * j) := by
  unfold h_law_3 at hp
  refine a_aload_n C dl_341 rfl rfl ?_
  refine a_aload_n C dl_342 rfl rfl ?_
  refine a_iload C dl_343 rfl ?_
  refine a_iconst (v := 1) C dl_345 (by decide) ?_
  refine a_iadd C dl_346 ?_
  refine l_sld C hX hbl hbA dl_347 hp.1 ?_
  have hp := hp.2
  refine a_aload_n C dl_348 rfl rfl ?_
  refine a_iload C dl_349 rfl ?_
  refine a_iconst (v := 2) C dl_351 (by decide) ?_
  refine a_iadd C dl_352 ?_
  refine l_sld C hX hbl hbA dl_353 hp.1 ?_
  have hp := hp.2
  refine a_aload_n C dl_354 rfl rfl ?_
  refine a_iload C dl_355 rfl ?_
  refine a_iconst (v := 3) C dl_357 (by decide) ?_
  refine a_iadd C dl_358 ?_
  refine l_sld C hX hbl hbA dl_359 hp.1 ?_
  have hp := hp.2
  refine a_aload_n C dl_360 rfl rfl ?_
  refine l_callW (rest := []) (av := [.ref (oa 0), .int (xs (i + 1).toNatClampNeg), .int (xs (i + 2).toNatClampNeg), .int (xs (i + 3).toNatClampNeg), .ref (oa 115)]) C dl_361 (ct_Lw_at 0 (xs (i + 1).toNatClampNeg) (xs (i + 2).toNatClampNeg) (xs (i + 3).toNatClampNeg) 115 S hfl hp) cd_C_Lw_at i_Lw (Nat.le_of_ble_eq_true rfl) (by rw [hR]; exact Nat.le_of_ble_eq_true rfl) (by rw [hR]; exact Nat.le_of_ble_eq_true rfl) (by rw [hR]; simp only [room_1]; omega) (by rw [hR]; simp only [room_1]; omega) (inv_SW C dl_361 l_Lw_92 st_C_Lw_at i_Lw cd_C_Lw_at ⟨by decide, by decide⟩ ln_C_Lw_at rfl) (fun v361 S361 hp => ?_)
  refine a_istore (lo' := [some (.ref b), some (.ref (oa 0)), some (.ref o), some (.ref (oa 115)), some (.int i), some (.int v361), none]) C dl_364 (by decide) rfl ?_
  refine a_aload_n C dl_366 rfl rfl ?_
  refine a_aload_n C dl_367 rfl rfl ?_
  refine a_iload C dl_368 rfl ?_
  refine a_iconst (v := 1) C dl_370 (by decide) ?_
  refine a_iadd C dl_371 ?_
  refine l_sld C hX hbl hbA dl_372 hp.1 ?_
  have hp := hp.2
  refine a_aload_n C dl_373 rfl rfl ?_
  refine a_iload C dl_374 rfl ?_
  refine a_iconst (v := 2) C dl_376 (by decide) ?_
  refine a_iadd C dl_377 ?_
  refine l_sld C hX hbl hbA dl_378 hp.1 ?_
  have hp := hp.2
  refine a_aload_n C dl_379 rfl rfl ?_
  refine a_iload C dl_380 rfl ?_
  refine a_iconst (v := 3) C dl_382 (by decide) ?_
  refine a_iadd C dl_383 ?_
  refine l_sld C hX hbl hbA dl_384 hp.1 ?_
  have hp := hp.2
  refine l_callMi (rest := []) (av := .ref o :: [.int (xs (i + 1).toNatClampNeg), .int (xs (i + 2).toNatClampNeg), .int (xs (i + 3).toNatClampNeg)]) C dl_385 (ct_at (xs (i + 1).toNatClampNeg) (xs (i + 2).toNatClampNeg) (xs (i + 3).toNatClampNeg) M hp) cd_M_at i_M (Nat.le_of_ble_eq_true rfl) (by rw [hR]; exact Nat.le_of_ble_eq_true rfl) (by rw [hR]; exact Nat.le_of_ble_eq_true rfl) (by rw [hR]; simp only [room_1]; omega) (by rw [hR]; simp only [room_1]; omega) (inv_V C 0 dl_385 l_Lw_95 im_M_at se_M_at cd_M_at ⟨by decide, by decide⟩ ln_M_at rfl rfl rfl rfl rfl) (fun v385 M385 hp => ?_)
  refine a_istore (lo' := [some (.ref b), some (.ref (oa 0)), some (.ref o), some (.ref (oa 115)), some (.int i), some (.int v361), some (.int v385)]) C dl_388 (by decide) rfl ?_
  refine a_goto (tgt := 947) C dl_390 (by decide) ?_
  refine a_iinc (v := i + 7) (lo' := [some (.ref b), some (.ref (oa 0)), some (.ref o), some (.ref (oa 115)), some (.int (i + 7)), some (.int v361), some (.int v385)]) C dl_947 rfl rfl (by decide) rfl ?_
  refine a_goto (tgt := 23) C dl_950 (by decide) ?_
  refine aw_lo (lo' := [some (.ref b), some (.ref (oa 0)), some (.ref o), some (.ref (oa 115)), some (.int (i + 7)), none, none]) ⟨.inr rfl, .inr rfl, .inr rfl, .inr rfl, .inr rfl, .inl rfl, .inl rfl, trivial⟩ ?_
  refine aw_widen (nc' := 155 + (j + 1)) (ns' := 395046 + 6 * (j + 1)) (by omega) (by omega) ?_
  exact hRR _ _ _ _ (by omega) hp
set_option maxRecDepth 100000 in
set_option maxHeartbeats 1000000 in
theorem sh_law_4 (C : fcx gG D z A X R_Lw code 7 ret) (hfl : X.2.1.flags = pinnedFlags ++ [noTraceFlag]) (hR : X.2.2.2.1 = room_1) (hX : va_X b n xs X.2.2.2.2.1 X.2.2.2.2.1.heap) (hbl : b < X.2.2.2.2.1.heap.size) (hbA : ¬ A b) (hQ : X.2.2.2.2.2.2.2.2.2.2 = eQ gG D z X.2.2.2.2.2.2.2.1 X.2.2.2.2.1 [] 601023 7293028 (fun o _ => o = .returned (some (.int 1)))) (hA : A = owA gG [] X.2.2.2.2.1.heap.size) (hu0 : c_cl U 0 = 1) {R : Nat → Int32 → cs → ms → Prop} (j : Nat) (i : Int32) (S : cs) (M : ms) (hj : j ≤ 511) (hRR : ∀ (j : Nat) (i : Int32) (S : cs) (M : ms), j ≤ 512 → R j i S M → aw gG D z A X 7 23 [some (.ref b), some (.ref (oa 0)), some (.ref o), some (.ref (oa 115)), some (.int i), none, none] [] (lW U oa S o ad M) (155 + j) (395046 + 6 * j)) (hp : h_law_4 U n xs j i S M R) : aw gG D z A X 7 393 [some (.ref b), some (.ref (oa 0)), some (.ref o), some (.ref (oa 115)), some (.int i), none, none] [] (lW U oa S o ad M) (155 + j) (395046 + 6 * j) := by
  unfold h_law_4 at hp
  refine a_aload_n C dl_393 rfl rfl ?_
  refine a_aload_n C dl_394 rfl rfl ?_
  refine a_iload C dl_395 rfl ?_
  refine a_iconst (v := 1) C dl_397 (by decide) ?_
  refine a_iadd C dl_398 ?_
  refine l_sld C hX hbl hbA dl_399 hp.1 ?_
  have hp := hp.2
  refine a_aload_n C dl_400 rfl rfl ?_
  refine a_iload C dl_401 rfl ?_
  refine a_iconst (v := 2) C dl_403 (by decide) ?_
  refine a_iadd C dl_404 ?_
  refine l_sld C hX hbl hbA dl_405 hp.1 ?_
  have hp := hp.2
  refine a_aload_n C dl_406 rfl rfl ?_
  refine a_iload C dl_407 rfl ?_
  refine a_iconst (v := 3) C dl_409 (by decide) ?_
  refine a_iadd C dl_410 ?_
  refine l_sld C hX hbl hbA dl_411 hp.1 ?_
  have hp := hp.2
  refine l_callW (rest := []) (av := [.ref (oa 0), .int (xs (i + 1).toNatClampNeg), .int (xs (i + 2).toNatClampNeg), .int (xs (i + 3).toNatClampNeg)]) C dl_412 (ct_Lw_scale 0 (xs (i + 1).toNatClampNeg) (xs (i + 2).toNatClampNeg) (xs (i + 3).toNatClampNeg) S hfl hp) cd_C_Lw_scale i_Lw (Nat.le_of_ble_eq_true rfl) (by rw [hR]; exact Nat.le_of_ble_eq_true rfl) (by rw [hR]; exact Nat.le_of_ble_eq_true rfl) (by rw [hR]; simp only [room_1]; omega) (by rw [hR]; simp only [room_1]; omega) (inv_SW C dl_412 l_Lw_96 st_C_Lw_scale i_Lw cd_C_Lw_scale ⟨by decide, by decide⟩ ln_C_Lw_scale rfl) (fun v412 S412 hp => ?_)
  refine a_istore (lo' := [some (.ref b), some (.ref (oa 0)), some (.ref o), some (.ref (oa 115)), some (.int i), some (.int v412), none]) C dl_415 (by decide) rfl ?_
  refine a_aload_n C dl_417 rfl rfl ?_
  refine a_aload_n C dl_418 rfl rfl ?_
  refine a_iload C dl_419 rfl ?_
  refine a_iconst (v := 1) C dl_421 (by decide) ?_
  refine a_iadd C dl_422 ?_
  refine l_sld C hX hbl hbA dl_423 hp.1 ?_
  have hp := hp.2
  refine a_aload_n C dl_424 rfl rfl ?_
  refine a_iload C dl_425 rfl ?_
  refine a_iconst (v := 2) C dl_427 (by decide) ?_
  refine a_iadd C dl_428 ?_
  refine l_sld C hX hbl hbA dl_429 hp.1 ?_
  have hp := hp.2
  refine a_aload_n C dl_430 rfl rfl ?_
  refine a_iload C dl_431 rfl ?_
  refine a_iconst (v := 3) C dl_433 (by decide) ?_
  refine a_iadd C dl_434 ?_
  refine l_sld C hX hbl hbA dl_435 hp.1 ?_
  have hp := hp.2
  refine l_callMv (rest := []) (av := .ref o :: [.int (xs (i + 1).toNatClampNeg), .int (xs (i + 2).toNatClampNeg), .int (xs (i + 3).toNatClampNeg)]) C dl_436 (ct_scale (xs (i + 1).toNatClampNeg) (xs (i + 2).toNatClampNeg) (xs (i + 3).toNatClampNeg) M hp) cd_M_scale i_M (Nat.le_of_ble_eq_true rfl) (by rw [hR]; exact Nat.le_of_ble_eq_true rfl) (by rw [hR]; exact Nat.le_of_ble_eq_true rfl) (by rw [hR]; simp only [room_1]; omega) (by rw [hR]; simp only [room_1]; omega) (inv_V C 0 dl_436 l_Lw_98 im_M_scale se_M_scale cd_M_scale ⟨by decide, by decide⟩ ln_M_scale rfl rfl rfl rfl rfl) (fun M436 hp => ?_)
  refine a_goto (tgt := 947) C dl_439 (by decide) ?_
  refine a_iinc (v := i + 7) (lo' := [some (.ref b), some (.ref (oa 0)), some (.ref o), some (.ref (oa 115)), some (.int (i + 7)), some (.int v412), none]) C dl_947 rfl rfl (by decide) rfl ?_
  refine a_goto (tgt := 23) C dl_950 (by decide) ?_
  refine aw_lo (lo' := [some (.ref b), some (.ref (oa 0)), some (.ref o), some (.ref (oa 115)), some (.int (i + 7)), none, none]) ⟨.inr rfl, .inr rfl, .inr rfl, .inr rfl, .inr rfl, .inl rfl, .inr rfl, trivial⟩ ?_
  refine aw_widen (nc' := 155 + (j + 1)) (ns' := 395046 + 6 * (j + 1)) (by omega) (by omega) ?_
  exact hRR _ _ _ _ (by omega) hp
set_option maxRecDepth 100000 in
set_option maxHeartbeats 1000000 in
theorem sh_law_5 (C : fcx gG D z A X R_Lw code 7 ret) (hfl : X.2.1.flags = pinnedFlags ++ [noTraceFlag]) (hR : X.2.2.2.1 = room_1) (hX : va_X b n xs X.2.2.2.2.1 X.2.2.2.2.1.heap) (hbl : b < X.2.2.2.2.1.heap.size) (hbA : ¬ A b) (hQ : X.2.2.2.2.2.2.2.2.2.2 = eQ gG D z X.2.2.2.2.2.2.2.1 X.2.2.2.2.1 [] 601023 7293028 (fun o _ => o = .returned (some (.int 1)))) (hA : A = owA gG [] X.2.2.2.2.1.heap.size) (hu0 : c_cl U 0 = 1) {R : Nat → Int32 → cs → ms → Prop} (j : Nat) (i : Int32) (S : cs) (M : ms) (hj : j ≤ 511) (hRR : ∀ (j : Nat) (i : Int32) (S : cs) (M : ms), j ≤ 512 → R j i S M → aw gG D z A X 7 23 [some (.ref b), some (.ref (oa 0)), some (.ref o), some (.ref (oa 115)), some (.int i), none, none] [] (lW U oa S o ad M) (155 + j) (395046 + 6 * j)) (hp : h_law_5 U n xs j i S M R) : aw gG D z A X 7 442 [some (.ref b), some (.ref (oa 0)), some (.ref o), some (.ref (oa 115)), some (.int i), none, none] [] (lW U oa S o ad M) (155 + j) (395046 + 6 * j) := by
  unfold h_law_5 at hp
  refine a_aload_n C dl_442 rfl rfl ?_
  refine a_aload_n C dl_443 rfl rfl ?_
  refine a_iload C dl_444 rfl ?_
  refine a_iconst (v := 1) C dl_446 (by decide) ?_
  refine a_iadd C dl_447 ?_
  refine l_sld C hX hbl hbA dl_448 hp.1 ?_
  have hp := hp.2
  refine a_aload_n C dl_449 rfl rfl ?_
  refine a_iload C dl_450 rfl ?_
  refine a_iconst (v := 2) C dl_452 (by decide) ?_
  refine a_iadd C dl_453 ?_
  refine l_sld C hX hbl hbA dl_454 hp.1 ?_
  have hp := hp.2
  refine a_aload_n C dl_455 rfl rfl ?_
  refine a_iload C dl_456 rfl ?_
  refine a_iconst (v := 3) C dl_458 (by decide) ?_
  refine a_iadd C dl_459 ?_
  refine l_sld C hX hbl hbA dl_460 hp.1 ?_
  have hp := hp.2
  refine a_aload_n C dl_461 rfl rfl ?_
  refine a_iload C dl_462 rfl ?_
  refine a_iconst (v := 4) C dl_464 (by decide) ?_
  refine a_iadd C dl_465 ?_
  refine l_sld C hX hbl hbA dl_466 hp.1 ?_
  have hp := hp.2
  refine l_callW (rest := []) (av := [.ref (oa 0), .int (xs (i + 1).toNatClampNeg), .int (xs (i + 2).toNatClampNeg), .int (xs (i + 3).toNatClampNeg), .int (xs (i + 4).toNatClampNeg)]) C dl_467 (ct_Lw_entry 0 (xs (i + 1).toNatClampNeg) (xs (i + 2).toNatClampNeg) (xs (i + 3).toNatClampNeg) (xs (i + 4).toNatClampNeg) S hfl hp) cd_C_Lw_entry i_Lw (Nat.le_of_ble_eq_true rfl) (by rw [hR]; exact Nat.le_of_ble_eq_true rfl) (by rw [hR]; exact Nat.le_of_ble_eq_true rfl) (by rw [hR]; simp only [room_1]; omega) (by rw [hR]; simp only [room_1]; omega) (inv_SW C dl_467 l_Lw_99 st_C_Lw_entry i_Lw cd_C_Lw_entry ⟨by decide, by decide⟩ ln_C_Lw_entry rfl) (fun v467 S467 hp => ?_)
  refine a_istore (lo' := [some (.ref b), some (.ref (oa 0)), some (.ref o), some (.ref (oa 115)), some (.int i), some (.int v467), none]) C dl_470 (by decide) rfl ?_
  refine a_aload_n C dl_472 rfl rfl ?_
  refine a_aload_n C dl_473 rfl rfl ?_
  refine a_iload C dl_474 rfl ?_
  refine a_iconst (v := 1) C dl_476 (by decide) ?_
  refine a_iadd C dl_477 ?_
  refine l_sld C hX hbl hbA dl_478 hp.1 ?_
  have hp := hp.2
  refine a_aload_n C dl_479 rfl rfl ?_
  refine a_iload C dl_480 rfl ?_
  refine a_iconst (v := 2) C dl_482 (by decide) ?_
  refine a_iadd C dl_483 ?_
  refine l_sld C hX hbl hbA dl_484 hp.1 ?_
  have hp := hp.2
  refine a_aload_n C dl_485 rfl rfl ?_
  refine a_iload C dl_486 rfl ?_
  refine a_iconst (v := 3) C dl_488 (by decide) ?_
  refine a_iadd C dl_489 ?_
  refine l_sld C hX hbl hbA dl_490 hp.1 ?_
  have hp := hp.2
  refine a_aload_n C dl_491 rfl rfl ?_
  refine a_iload C dl_492 rfl ?_
  refine a_iconst (v := 4) C dl_494 (by decide) ?_
  refine a_iadd C dl_495 ?_
  refine l_sld C hX hbl hbA dl_496 hp.1 ?_
  have hp := hp.2
  refine l_callMv (rest := []) (av := .ref o :: [.int (xs (i + 1).toNatClampNeg), .int (xs (i + 2).toNatClampNeg), .int (xs (i + 3).toNatClampNeg), .int (xs (i + 4).toNatClampNeg)]) C dl_497 (ct_entry (xs (i + 1).toNatClampNeg) (xs (i + 2).toNatClampNeg) (xs (i + 3).toNatClampNeg) (xs (i + 4).toNatClampNeg) M hp) cd_M_entry i_M (Nat.le_of_ble_eq_true rfl) (by rw [hR]; exact Nat.le_of_ble_eq_true rfl) (by rw [hR]; exact Nat.le_of_ble_eq_true rfl) (by rw [hR]; simp only [room_1]; omega) (by rw [hR]; simp only [room_1]; omega) (inv_V C 0 dl_497 l_Lw_102 im_M_entry se_M_entry cd_M_entry ⟨by decide, by decide⟩ ln_M_entry rfl rfl rfl rfl rfl) (fun M497 hp => ?_)
  refine a_goto (tgt := 947) C dl_500 (by decide) ?_
  refine a_iinc (v := i + 7) (lo' := [some (.ref b), some (.ref (oa 0)), some (.ref o), some (.ref (oa 115)), some (.int (i + 7)), some (.int v467), none]) C dl_947 rfl rfl (by decide) rfl ?_
  refine a_goto (tgt := 23) C dl_950 (by decide) ?_
  refine aw_lo (lo' := [some (.ref b), some (.ref (oa 0)), some (.ref o), some (.ref (oa 115)), some (.int (i + 7)), none, none]) ⟨.inr rfl, .inr rfl, .inr rfl, .inr rfl, .inr rfl, .inl rfl, .inr rfl, trivial⟩ ?_
  refine aw_widen (nc' := 155 + (j + 1)) (ns' := 395046 + 6 * (j + 1)) (by omega) (by omega) ?_
  exact hRR _ _ _ _ (by omega) hp
set_option maxRecDepth 100000 in
set_option maxHeartbeats 1000000 in
theorem sh_law_6 (C : fcx gG D z A X R_Lw code 7 ret) (hfl : X.2.1.flags = pinnedFlags ++ [noTraceFlag]) (hR : X.2.2.2.1 = room_1) (hX : va_X b n xs X.2.2.2.2.1 X.2.2.2.2.1.heap) (hbl : b < X.2.2.2.2.1.heap.size) (hbA : ¬ A b) (hQ : X.2.2.2.2.2.2.2.2.2.2 = eQ gG D z X.2.2.2.2.2.2.2.1 X.2.2.2.2.1 [] 601023 7293028 (fun o _ => o = .returned (some (.int 1)))) (hA : A = owA gG [] X.2.2.2.2.1.heap.size) (hu0 : c_cl U 0 = 1) {R : Nat → Int32 → cs → ms → Prop} (j : Nat) (i : Int32) (S : cs) (M : ms) (hj : j ≤ 511) (hRR : ∀ (j : Nat) (i : Int32) (S : cs) (M : ms), j ≤ 512 → R j i S M → aw gG D z A X 7 23 [some (.ref b), some (.ref (oa 0)), some (.ref o), some (.ref (oa 115)), some (.int i), none, none] [] (lW U oa S o ad M) (155 + j) (395046 + 6 * j)) (hp : h_law_6 U n xs j i S M R) : aw gG D z A X 7 503 [some (.ref b), some (.ref (oa 0)), some (.ref o), some (.ref (oa 115)), some (.int i), none, none] [] (lW U oa S o ad M) (155 + j) (395046 + 6 * j) := by
  unfold h_law_6 at hp
  refine a_aload_n C dl_503 rfl rfl ?_
  refine a_aload_n C dl_504 rfl rfl ?_
  refine a_iload C dl_505 rfl ?_
  refine a_iconst (v := 1) C dl_507 (by decide) ?_
  refine a_iadd C dl_508 ?_
  refine l_sld C hX hbl hbA dl_509 hp.1 ?_
  have hp := hp.2
  refine a_aload_n C dl_510 rfl rfl ?_
  refine a_iload C dl_511 rfl ?_
  refine a_iconst (v := 2) C dl_513 (by decide) ?_
  refine a_iadd C dl_514 ?_
  refine l_sld C hX hbl hbA dl_515 hp.1 ?_
  have hp := hp.2
  refine a_aload_n C dl_516 rfl rfl ?_
  refine a_iload C dl_517 rfl ?_
  refine a_iconst (v := 3) C dl_519 (by decide) ?_
  refine a_iadd C dl_520 ?_
  refine l_sld C hX hbl hbA dl_521 hp.1 ?_
  have hp := hp.2
  refine a_aload_n C dl_522 rfl rfl ?_
  refine l_callW (rest := []) (av := [.ref (oa 0), .int (xs (i + 1).toNatClampNeg), .int (xs (i + 2).toNatClampNeg), .int (xs (i + 3).toNatClampNeg), .ref (oa 115)]) C dl_523 (ct_Lw_pack 0 (xs (i + 1).toNatClampNeg) (xs (i + 2).toNatClampNeg) (xs (i + 3).toNatClampNeg) 115 S hfl hp) cd_C_Lw_pack i_Lw (Nat.le_of_ble_eq_true rfl) (by rw [hR]; exact Nat.le_of_ble_eq_true rfl) (by rw [hR]; exact Nat.le_of_ble_eq_true rfl) (by rw [hR]; simp only [room_1]; omega) (by rw [hR]; simp only [room_1]; omega) (inv_SW C dl_523 l_Lw_103 st_C_Lw_pack i_Lw cd_C_Lw_pack ⟨by decide, by decide⟩ ln_C_Lw_pack rfl) (fun v523 S523 hp => ?_)
  refine a_istore (lo' := [some (.ref b), some (.ref (oa 0)), some (.ref o), some (.ref (oa 115)), some (.int i), some (.int v523), none]) C dl_526 (by decide) rfl ?_
  refine a_aload_n C dl_528 rfl rfl ?_
  refine a_aload_n C dl_529 rfl rfl ?_
  refine a_iload C dl_530 rfl ?_
  refine a_iconst (v := 1) C dl_532 (by decide) ?_
  refine a_iadd C dl_533 ?_
  refine l_sld C hX hbl hbA dl_534 hp.1 ?_
  have hp := hp.2
  refine a_aload_n C dl_535 rfl rfl ?_
  refine a_iload C dl_536 rfl ?_
  refine a_iconst (v := 2) C dl_538 (by decide) ?_
  refine a_iadd C dl_539 ?_
  refine l_sld C hX hbl hbA dl_540 hp.1 ?_
  have hp := hp.2
  refine a_aload_n C dl_541 rfl rfl ?_
  refine a_iload C dl_542 rfl ?_
  refine a_iconst (v := 3) C dl_544 (by decide) ?_
  refine a_iadd C dl_545 ?_
  refine l_sld C hX hbl hbA dl_546 hp.1 ?_
  have hp := hp.2
  refine l_callMi (rest := []) (av := .ref o :: [.int (xs (i + 1).toNatClampNeg), .int (xs (i + 2).toNatClampNeg), .int (xs (i + 3).toNatClampNeg)]) C dl_547 (ct_pack (xs (i + 1).toNatClampNeg) (xs (i + 2).toNatClampNeg) (xs (i + 3).toNatClampNeg) M hp) cd_M_pack i_M (Nat.le_of_ble_eq_true rfl) (by rw [hR]; exact Nat.le_of_ble_eq_true rfl) (by rw [hR]; exact Nat.le_of_ble_eq_true rfl) (by rw [hR]; simp only [room_1]; omega) (by rw [hR]; simp only [room_1]; omega) (inv_V C 0 dl_547 l_Lw_105 im_M_pack se_M_pack cd_M_pack ⟨by decide, by decide⟩ ln_M_pack rfl rfl rfl rfl rfl) (fun v547 M547 hp => ?_)
  refine a_istore (lo' := [some (.ref b), some (.ref (oa 0)), some (.ref o), some (.ref (oa 115)), some (.int i), some (.int v523), some (.int v547)]) C dl_550 (by decide) rfl ?_
  refine a_goto (tgt := 947) C dl_552 (by decide) ?_
  refine a_iinc (v := i + 7) (lo' := [some (.ref b), some (.ref (oa 0)), some (.ref o), some (.ref (oa 115)), some (.int (i + 7)), some (.int v523), some (.int v547)]) C dl_947 rfl rfl (by decide) rfl ?_
  refine a_goto (tgt := 23) C dl_950 (by decide) ?_
  refine aw_lo (lo' := [some (.ref b), some (.ref (oa 0)), some (.ref o), some (.ref (oa 115)), some (.int (i + 7)), none, none]) ⟨.inr rfl, .inr rfl, .inr rfl, .inr rfl, .inr rfl, .inl rfl, .inl rfl, trivial⟩ ?_
  refine aw_widen (nc' := 155 + (j + 1)) (ns' := 395046 + 6 * (j + 1)) (by omega) (by omega) ?_
  exact hRR _ _ _ _ (by omega) hp
set_option maxRecDepth 100000 in
set_option maxHeartbeats 1000000 in
theorem sh_law_7 (C : fcx gG D z A X R_Lw code 7 ret) (hfl : X.2.1.flags = pinnedFlags ++ [noTraceFlag]) (hR : X.2.2.2.1 = room_1) (hX : va_X b n xs X.2.2.2.2.1 X.2.2.2.2.1.heap) (hbl : b < X.2.2.2.2.1.heap.size) (hbA : ¬ A b) (hQ : X.2.2.2.2.2.2.2.2.2.2 = eQ gG D z X.2.2.2.2.2.2.2.1 X.2.2.2.2.1 [] 601023 7293028 (fun o _ => o = .returned (some (.int 1)))) (hA : A = owA gG [] X.2.2.2.2.1.heap.size) (hu0 : c_cl U 0 = 1) {R : Nat → Int32 → cs → ms → Prop} (j : Nat) (i : Int32) (S : cs) (M : ms) (hj : j ≤ 511) (hRR : ∀ (j : Nat) (i : Int32) (S : cs) (M : ms), j ≤ 512 → R j i S M → aw gG D z A X 7 23 [some (.ref b), some (.ref (oa 0)), some (.ref o), some (.ref (oa 115)), some (.int i), none, none] [] (lW U oa S o ad M) (155 + j) (395046 + 6 * j)) (hp : h_law_7 U n xs j i S M R) : aw gG D z A X 7 555 [some (.ref b), some (.ref (oa 0)), some (.ref o), some (.ref (oa 115)), some (.int i), none, none] [] (lW U oa S o ad M) (155 + j) (395046 + 6 * j) := by
  unfold h_law_7 at hp
  refine a_aload_n C dl_555 rfl rfl ?_
  refine l_callC (rest := []) (av := .ref (oa 0) :: []) C dl_556 (ct_B_size 0 S hu0 hp) cd_C_B_size i_B (Nat.le_of_ble_eq_true rfl) (by rw [hR]; exact Nat.le_of_ble_eq_true rfl) (by rw [hR]; exact Nat.le_of_ble_eq_true rfl) (by rw [hR]; simp only [room_1]; omega) (by rw [hR]; simp only [room_1]; omega) (inv_V C 1 dl_556 l_Lw_106 im_C_B_size se_C_B_size cd_C_B_size ⟨by decide, by decide⟩ ln_C_B_size rfl rfl (show (lW U oa S o ad M)[1]? = _ from cw_obj hu0 rfl) rfl rfl) (fun v556 S556 hp => ?_)
  refine a_pop C dl_559 rfl ?_
  refine a_aload_n C dl_560 rfl rfl ?_
  refine l_callMi (rest := []) (av := .ref o :: []) C dl_561 (ct_size  M hp) cd_M_size i_M (Nat.le_of_ble_eq_true rfl) (by rw [hR]; exact Nat.le_of_ble_eq_true rfl) (by rw [hR]; exact Nat.le_of_ble_eq_true rfl) (by rw [hR]; simp only [room_1]; omega) (by rw [hR]; simp only [room_1]; omega) (inv_V C 0 dl_561 l_Lw_109 im_M_size se_M_size cd_M_size ⟨by decide, by decide⟩ ln_M_size rfl rfl rfl rfl rfl) (fun v561 M561 hp => ?_)
  refine a_pop C dl_564 rfl ?_
  refine a_goto (tgt := 947) C dl_565 (by decide) ?_
  refine a_iinc (v := i + 7) (lo' := [some (.ref b), some (.ref (oa 0)), some (.ref o), some (.ref (oa 115)), some (.int (i + 7)), none, none]) C dl_947 rfl rfl (by decide) rfl ?_
  refine a_goto (tgt := 23) C dl_950 (by decide) ?_
  refine aw_lo (lo' := [some (.ref b), some (.ref (oa 0)), some (.ref o), some (.ref (oa 115)), some (.int (i + 7)), none, none]) ⟨.inr rfl, .inr rfl, .inr rfl, .inr rfl, .inr rfl, .inr rfl, .inr rfl, trivial⟩ ?_
  refine aw_widen (nc' := 155 + (j + 1)) (ns' := 395046 + 6 * (j + 1)) (by omega) (by omega) ?_
  exact hRR _ _ _ _ (by omega) hp
set_option maxRecDepth 100000 in
set_option maxHeartbeats 1000000 in
theorem sh_law_8 (C : fcx gG D z A X R_Lw code 7 ret) (hfl : X.2.1.flags = pinnedFlags ++ [noTraceFlag]) (hR : X.2.2.2.1 = room_1) (hX : va_X b n xs X.2.2.2.2.1 X.2.2.2.2.1.heap) (hbl : b < X.2.2.2.2.1.heap.size) (hbA : ¬ A b) (hQ : X.2.2.2.2.2.2.2.2.2.2 = eQ gG D z X.2.2.2.2.2.2.2.1 X.2.2.2.2.1 [] 601023 7293028 (fun o _ => o = .returned (some (.int 1)))) (hA : A = owA gG [] X.2.2.2.2.1.heap.size) (hu0 : c_cl U 0 = 1) {R : Nat → Int32 → cs → ms → Prop} (j : Nat) (i : Int32) (S : cs) (M : ms) (hj : j ≤ 511) (hRR : ∀ (j : Nat) (i : Int32) (S : cs) (M : ms), j ≤ 512 → R j i S M → aw gG D z A X 7 23 [some (.ref b), some (.ref (oa 0)), some (.ref o), some (.ref (oa 115)), some (.int i), none, none] [] (lW U oa S o ad M) (155 + j) (395046 + 6 * j)) (hp : h_law_8 U n xs j i S M R) : aw gG D z A X 7 568 [some (.ref b), some (.ref (oa 0)), some (.ref o), some (.ref (oa 115)), some (.int i), none, none] [] (lW U oa S o ad M) (155 + j) (395046 + 6 * j) := by
  unfold h_law_8 at hp
  refine a_aload_n C dl_568 rfl rfl ?_
  refine a_aload_n C dl_569 rfl rfl ?_
  refine a_iload C dl_570 rfl ?_
  refine a_iconst (v := 1) C dl_572 (by decide) ?_
  refine a_iadd C dl_573 ?_
  refine l_sld C hX hbl hbA dl_574 hp.1 ?_
  have hp := hp.2
  refine a_aload_n C dl_575 rfl rfl ?_
  refine l_callW (rest := []) (av := [.ref (oa 0), .int (xs (i + 1).toNatClampNeg), .ref (oa 115)]) C dl_576 (ct_Lw_out 0 (xs (i + 1).toNatClampNeg) 115 S hfl hp) cd_C_Lw_out i_Lw (Nat.le_of_ble_eq_true rfl) (by rw [hR]; exact Nat.le_of_ble_eq_true rfl) (by rw [hR]; exact Nat.le_of_ble_eq_true rfl) (by rw [hR]; simp only [room_1]; omega) (by rw [hR]; simp only [room_1]; omega) (inv_SW C dl_576 l_Lw_110 st_C_Lw_out i_Lw cd_C_Lw_out ⟨by decide, by decide⟩ ln_C_Lw_out rfl) (fun v576 S576 hp => ?_)
  refine a_istore (lo' := [some (.ref b), some (.ref (oa 0)), some (.ref o), some (.ref (oa 115)), some (.int i), some (.int v576), none]) C dl_579 (by decide) rfl ?_
  refine a_aload_n C dl_581 rfl rfl ?_
  refine a_aload_n C dl_582 rfl rfl ?_
  refine a_iload C dl_583 rfl ?_
  refine a_iconst (v := 1) C dl_585 (by decide) ?_
  refine a_iadd C dl_586 ?_
  refine l_sld C hX hbl hbA dl_587 hp.1 ?_
  have hp := hp.2
  refine l_callMi (rest := []) (av := .ref o :: [.int (xs (i + 1).toNatClampNeg)]) C dl_588 (ct_out (xs (i + 1).toNatClampNeg) M hp) cd_M_out i_M (Nat.le_of_ble_eq_true rfl) (by rw [hR]; exact Nat.le_of_ble_eq_true rfl) (by rw [hR]; exact Nat.le_of_ble_eq_true rfl) (by rw [hR]; simp only [room_1]; omega) (by rw [hR]; simp only [room_1]; omega) (inv_V C 0 dl_588 l_Lw_113 im_M_out se_M_out cd_M_out ⟨by decide, by decide⟩ ln_M_out rfl rfl rfl rfl rfl) (fun v588 M588 hp => ?_)
  refine a_istore (lo' := [some (.ref b), some (.ref (oa 0)), some (.ref o), some (.ref (oa 115)), some (.int i), some (.int v576), some (.int v588)]) C dl_591 (by decide) rfl ?_
  refine a_goto (tgt := 947) C dl_593 (by decide) ?_
  refine a_iinc (v := i + 7) (lo' := [some (.ref b), some (.ref (oa 0)), some (.ref o), some (.ref (oa 115)), some (.int (i + 7)), some (.int v576), some (.int v588)]) C dl_947 rfl rfl (by decide) rfl ?_
  refine a_goto (tgt := 23) C dl_950 (by decide) ?_
  refine aw_lo (lo' := [some (.ref b), some (.ref (oa 0)), some (.ref o), some (.ref (oa 115)), some (.int (i + 7)), none, none]) ⟨.inr rfl, .inr rfl, .inr rfl, .inr rfl, .inr rfl, .inl rfl, .inl rfl, trivial⟩ ?_
  refine aw_widen (nc' := 155 + (j + 1)) (ns' := 395046 + 6 * (j + 1)) (by omega) (by omega) ?_
  exact hRR _ _ _ _ (by omega) hp
set_option maxRecDepth 100000 in
set_option maxHeartbeats 1000000 in
theorem sh_law_9 (C : fcx gG D z A X R_Lw code 7 ret) (hfl : X.2.1.flags = pinnedFlags ++ [noTraceFlag]) (hR : X.2.2.2.1 = room_1) (hX : va_X b n xs X.2.2.2.2.1 X.2.2.2.2.1.heap) (hbl : b < X.2.2.2.2.1.heap.size) (hbA : ¬ A b) (hQ : X.2.2.2.2.2.2.2.2.2.2 = eQ gG D z X.2.2.2.2.2.2.2.1 X.2.2.2.2.1 [] 601023 7293028 (fun o _ => o = .returned (some (.int 1)))) (hA : A = owA gG [] X.2.2.2.2.1.heap.size) (hu0 : c_cl U 0 = 1) {R : Nat → Int32 → cs → ms → Prop} (j : Nat) (i : Int32) (S : cs) (M : ms) (hj : j ≤ 511) (hRR : ∀ (j : Nat) (i : Int32) (S : cs) (M : ms), j ≤ 512 → R j i S M → aw gG D z A X 7 23 [some (.ref b), some (.ref (oa 0)), some (.ref o), some (.ref (oa 115)), some (.int i), none, none] [] (lW U oa S o ad M) (155 + j) (395046 + 6 * j)) (hp : h_law_9 U n xs j i S M R) : aw gG D z A X 7 596 [some (.ref b), some (.ref (oa 0)), some (.ref o), some (.ref (oa 115)), some (.int i), none, none] [] (lW U oa S o ad M) (155 + j) (395046 + 6 * j) := by
  unfold h_law_9 at hp
  refine a_aload_n C dl_596 rfl rfl ?_
  refine a_aload_n C dl_597 rfl rfl ?_
  refine a_iload C dl_598 rfl ?_
  refine a_iconst (v := 1) C dl_600 (by decide) ?_
  refine a_iadd C dl_601 ?_
  refine l_sld C hX hbl hbA dl_602 hp.1 ?_
  have hp := hp.2
  refine a_aload_n C dl_603 rfl rfl ?_
  refine a_iload C dl_604 rfl ?_
  refine a_iconst (v := 2) C dl_606 (by decide) ?_
  refine a_iadd C dl_607 ?_
  refine l_sld C hX hbl hbA dl_608 hp.1 ?_
  have hp := hp.2
  refine a_aload_n C dl_609 rfl rfl ?_
  refine a_iload C dl_610 rfl ?_
  refine a_iconst (v := 3) C dl_612 (by decide) ?_
  refine a_iadd C dl_613 ?_
  refine l_sld C hX hbl hbA dl_614 hp.1 ?_
  have hp := hp.2
  refine a_aload_n C dl_615 rfl rfl ?_
  refine a_iload C dl_616 rfl ?_
  refine a_iconst (v := 4) C dl_618 (by decide) ?_
  refine a_iadd C dl_619 ?_
  refine l_sld C hX hbl hbA dl_620 hp.1 ?_
  have hp := hp.2
  refine a_aload_n C dl_621 rfl rfl ?_
  refine a_iload C dl_622 rfl ?_
  refine a_iconst (v := 5) C dl_624 (by decide) ?_
  refine a_iadd C dl_625 ?_
  refine l_sld C hX hbl hbA dl_626 hp.1 ?_
  have hp := hp.2
  refine a_aload_n C dl_627 rfl rfl ?_
  refine l_callW (rest := []) (av := [.ref (oa 0), .int (xs (i + 1).toNatClampNeg), .int (xs (i + 2).toNatClampNeg), .int (xs (i + 3).toNatClampNeg), .int (xs (i + 4).toNatClampNeg), .int (xs (i + 5).toNatClampNeg), .ref (oa 115)]) C dl_628 (ct_Lw_feed 0 (xs (i + 1).toNatClampNeg) (xs (i + 2).toNatClampNeg) (xs (i + 3).toNatClampNeg) (xs (i + 4).toNatClampNeg) (xs (i + 5).toNatClampNeg) 115 S hfl hp) cd_C_Lw_feed i_Lw (Nat.le_of_ble_eq_true rfl) (by rw [hR]; exact Nat.le_of_ble_eq_true rfl) (by rw [hR]; exact Nat.le_of_ble_eq_true rfl) (by rw [hR]; simp only [room_1]; omega) (by rw [hR]; simp only [room_1]; omega) (inv_SW C dl_628 l_Lw_114 st_C_Lw_feed i_Lw cd_C_Lw_feed ⟨by decide, by decide⟩ ln_C_Lw_feed rfl) (fun v628 S628 hp => ?_)
  refine a_istore (lo' := [some (.ref b), some (.ref (oa 0)), some (.ref o), some (.ref (oa 115)), some (.int i), some (.int v628), none]) C dl_631 (by decide) rfl ?_
  refine a_aload_n C dl_633 rfl rfl ?_
  refine a_aload_n C dl_634 rfl rfl ?_
  refine a_iload C dl_635 rfl ?_
  refine a_iconst (v := 1) C dl_637 (by decide) ?_
  refine a_iadd C dl_638 ?_
  refine l_sld C hX hbl hbA dl_639 hp.1 ?_
  have hp := hp.2
  refine a_aload_n C dl_640 rfl rfl ?_
  refine a_iload C dl_641 rfl ?_
  refine a_iconst (v := 2) C dl_643 (by decide) ?_
  refine a_iadd C dl_644 ?_
  refine l_sld C hX hbl hbA dl_645 hp.1 ?_
  have hp := hp.2
  refine a_aload_n C dl_646 rfl rfl ?_
  refine a_iload C dl_647 rfl ?_
  refine a_iconst (v := 3) C dl_649 (by decide) ?_
  refine a_iadd C dl_650 ?_
  refine l_sld C hX hbl hbA dl_651 hp.1 ?_
  have hp := hp.2
  refine a_aload_n C dl_652 rfl rfl ?_
  refine a_iload C dl_653 rfl ?_
  refine a_iconst (v := 4) C dl_655 (by decide) ?_
  refine a_iadd C dl_656 ?_
  refine l_sld C hX hbl hbA dl_657 hp.1 ?_
  have hp := hp.2
  refine a_aload_n C dl_658 rfl rfl ?_
  refine a_iload C dl_659 rfl ?_
  refine a_iconst (v := 5) C dl_661 (by decide) ?_
  refine a_iadd C dl_662 ?_
  refine l_sld C hX hbl hbA dl_663 hp.1 ?_
  have hp := hp.2
  refine l_callMi (rest := []) (av := .ref o :: [.int (xs (i + 1).toNatClampNeg), .int (xs (i + 2).toNatClampNeg), .int (xs (i + 3).toNatClampNeg), .int (xs (i + 4).toNatClampNeg), .int (xs (i + 5).toNatClampNeg)]) C dl_664 (ct_feed (xs (i + 1).toNatClampNeg) (xs (i + 2).toNatClampNeg) (xs (i + 3).toNatClampNeg) (xs (i + 4).toNatClampNeg) (xs (i + 5).toNatClampNeg) M hp) cd_M_feed i_M (Nat.le_of_ble_eq_true rfl) (by rw [hR]; exact Nat.le_of_ble_eq_true rfl) (by rw [hR]; exact Nat.le_of_ble_eq_true rfl) (by rw [hR]; simp only [room_1]; omega) (by rw [hR]; simp only [room_1]; omega) (inv_V C 0 dl_664 l_Lw_117 im_M_feed se_M_feed cd_M_feed ⟨by decide, by decide⟩ ln_M_feed rfl rfl rfl rfl rfl) (fun v664 M664 hp => ?_)
  refine a_istore (lo' := [some (.ref b), some (.ref (oa 0)), some (.ref o), some (.ref (oa 115)), some (.int i), some (.int v628), some (.int v664)]) C dl_667 (by decide) rfl ?_
  refine a_goto (tgt := 947) C dl_669 (by decide) ?_
  refine a_iinc (v := i + 7) (lo' := [some (.ref b), some (.ref (oa 0)), some (.ref o), some (.ref (oa 115)), some (.int (i + 7)), some (.int v628), some (.int v664)]) C dl_947 rfl rfl (by decide) rfl ?_
  refine a_goto (tgt := 23) C dl_950 (by decide) ?_
  refine aw_lo (lo' := [some (.ref b), some (.ref (oa 0)), some (.ref o), some (.ref (oa 115)), some (.int (i + 7)), none, none]) ⟨.inr rfl, .inr rfl, .inr rfl, .inr rfl, .inr rfl, .inl rfl, .inl rfl, trivial⟩ ?_
  refine aw_widen (nc' := 155 + (j + 1)) (ns' := 395046 + 6 * (j + 1)) (by omega) (by omega) ?_
  exact hRR _ _ _ _ (by omega) hp
set_option maxRecDepth 100000 in
set_option maxHeartbeats 1000000 in
theorem sh_law_10 (C : fcx gG D z A X R_Lw code 7 ret) (hfl : X.2.1.flags = pinnedFlags ++ [noTraceFlag]) (hR : X.2.2.2.1 = room_1) (hX : va_X b n xs X.2.2.2.2.1 X.2.2.2.2.1.heap) (hbl : b < X.2.2.2.2.1.heap.size) (hbA : ¬ A b) (hQ : X.2.2.2.2.2.2.2.2.2.2 = eQ gG D z X.2.2.2.2.2.2.2.1 X.2.2.2.2.1 [] 601023 7293028 (fun o _ => o = .returned (some (.int 1)))) (hA : A = owA gG [] X.2.2.2.2.1.heap.size) (hu0 : c_cl U 0 = 1) {R : Nat → Int32 → cs → ms → Prop} (j : Nat) (i : Int32) (S : cs) (M : ms) (hj : j ≤ 511) (hRR : ∀ (j : Nat) (i : Int32) (S : cs) (M : ms), j ≤ 512 → R j i S M → aw gG D z A X 7 23 [some (.ref b), some (.ref (oa 0)), some (.ref o), some (.ref (oa 115)), some (.int i), none, none] [] (lW U oa S o ad M) (155 + j) (395046 + 6 * j)) (hp : h_law_10 U n xs j i S M R) : aw gG D z A X 7 672 [some (.ref b), some (.ref (oa 0)), some (.ref o), some (.ref (oa 115)), some (.int i), none, none] [] (lW U oa S o ad M) (155 + j) (395046 + 6 * j) := by
  unfold h_law_10 at hp
  refine a_aload_n C dl_672 rfl rfl ?_
  refine a_aload_n C dl_673 rfl rfl ?_
  refine a_iload C dl_674 rfl ?_
  refine a_iconst (v := 1) C dl_676 (by decide) ?_
  refine a_iadd C dl_677 ?_
  refine l_sld C hX hbl hbA dl_678 hp.1 ?_
  have hp := hp.2
  refine l_callW (rest := []) (av := [.ref (oa 0), .int (xs (i + 1).toNatClampNeg)]) C dl_679 (ct_Lw_end 0 (xs (i + 1).toNatClampNeg) S hfl hp) cd_C_Lw_end i_Lw (Nat.le_of_ble_eq_true rfl) (by rw [hR]; exact Nat.le_of_ble_eq_true rfl) (by rw [hR]; exact Nat.le_of_ble_eq_true rfl) (by rw [hR]; simp only [room_1]; omega) (by rw [hR]; simp only [room_1]; omega) (inv_SW C dl_679 l_Lw_118 st_C_Lw_end i_Lw cd_C_Lw_end ⟨by decide, by decide⟩ ln_C_Lw_end rfl) (fun v679 S679 hp => ?_)
  refine a_istore (lo' := [some (.ref b), some (.ref (oa 0)), some (.ref o), some (.ref (oa 115)), some (.int i), some (.int v679), none]) C dl_682 (by decide) rfl ?_
  refine a_aload_n C dl_684 rfl rfl ?_
  refine a_aload_n C dl_685 rfl rfl ?_
  refine a_iload C dl_686 rfl ?_
  refine a_iconst (v := 1) C dl_688 (by decide) ?_
  refine a_iadd C dl_689 ?_
  refine l_sld C hX hbl hbA dl_690 hp.1 ?_
  have hp := hp.2
  refine l_callMv (rest := []) (av := .ref o :: [.int (xs (i + 1).toNatClampNeg)]) C dl_691 (ct_end (xs (i + 1).toNatClampNeg) M hp) cd_M_end i_M (Nat.le_of_ble_eq_true rfl) (by rw [hR]; exact Nat.le_of_ble_eq_true rfl) (by rw [hR]; exact Nat.le_of_ble_eq_true rfl) (by rw [hR]; simp only [room_1]; omega) (by rw [hR]; simp only [room_1]; omega) (inv_V C 0 dl_691 l_Lw_121 im_M_end se_M_end cd_M_end ⟨by decide, by decide⟩ ln_M_end rfl rfl rfl rfl rfl) (fun M691 hp => ?_)
  refine a_goto (tgt := 947) C dl_694 (by decide) ?_
  refine a_iinc (v := i + 7) (lo' := [some (.ref b), some (.ref (oa 0)), some (.ref o), some (.ref (oa 115)), some (.int (i + 7)), some (.int v679), none]) C dl_947 rfl rfl (by decide) rfl ?_
  refine a_goto (tgt := 23) C dl_950 (by decide) ?_
  refine aw_lo (lo' := [some (.ref b), some (.ref (oa 0)), some (.ref o), some (.ref (oa 115)), some (.int (i + 7)), none, none]) ⟨.inr rfl, .inr rfl, .inr rfl, .inr rfl, .inr rfl, .inl rfl, .inr rfl, trivial⟩ ?_
  refine aw_widen (nc' := 155 + (j + 1)) (ns' := 395046 + 6 * (j + 1)) (by omega) (by omega) ?_
  exact hRR _ _ _ _ (by omega) hp
set_option maxRecDepth 100000 in
set_option maxHeartbeats 1000000 in
theorem sh_law_11 (C : fcx gG D z A X R_Lw code 7 ret) (hfl : X.2.1.flags = pinnedFlags ++ [noTraceFlag]) (hR : X.2.2.2.1 = room_1) (hX : va_X b n xs X.2.2.2.2.1 X.2.2.2.2.1.heap) (hbl : b < X.2.2.2.2.1.heap.size) (hbA : ¬ A b) (hQ : X.2.2.2.2.2.2.2.2.2.2 = eQ gG D z X.2.2.2.2.2.2.2.1 X.2.2.2.2.1 [] 601023 7293028 (fun o _ => o = .returned (some (.int 1)))) (hA : A = owA gG [] X.2.2.2.2.1.heap.size) (hu0 : c_cl U 0 = 1) {R : Nat → Int32 → cs → ms → Prop} (j : Nat) (i : Int32) (S : cs) (M : ms) (hj : j ≤ 511) (hRR : ∀ (j : Nat) (i : Int32) (S : cs) (M : ms), j ≤ 512 → R j i S M → aw gG D z A X 7 23 [some (.ref b), some (.ref (oa 0)), some (.ref o), some (.ref (oa 115)), some (.int i), none, none] [] (lW U oa S o ad M) (155 + j) (395046 + 6 * j)) (hp : h_law_11 U n xs j i S M R) : aw gG D z A X 7 697 [some (.ref b), some (.ref (oa 0)), some (.ref o), some (.ref (oa 115)), some (.int i), none, none] [] (lW U oa S o ad M) (155 + j) (395046 + 6 * j) := by
  unfold h_law_11 at hp
  refine a_aload_n C dl_697 rfl rfl ?_
  refine a_aload_n C dl_698 rfl rfl ?_
  refine a_iload C dl_699 rfl ?_
  refine a_iconst (v := 1) C dl_701 (by decide) ?_
  refine a_iadd C dl_702 ?_
  refine l_sld C hX hbl hbA dl_703 hp.1 ?_
  have hp := hp.2
  refine a_aload_n C dl_704 rfl rfl ?_
  refine a_iload C dl_705 rfl ?_
  refine a_iconst (v := 2) C dl_707 (by decide) ?_
  refine a_iadd C dl_708 ?_
  refine l_sld C hX hbl hbA dl_709 hp.1 ?_
  have hp := hp.2
  refine a_aload_n C dl_710 rfl rfl ?_
  refine l_callW (rest := []) (av := [.ref (oa 0), .int (xs (i + 1).toNatClampNeg), .int (xs (i + 2).toNatClampNeg), .ref (oa 115)]) C dl_711 (ct_Lw_change 0 (xs (i + 1).toNatClampNeg) (xs (i + 2).toNatClampNeg) 115 S hfl hp) cd_C_Lw_change i_Lw (Nat.le_of_ble_eq_true rfl) (by rw [hR]; exact Nat.le_of_ble_eq_true rfl) (by rw [hR]; exact Nat.le_of_ble_eq_true rfl) (by rw [hR]; simp only [room_1]; omega) (by rw [hR]; simp only [room_1]; omega) (inv_SW C dl_711 l_Lw_122 st_C_Lw_change i_Lw cd_C_Lw_change ⟨by decide, by decide⟩ ln_C_Lw_change rfl) (fun v711 S711 hp => ?_)
  refine a_istore (lo' := [some (.ref b), some (.ref (oa 0)), some (.ref o), some (.ref (oa 115)), some (.int i), some (.int v711), none]) C dl_714 (by decide) rfl ?_
  refine a_aload_n C dl_716 rfl rfl ?_
  refine a_aload_n C dl_717 rfl rfl ?_
  refine a_iload C dl_718 rfl ?_
  refine a_iconst (v := 1) C dl_720 (by decide) ?_
  refine a_iadd C dl_721 ?_
  refine l_sld C hX hbl hbA dl_722 hp.1 ?_
  have hp := hp.2
  refine a_aload_n C dl_723 rfl rfl ?_
  refine a_iload C dl_724 rfl ?_
  refine a_iconst (v := 2) C dl_726 (by decide) ?_
  refine a_iadd C dl_727 ?_
  refine l_sld C hX hbl hbA dl_728 hp.1 ?_
  have hp := hp.2
  refine l_callMi (rest := []) (av := .ref o :: [.int (xs (i + 1).toNatClampNeg), .int (xs (i + 2).toNatClampNeg)]) C dl_729 (ct_change (xs (i + 1).toNatClampNeg) (xs (i + 2).toNatClampNeg) M hp) cd_M_change i_M (Nat.le_of_ble_eq_true rfl) (by rw [hR]; exact Nat.le_of_ble_eq_true rfl) (by rw [hR]; exact Nat.le_of_ble_eq_true rfl) (by rw [hR]; simp only [room_1]; omega) (by rw [hR]; simp only [room_1]; omega) (inv_V C 0 dl_729 l_Lw_125 im_M_change se_M_change cd_M_change ⟨by decide, by decide⟩ ln_M_change rfl rfl rfl rfl rfl) (fun v729 M729 hp => ?_)
  refine a_istore (lo' := [some (.ref b), some (.ref (oa 0)), some (.ref o), some (.ref (oa 115)), some (.int i), some (.int v711), some (.int v729)]) C dl_732 (by decide) rfl ?_
  refine a_goto (tgt := 947) C dl_734 (by decide) ?_
  refine a_iinc (v := i + 7) (lo' := [some (.ref b), some (.ref (oa 0)), some (.ref o), some (.ref (oa 115)), some (.int (i + 7)), some (.int v711), some (.int v729)]) C dl_947 rfl rfl (by decide) rfl ?_
  refine a_goto (tgt := 23) C dl_950 (by decide) ?_
  refine aw_lo (lo' := [some (.ref b), some (.ref (oa 0)), some (.ref o), some (.ref (oa 115)), some (.int (i + 7)), none, none]) ⟨.inr rfl, .inr rfl, .inr rfl, .inr rfl, .inr rfl, .inl rfl, .inl rfl, trivial⟩ ?_
  refine aw_widen (nc' := 155 + (j + 1)) (ns' := 395046 + 6 * (j + 1)) (by omega) (by omega) ?_
  exact hRR _ _ _ _ (by omega) hp
set_option maxRecDepth 100000 in
set_option maxHeartbeats 1000000 in
theorem sh_law_12 (C : fcx gG D z A X R_Lw code 7 ret) (hfl : X.2.1.flags = pinnedFlags ++ [noTraceFlag]) (hR : X.2.2.2.1 = room_1) (hX : va_X b n xs X.2.2.2.2.1 X.2.2.2.2.1.heap) (hbl : b < X.2.2.2.2.1.heap.size) (hbA : ¬ A b) (hQ : X.2.2.2.2.2.2.2.2.2.2 = eQ gG D z X.2.2.2.2.2.2.2.1 X.2.2.2.2.1 [] 601023 7293028 (fun o _ => o = .returned (some (.int 1)))) (hA : A = owA gG [] X.2.2.2.2.1.heap.size) (hu0 : c_cl U 0 = 1) {R : Nat → Int32 → cs → ms → Prop} (j : Nat) (i : Int32) (S : cs) (M : ms) (hj : j ≤ 511) (hRR : ∀ (j : Nat) (i : Int32) (S : cs) (M : ms), j ≤ 512 → R j i S M → aw gG D z A X 7 23 [some (.ref b), some (.ref (oa 0)), some (.ref o), some (.ref (oa 115)), some (.int i), none, none] [] (lW U oa S o ad M) (155 + j) (395046 + 6 * j)) (hp : h_law_12 U n xs j i S M R) : aw gG D z A X 7 737 [some (.ref b), some (.ref (oa 0)), some (.ref o), some (.ref (oa 115)), some (.int i), none, none] [] (lW U oa S o ad M) (155 + j) (395046 + 6 * j) := by
  unfold h_law_12 at hp
  refine a_aload_n C dl_737 rfl rfl ?_
  refine a_aload_n C dl_738 rfl rfl ?_
  refine l_callW (rest := []) (av := [.ref (oa 0), .ref (oa 115)]) C dl_739 (ct_Lw_turn 0 115 S hfl hp) cd_C_Lw_turn i_Lw (Nat.le_of_ble_eq_true rfl) (by rw [hR]; exact Nat.le_of_ble_eq_true rfl) (by rw [hR]; exact Nat.le_of_ble_eq_true rfl) (by rw [hR]; simp only [room_1]; omega) (by rw [hR]; simp only [room_1]; omega) (inv_SW C dl_739 l_Lw_126 st_C_Lw_turn i_Lw cd_C_Lw_turn ⟨by decide, by decide⟩ ln_C_Lw_turn rfl) (fun v739 S739 hp => ?_)
  refine a_istore (lo' := [some (.ref b), some (.ref (oa 0)), some (.ref o), some (.ref (oa 115)), some (.int i), some (.int v739), none]) C dl_742 (by decide) rfl ?_
  refine a_aload_n C dl_744 rfl rfl ?_
  refine l_callMi (rest := []) (av := .ref o :: []) C dl_745 (ct_turn2  M hp) cd_M_turn2 i_M (Nat.le_of_ble_eq_true rfl) (by rw [hR]; exact Nat.le_of_ble_eq_true rfl) (by rw [hR]; exact Nat.le_of_ble_eq_true rfl) (by rw [hR]; simp only [room_1]; omega) (by rw [hR]; simp only [room_1]; omega) (inv_V C 0 dl_745 l_Lw_129 im_M_turn2 se_M_turn2 cd_M_turn2 ⟨by decide, by decide⟩ ln_M_turn2 rfl rfl rfl rfl rfl) (fun v745 M745 hp => ?_)
  refine a_istore (lo' := [some (.ref b), some (.ref (oa 0)), some (.ref o), some (.ref (oa 115)), some (.int i), some (.int v739), some (.int v745)]) C dl_748 (by decide) rfl ?_
  refine a_goto (tgt := 947) C dl_750 (by decide) ?_
  refine a_iinc (v := i + 7) (lo' := [some (.ref b), some (.ref (oa 0)), some (.ref o), some (.ref (oa 115)), some (.int (i + 7)), some (.int v739), some (.int v745)]) C dl_947 rfl rfl (by decide) rfl ?_
  refine a_goto (tgt := 23) C dl_950 (by decide) ?_
  refine aw_lo (lo' := [some (.ref b), some (.ref (oa 0)), some (.ref o), some (.ref (oa 115)), some (.int (i + 7)), none, none]) ⟨.inr rfl, .inr rfl, .inr rfl, .inr rfl, .inr rfl, .inl rfl, .inl rfl, trivial⟩ ?_
  refine aw_widen (nc' := 155 + (j + 1)) (ns' := 395046 + 6 * (j + 1)) (by omega) (by omega) ?_
  exact hRR _ _ _ _ (by omega) hp
set_option maxRecDepth 100000 in
set_option maxHeartbeats 1000000 in
theorem sh_law_13 (C : fcx gG D z A X R_Lw code 7 ret) (hfl : X.2.1.flags = pinnedFlags ++ [noTraceFlag]) (hR : X.2.2.2.1 = room_1) (hX : va_X b n xs X.2.2.2.2.1 X.2.2.2.2.1.heap) (hbl : b < X.2.2.2.2.1.heap.size) (hbA : ¬ A b) (hQ : X.2.2.2.2.2.2.2.2.2.2 = eQ gG D z X.2.2.2.2.2.2.2.1 X.2.2.2.2.1 [] 601023 7293028 (fun o _ => o = .returned (some (.int 1)))) (hA : A = owA gG [] X.2.2.2.2.1.heap.size) (hu0 : c_cl U 0 = 1) {R : Nat → Int32 → cs → ms → Prop} (j : Nat) (i : Int32) (S : cs) (M : ms) (hj : j ≤ 511) (hRR : ∀ (j : Nat) (i : Int32) (S : cs) (M : ms), j ≤ 512 → R j i S M → aw gG D z A X 7 23 [some (.ref b), some (.ref (oa 0)), some (.ref o), some (.ref (oa 115)), some (.int i), none, none] [] (lW U oa S o ad M) (155 + j) (395046 + 6 * j)) (hp : h_law_13 U n xs j i S M R) : aw gG D z A X 7 753 [some (.ref b), some (.ref (oa 0)), some (.ref o), some (.ref (oa 115)), some (.int i), none, none] [] (lW U oa S o ad M) (155 + j) (395046 + 6 * j) := by
  unfold h_law_13 at hp
  refine a_aload_n C dl_753 rfl rfl ?_
  refine l_callW (rest := []) (av := .ref (oa 0) :: []) C dl_754 (ct_B_unpack 0 S hfl hu0 hp) cd_C_B_unpack i_B (Nat.le_of_ble_eq_true rfl) (by rw [hR]; exact Nat.le_of_ble_eq_true rfl) (by rw [hR]; exact Nat.le_of_ble_eq_true rfl) (by rw [hR]; simp only [room_1]; omega) (by rw [hR]; simp only [room_1]; omega) (inv_VW C 1 dl_754 l_Lw_130 im_C_B_unpack se_C_B_unpack cd_C_B_unpack ⟨by decide, by decide⟩ ln_C_B_unpack rfl rfl (show (lW U oa S o ad M)[1]? = _ from cw_obj hu0 rfl) rfl rfl) (fun v754 S754 hp => ?_)
  refine a_pop C dl_757 rfl ?_
  refine a_aload_n C dl_758 rfl rfl ?_
  refine l_callMi (rest := []) (av := .ref o :: []) C dl_759 (ct_unpack  M hp) cd_M_unpack i_M (Nat.le_of_ble_eq_true rfl) (by rw [hR]; exact Nat.le_of_ble_eq_true rfl) (by rw [hR]; exact Nat.le_of_ble_eq_true rfl) (by rw [hR]; simp only [room_1]; omega) (by rw [hR]; simp only [room_1]; omega) (inv_V C 0 dl_759 l_Lw_133 im_M_unpack se_M_unpack cd_M_unpack ⟨by decide, by decide⟩ ln_M_unpack rfl rfl rfl rfl rfl) (fun v759 M759 hp => ?_)
  refine a_pop C dl_762 rfl ?_
  refine a_goto (tgt := 947) C dl_763 (by decide) ?_
  refine a_iinc (v := i + 7) (lo' := [some (.ref b), some (.ref (oa 0)), some (.ref o), some (.ref (oa 115)), some (.int (i + 7)), none, none]) C dl_947 rfl rfl (by decide) rfl ?_
  refine a_goto (tgt := 23) C dl_950 (by decide) ?_
  refine aw_lo (lo' := [some (.ref b), some (.ref (oa 0)), some (.ref o), some (.ref (oa 115)), some (.int (i + 7)), none, none]) ⟨.inr rfl, .inr rfl, .inr rfl, .inr rfl, .inr rfl, .inr rfl, .inr rfl, trivial⟩ ?_
  refine aw_widen (nc' := 155 + (j + 1)) (ns' := 395046 + 6 * (j + 1)) (by omega) (by omega) ?_
  exact hRR _ _ _ _ (by omega) hp
set_option maxRecDepth 100000 in
set_option maxHeartbeats 1000000 in
theorem sh_law_14 (C : fcx gG D z A X R_Lw code 7 ret) (hfl : X.2.1.flags = pinnedFlags ++ [noTraceFlag]) (hR : X.2.2.2.1 = room_1) (hX : va_X b n xs X.2.2.2.2.1 X.2.2.2.2.1.heap) (hbl : b < X.2.2.2.2.1.heap.size) (hbA : ¬ A b) (hQ : X.2.2.2.2.2.2.2.2.2.2 = eQ gG D z X.2.2.2.2.2.2.2.1 X.2.2.2.2.1 [] 601023 7293028 (fun o _ => o = .returned (some (.int 1)))) (hA : A = owA gG [] X.2.2.2.2.1.heap.size) (hu0 : c_cl U 0 = 1) {R : Nat → Int32 → cs → ms → Prop} (j : Nat) (i : Int32) (S : cs) (M : ms) (hj : j ≤ 511) (hRR : ∀ (j : Nat) (i : Int32) (S : cs) (M : ms), j ≤ 512 → R j i S M → aw gG D z A X 7 23 [some (.ref b), some (.ref (oa 0)), some (.ref o), some (.ref (oa 115)), some (.int i), none, none] [] (lW U oa S o ad M) (155 + j) (395046 + 6 * j)) (hp : h_law_14 U n xs j i S M R) : aw gG D z A X 7 766 [some (.ref b), some (.ref (oa 0)), some (.ref o), some (.ref (oa 115)), some (.int i), none, none] [] (lW U oa S o ad M) (155 + j) (395046 + 6 * j) := by
  unfold h_law_14 at hp
  refine a_aload_n C dl_766 rfl rfl ?_
  refine l_callC (rest := []) (av := .ref (oa 0) :: []) C dl_767 (ct_B_place 0 S hu0 hp) cd_C_B_place i_B (Nat.le_of_ble_eq_true rfl) (by rw [hR]; exact Nat.le_of_ble_eq_true rfl) (by rw [hR]; exact Nat.le_of_ble_eq_true rfl) (by rw [hR]; simp only [room_1]; omega) (by rw [hR]; simp only [room_1]; omega) (inv_V C 1 dl_767 l_Lw_134 im_C_B_place se_C_B_place cd_C_B_place ⟨by decide, by decide⟩ ln_C_B_place rfl rfl (show (lW U oa S o ad M)[1]? = _ from cw_obj hu0 rfl) rfl rfl) (fun v767 S767 hp => ?_)
  refine a_pop C dl_770 rfl ?_
  refine a_aload_n C dl_771 rfl rfl ?_
  refine l_callMi (rest := []) (av := .ref o :: []) C dl_772 (ct_place  M hp) cd_M_place i_M (Nat.le_of_ble_eq_true rfl) (by rw [hR]; exact Nat.le_of_ble_eq_true rfl) (by rw [hR]; exact Nat.le_of_ble_eq_true rfl) (by rw [hR]; simp only [room_1]; omega) (by rw [hR]; simp only [room_1]; omega) (inv_V C 0 dl_772 l_Lw_137 im_M_place se_M_place cd_M_place ⟨by decide, by decide⟩ ln_M_place rfl rfl rfl rfl rfl) (fun v772 M772 hp => ?_)
  refine a_pop C dl_775 rfl ?_
  refine a_goto (tgt := 947) C dl_776 (by decide) ?_
  refine a_iinc (v := i + 7) (lo' := [some (.ref b), some (.ref (oa 0)), some (.ref o), some (.ref (oa 115)), some (.int (i + 7)), none, none]) C dl_947 rfl rfl (by decide) rfl ?_
  refine a_goto (tgt := 23) C dl_950 (by decide) ?_
  refine aw_lo (lo' := [some (.ref b), some (.ref (oa 0)), some (.ref o), some (.ref (oa 115)), some (.int (i + 7)), none, none]) ⟨.inr rfl, .inr rfl, .inr rfl, .inr rfl, .inr rfl, .inr rfl, .inr rfl, trivial⟩ ?_
  refine aw_widen (nc' := 155 + (j + 1)) (ns' := 395046 + 6 * (j + 1)) (by omega) (by omega) ?_
  exact hRR _ _ _ _ (by omega) hp
set_option maxRecDepth 100000 in
set_option maxHeartbeats 1000000 in
theorem sh_law_15 (C : fcx gG D z A X R_Lw code 7 ret) (hfl : X.2.1.flags = pinnedFlags ++ [noTraceFlag]) (hR : X.2.2.2.1 = room_1) (hX : va_X b n xs X.2.2.2.2.1 X.2.2.2.2.1.heap) (hbl : b < X.2.2.2.2.1.heap.size) (hbA : ¬ A b) (hQ : X.2.2.2.2.2.2.2.2.2.2 = eQ gG D z X.2.2.2.2.2.2.2.1 X.2.2.2.2.1 [] 601023 7293028 (fun o _ => o = .returned (some (.int 1)))) (hA : A = owA gG [] X.2.2.2.2.1.heap.size) (hu0 : c_cl U 0 = 1) {R : Nat → Int32 → cs → ms → Prop} (j : Nat) (i : Int32) (S : cs) (M : ms) (hj : j ≤ 511) (hRR : ∀ (j : Nat) (i : Int32) (S : cs) (M : ms), j ≤ 512 → R j i S M → aw gG D z A X 7 23 [some (.ref b), some (.ref (oa 0)), some (.ref o), some (.ref (oa 115)), some (.int i), none, none] [] (lW U oa S o ad M) (155 + j) (395046 + 6 * j)) (hp : h_law_15 U n xs j i S M R) : aw gG D z A X 7 779 [some (.ref b), some (.ref (oa 0)), some (.ref o), some (.ref (oa 115)), some (.int i), none, none] [] (lW U oa S o ad M) (155 + j) (395046 + 6 * j) := by
  unfold h_law_15 at hp
  refine a_aload_n C dl_779 rfl rfl ?_
  refine a_aload_n C dl_780 rfl rfl ?_
  refine a_iload C dl_781 rfl ?_
  refine a_iconst (v := 1) C dl_783 (by decide) ?_
  refine a_iadd C dl_784 ?_
  refine l_sld C hX hbl hbA dl_785 hp.1 ?_
  have hp := hp.2
  refine a_aload_n C dl_786 rfl rfl ?_
  refine l_callW (rest := []) (av := [.ref (oa 0), .int (xs (i + 1).toNatClampNeg), .ref (oa 115)]) C dl_787 (ct_Lw_about 0 (xs (i + 1).toNatClampNeg) 115 S hfl hp) cd_C_Lw_about i_Lw (Nat.le_of_ble_eq_true rfl) (by rw [hR]; exact Nat.le_of_ble_eq_true rfl) (by rw [hR]; exact Nat.le_of_ble_eq_true rfl) (by rw [hR]; simp only [room_1]; omega) (by rw [hR]; simp only [room_1]; omega) (inv_SW C dl_787 l_Lw_138 st_C_Lw_about i_Lw cd_C_Lw_about ⟨by decide, by decide⟩ ln_C_Lw_about rfl) (fun v787 S787 hp => ?_)
  refine a_istore (lo' := [some (.ref b), some (.ref (oa 0)), some (.ref o), some (.ref (oa 115)), some (.int i), some (.int v787), none]) C dl_790 (by decide) rfl ?_
  refine a_aload_n C dl_792 rfl rfl ?_
  refine a_aload_n C dl_793 rfl rfl ?_
  refine a_iload C dl_794 rfl ?_
  refine a_iconst (v := 1) C dl_796 (by decide) ?_
  refine a_iadd C dl_797 ?_
  refine l_sld C hX hbl hbA dl_798 hp.1 ?_
  have hp := hp.2
  refine l_callMi (rest := []) (av := .ref o :: [.int (xs (i + 1).toNatClampNeg)]) C dl_799 (ct_about (xs (i + 1).toNatClampNeg) M hp) cd_M_about i_M (Nat.le_of_ble_eq_true rfl) (by rw [hR]; exact Nat.le_of_ble_eq_true rfl) (by rw [hR]; exact Nat.le_of_ble_eq_true rfl) (by rw [hR]; simp only [room_1]; omega) (by rw [hR]; simp only [room_1]; omega) (inv_V C 0 dl_799 l_Lw_140 im_M_about se_M_about cd_M_about ⟨by decide, by decide⟩ ln_M_about rfl rfl rfl rfl rfl) (fun v799 M799 hp => ?_)
  refine a_istore (lo' := [some (.ref b), some (.ref (oa 0)), some (.ref o), some (.ref (oa 115)), some (.int i), some (.int v787), some (.int v799)]) C dl_802 (by decide) rfl ?_
  refine a_goto (tgt := 947) C dl_804 (by decide) ?_
  refine a_iinc (v := i + 7) (lo' := [some (.ref b), some (.ref (oa 0)), some (.ref o), some (.ref (oa 115)), some (.int (i + 7)), some (.int v787), some (.int v799)]) C dl_947 rfl rfl (by decide) rfl ?_
  refine a_goto (tgt := 23) C dl_950 (by decide) ?_
  refine aw_lo (lo' := [some (.ref b), some (.ref (oa 0)), some (.ref o), some (.ref (oa 115)), some (.int (i + 7)), none, none]) ⟨.inr rfl, .inr rfl, .inr rfl, .inr rfl, .inr rfl, .inl rfl, .inl rfl, trivial⟩ ?_
  refine aw_widen (nc' := 155 + (j + 1)) (ns' := 395046 + 6 * (j + 1)) (by omega) (by omega) ?_
  exact hRR _ _ _ _ (by omega) hp
set_option maxRecDepth 100000 in
set_option maxHeartbeats 1000000 in
theorem sh_law_16 (C : fcx gG D z A X R_Lw code 7 ret) (hfl : X.2.1.flags = pinnedFlags ++ [noTraceFlag]) (hR : X.2.2.2.1 = room_1) (hX : va_X b n xs X.2.2.2.2.1 X.2.2.2.2.1.heap) (hbl : b < X.2.2.2.2.1.heap.size) (hbA : ¬ A b) (hQ : X.2.2.2.2.2.2.2.2.2.2 = eQ gG D z X.2.2.2.2.2.2.2.1 X.2.2.2.2.1 [] 601023 7293028 (fun o _ => o = .returned (some (.int 1)))) (hA : A = owA gG [] X.2.2.2.2.1.heap.size) (hu0 : c_cl U 0 = 1) {R : Nat → Int32 → cs → ms → Prop} (j : Nat) (i : Int32) (S : cs) (M : ms) (hj : j ≤ 511) (hRR : ∀ (j : Nat) (i : Int32) (S : cs) (M : ms), j ≤ 512 → R j i S M → aw gG D z A X 7 23 [some (.ref b), some (.ref (oa 0)), some (.ref o), some (.ref (oa 115)), some (.int i), none, none] [] (lW U oa S o ad M) (155 + j) (395046 + 6 * j)) (hp : h_law_16 U n xs j i S M R) : aw gG D z A X 7 807 [some (.ref b), some (.ref (oa 0)), some (.ref o), some (.ref (oa 115)), some (.int i), none, none] [] (lW U oa S o ad M) (155 + j) (395046 + 6 * j) := by
  unfold h_law_16 at hp
  refine a_aload_n C dl_807 rfl rfl ?_
  refine a_aload_n C dl_808 rfl rfl ?_
  refine a_iload C dl_809 rfl ?_
  refine a_iconst (v := 1) C dl_811 (by decide) ?_
  refine a_iadd C dl_812 ?_
  refine l_sld C hX hbl hbA dl_813 hp.1 ?_
  have hp := hp.2
  refine a_aload_n C dl_814 rfl rfl ?_
  refine a_iload C dl_815 rfl ?_
  refine a_iconst (v := 2) C dl_817 (by decide) ?_
  refine a_iadd C dl_818 ?_
  refine l_sld C hX hbl hbA dl_819 hp.1 ?_
  have hp := hp.2
  refine a_aload_n C dl_820 rfl rfl ?_
  refine a_iload C dl_821 rfl ?_
  refine a_iconst (v := 3) C dl_823 (by decide) ?_
  refine a_iadd C dl_824 ?_
  refine l_sld C hX hbl hbA dl_825 hp.1 ?_
  have hp := hp.2
  refine a_aload_n C dl_826 rfl rfl ?_
  refine l_callW (rest := []) (av := [.ref (oa 0), .int (xs (i + 1).toNatClampNeg), .int (xs (i + 2).toNatClampNeg), .int (xs (i + 3).toNatClampNeg), .ref (oa 115)]) C dl_827 (ct_Lw_sample 0 (xs (i + 1).toNatClampNeg) (xs (i + 2).toNatClampNeg) (xs (i + 3).toNatClampNeg) 115 S hfl hp) cd_C_Lw_sample i_Lw (Nat.le_of_ble_eq_true rfl) (by rw [hR]; exact Nat.le_of_ble_eq_true rfl) (by rw [hR]; exact Nat.le_of_ble_eq_true rfl) (by rw [hR]; simp only [room_1]; omega) (by rw [hR]; simp only [room_1]; omega) (inv_SW C dl_827 l_Lw_141 st_C_Lw_sample i_Lw cd_C_Lw_sample ⟨by decide, by decide⟩ ln_C_Lw_sample rfl) (fun v827 S827 hp => ?_)
  refine a_istore (lo' := [some (.ref b), some (.ref (oa 0)), some (.ref o), some (.ref (oa 115)), some (.int i), some (.int v827), none]) C dl_830 (by decide) rfl ?_
  refine a_aload_n C dl_832 rfl rfl ?_
  refine a_aload_n C dl_833 rfl rfl ?_
  refine a_iload C dl_834 rfl ?_
  refine a_iconst (v := 1) C dl_836 (by decide) ?_
  refine a_iadd C dl_837 ?_
  refine l_sld C hX hbl hbA dl_838 hp.1 ?_
  have hp := hp.2
  refine a_aload_n C dl_839 rfl rfl ?_
  refine a_iload C dl_840 rfl ?_
  refine a_iconst (v := 2) C dl_842 (by decide) ?_
  refine a_iadd C dl_843 ?_
  refine l_sld C hX hbl hbA dl_844 hp.1 ?_
  have hp := hp.2
  refine a_aload_n C dl_845 rfl rfl ?_
  refine a_iload C dl_846 rfl ?_
  refine a_iconst (v := 3) C dl_848 (by decide) ?_
  refine a_iadd C dl_849 ?_
  refine l_sld C hX hbl hbA dl_850 hp.1 ?_
  have hp := hp.2
  refine l_callMi (rest := []) (av := .ref o :: [.int (xs (i + 1).toNatClampNeg), .int (xs (i + 2).toNatClampNeg), .int (xs (i + 3).toNatClampNeg)]) C dl_851 (ct_sample (xs (i + 1).toNatClampNeg) (xs (i + 2).toNatClampNeg) (xs (i + 3).toNatClampNeg) M hp) cd_M_sample i_M (Nat.le_of_ble_eq_true rfl) (by rw [hR]; exact Nat.le_of_ble_eq_true rfl) (by rw [hR]; exact Nat.le_of_ble_eq_true rfl) (by rw [hR]; simp only [room_1]; omega) (by rw [hR]; simp only [room_1]; omega) (inv_V C 0 dl_851 l_Lw_143 im_M_sample se_M_sample cd_M_sample ⟨by decide, by decide⟩ ln_M_sample rfl rfl rfl rfl rfl) (fun v851 M851 hp => ?_)
  refine a_istore (lo' := [some (.ref b), some (.ref (oa 0)), some (.ref o), some (.ref (oa 115)), some (.int i), some (.int v827), some (.int v851)]) C dl_854 (by decide) rfl ?_
  refine a_goto (tgt := 947) C dl_856 (by decide) ?_
  refine a_iinc (v := i + 7) (lo' := [some (.ref b), some (.ref (oa 0)), some (.ref o), some (.ref (oa 115)), some (.int (i + 7)), some (.int v827), some (.int v851)]) C dl_947 rfl rfl (by decide) rfl ?_
  refine a_goto (tgt := 23) C dl_950 (by decide) ?_
  refine aw_lo (lo' := [some (.ref b), some (.ref (oa 0)), some (.ref o), some (.ref (oa 115)), some (.int (i + 7)), none, none]) ⟨.inr rfl, .inr rfl, .inr rfl, .inr rfl, .inr rfl, .inl rfl, .inl rfl, trivial⟩ ?_
  refine aw_widen (nc' := 155 + (j + 1)) (ns' := 395046 + 6 * (j + 1)) (by omega) (by omega) ?_
  exact hRR _ _ _ _ (by omega) hp
set_option maxRecDepth 100000 in
set_option maxHeartbeats 1000000 in
theorem sh_law_17 (C : fcx gG D z A X R_Lw code 7 ret) (hfl : X.2.1.flags = pinnedFlags ++ [noTraceFlag]) (hR : X.2.2.2.1 = room_1) (hX : va_X b n xs X.2.2.2.2.1 X.2.2.2.2.1.heap) (hbl : b < X.2.2.2.2.1.heap.size) (hbA : ¬ A b) (hQ : X.2.2.2.2.2.2.2.2.2.2 = eQ gG D z X.2.2.2.2.2.2.2.1 X.2.2.2.2.1 [] 601023 7293028 (fun o _ => o = .returned (some (.int 1)))) (hA : A = owA gG [] X.2.2.2.2.1.heap.size) (hu0 : c_cl U 0 = 1) {R : Nat → Int32 → cs → ms → Prop} (j : Nat) (i : Int32) (S : cs) (M : ms) (hj : j ≤ 511) (hRR : ∀ (j : Nat) (i : Int32) (S : cs) (M : ms), j ≤ 512 → R j i S M → aw gG D z A X 7 23 [some (.ref b), some (.ref (oa 0)), some (.ref o), some (.ref (oa 115)), some (.int i), none, none] [] (lW U oa S o ad M) (155 + j) (395046 + 6 * j)) (hp : h_law_17 U n xs j i S M R) : aw gG D z A X 7 859 [some (.ref b), some (.ref (oa 0)), some (.ref o), some (.ref (oa 115)), some (.int i), none, none] [] (lW U oa S o ad M) (155 + j) (395046 + 6 * j) := by
  unfold h_law_17 at hp
  refine a_aload_n C dl_859 rfl rfl ?_
  refine a_aload_n C dl_860 rfl rfl ?_
  refine a_iload C dl_861 rfl ?_
  refine a_iconst (v := 1) C dl_863 (by decide) ?_
  refine a_iadd C dl_864 ?_
  refine l_sld C hX hbl hbA dl_865 hp.1 ?_
  have hp := hp.2
  refine a_aload_n C dl_866 rfl rfl ?_
  refine a_iload C dl_867 rfl ?_
  refine a_iconst (v := 2) C dl_869 (by decide) ?_
  refine a_iadd C dl_870 ?_
  refine l_sld C hX hbl hbA dl_871 hp.1 ?_
  have hp := hp.2
  refine a_aload_n C dl_872 rfl rfl ?_
  refine a_iload C dl_873 rfl ?_
  refine a_iconst (v := 3) C dl_875 (by decide) ?_
  refine a_iadd C dl_876 ?_
  refine l_sld C hX hbl hbA dl_877 hp.1 ?_
  have hp := hp.2
  refine a_aload_n C dl_878 rfl rfl ?_
  refine a_iload C dl_879 rfl ?_
  refine a_iconst (v := 4) C dl_881 (by decide) ?_
  refine a_iadd C dl_882 ?_
  refine l_sld C hX hbl hbA dl_883 hp.1 ?_
  have hp := hp.2
  refine a_aload_n C dl_884 rfl rfl ?_
  refine l_callW (rest := []) (av := [.ref (oa 0), .int (xs (i + 1).toNatClampNeg), .int (xs (i + 2).toNatClampNeg), .int (xs (i + 3).toNatClampNeg), .int (xs (i + 4).toNatClampNeg), .ref (oa 115)]) C dl_885 (ct_Lw_level 0 (xs (i + 1).toNatClampNeg) (xs (i + 2).toNatClampNeg) (xs (i + 3).toNatClampNeg) (xs (i + 4).toNatClampNeg) 115 S hfl hp) cd_C_Lw_level i_Lw (Nat.le_of_ble_eq_true rfl) (by rw [hR]; exact Nat.le_of_ble_eq_true rfl) (by rw [hR]; exact Nat.le_of_ble_eq_true rfl) (by rw [hR]; simp only [room_1]; omega) (by rw [hR]; simp only [room_1]; omega) (inv_SW C dl_885 l_Lw_144 st_C_Lw_level i_Lw cd_C_Lw_level ⟨by decide, by decide⟩ ln_C_Lw_level rfl) (fun v885 S885 hp => ?_)
  refine a_istore (lo' := [some (.ref b), some (.ref (oa 0)), some (.ref o), some (.ref (oa 115)), some (.int i), some (.int v885), none]) C dl_888 (by decide) rfl ?_
  refine a_aload_n C dl_890 rfl rfl ?_
  refine a_aload_n C dl_891 rfl rfl ?_
  refine a_iload C dl_892 rfl ?_
  refine a_iconst (v := 1) C dl_894 (by decide) ?_
  refine a_iadd C dl_895 ?_
  refine l_sld C hX hbl hbA dl_896 hp.1 ?_
  have hp := hp.2
  refine a_aload_n C dl_897 rfl rfl ?_
  refine a_iload C dl_898 rfl ?_
  refine a_iconst (v := 2) C dl_900 (by decide) ?_
  refine a_iadd C dl_901 ?_
  refine l_sld C hX hbl hbA dl_902 hp.1 ?_
  have hp := hp.2
  refine a_aload_n C dl_903 rfl rfl ?_
  refine a_iload C dl_904 rfl ?_
  refine a_iconst (v := 3) C dl_906 (by decide) ?_
  refine a_iadd C dl_907 ?_
  refine l_sld C hX hbl hbA dl_908 hp.1 ?_
  have hp := hp.2
  refine a_aload_n C dl_909 rfl rfl ?_
  refine a_iload C dl_910 rfl ?_
  refine a_iconst (v := 4) C dl_912 (by decide) ?_
  refine a_iadd C dl_913 ?_
  refine l_sld C hX hbl hbA dl_914 hp.1 ?_
  have hp := hp.2
  refine l_callMi (rest := []) (av := .ref o :: [.int (xs (i + 1).toNatClampNeg), .int (xs (i + 2).toNatClampNeg), .int (xs (i + 3).toNatClampNeg), .int (xs (i + 4).toNatClampNeg)]) C dl_915 (ct_level (xs (i + 1).toNatClampNeg) (xs (i + 2).toNatClampNeg) (xs (i + 3).toNatClampNeg) (xs (i + 4).toNatClampNeg) M hp) cd_M_level i_M (Nat.le_of_ble_eq_true rfl) (by rw [hR]; exact Nat.le_of_ble_eq_true rfl) (by rw [hR]; exact Nat.le_of_ble_eq_true rfl) (by rw [hR]; simp only [room_1]; omega) (by rw [hR]; simp only [room_1]; omega) (inv_V C 0 dl_915 l_Lw_147 im_M_level se_M_level cd_M_level ⟨by decide, by decide⟩ ln_M_level rfl rfl rfl rfl rfl) (fun v915 M915 hp => ?_)
  refine a_istore (lo' := [some (.ref b), some (.ref (oa 0)), some (.ref o), some (.ref (oa 115)), some (.int i), some (.int v885), some (.int v915)]) C dl_918 (by decide) rfl ?_
  refine a_goto (tgt := 947) C dl_920 (by decide) ?_
  refine a_iinc (v := i + 7) (lo' := [some (.ref b), some (.ref (oa 0)), some (.ref o), some (.ref (oa 115)), some (.int (i + 7)), some (.int v885), some (.int v915)]) C dl_947 rfl rfl (by decide) rfl ?_
  refine a_goto (tgt := 23) C dl_950 (by decide) ?_
  refine aw_lo (lo' := [some (.ref b), some (.ref (oa 0)), some (.ref o), some (.ref (oa 115)), some (.int (i + 7)), none, none]) ⟨.inr rfl, .inr rfl, .inr rfl, .inr rfl, .inr rfl, .inl rfl, .inl rfl, trivial⟩ ?_
  refine aw_widen (nc' := 155 + (j + 1)) (ns' := 395046 + 6 * (j + 1)) (by omega) (by omega) ?_
  exact hRR _ _ _ _ (by omega) hp
set_option maxRecDepth 100000 in
set_option maxHeartbeats 1000000 in
theorem sh_law_18 (C : fcx gG D z A X R_Lw code 7 ret) (hfl : X.2.1.flags = pinnedFlags ++ [noTraceFlag]) (hR : X.2.2.2.1 = room_1) (hX : va_X b n xs X.2.2.2.2.1 X.2.2.2.2.1.heap) (hbl : b < X.2.2.2.2.1.heap.size) (hbA : ¬ A b) (hQ : X.2.2.2.2.2.2.2.2.2.2 = eQ gG D z X.2.2.2.2.2.2.2.1 X.2.2.2.2.1 [] 601023 7293028 (fun o _ => o = .returned (some (.int 1)))) (hA : A = owA gG [] X.2.2.2.2.1.heap.size) (hu0 : c_cl U 0 = 1) {R : Nat → Int32 → cs → ms → Prop} (j : Nat) (i : Int32) (S : cs) (M : ms) (hj : j ≤ 511) (hRR : ∀ (j : Nat) (i : Int32) (S : cs) (M : ms), j ≤ 512 → R j i S M → aw gG D z A X 7 23 [some (.ref b), some (.ref (oa 0)), some (.ref o), some (.ref (oa 115)), some (.int i), none, none] [] (lW U oa S o ad M) (155 + j) (395046 + 6 * j)) (hp : h_law_18 U n xs j i S M R) : aw gG D z A X 7 923 [some (.ref b), some (.ref (oa 0)), some (.ref o), some (.ref (oa 115)), some (.int i), none, none] [] (lW U oa S o ad M) (155 + j) (395046 + 6 * j) := by
  unfold h_law_18 at hp
  refine a_aload_n C dl_923 rfl rfl ?_
  refine l_callW (rest := []) (av := [.ref (oa 0)]) C dl_924 (ct_Lw_take 0 S hfl hp) cd_C_Lw_take i_Lw (Nat.le_of_ble_eq_true rfl) (by rw [hR]; exact Nat.le_of_ble_eq_true rfl) (by rw [hR]; exact Nat.le_of_ble_eq_true rfl) (by rw [hR]; simp only [room_1]; omega) (by rw [hR]; simp only [room_1]; omega) (inv_SW C dl_924 l_Lw_148 st_C_Lw_take i_Lw cd_C_Lw_take ⟨by decide, by decide⟩ ln_C_Lw_take rfl) (fun v924 S924 hp => ?_)
  refine a_istore (lo' := [some (.ref b), some (.ref (oa 0)), some (.ref o), some (.ref (oa 115)), some (.int i), some (.int v924), none]) C dl_927 (by decide) rfl ?_
  refine a_aload_n C dl_929 rfl rfl ?_
  refine l_callMv (rest := []) (av := .ref o :: []) C dl_930 (ct_take  M hp) cd_M_take i_M (Nat.le_of_ble_eq_true rfl) (by rw [hR]; exact Nat.le_of_ble_eq_true rfl) (by rw [hR]; exact Nat.le_of_ble_eq_true rfl) (by rw [hR]; simp only [room_1]; omega) (by rw [hR]; simp only [room_1]; omega) (inv_V C 0 dl_930 l_Lw_151 im_M_take se_M_take cd_M_take ⟨by decide, by decide⟩ ln_M_take rfl rfl rfl rfl rfl) (fun M930 hp => ?_)
  refine a_aload_n C dl_933 rfl rfl ?_
  refine l_callMi (rest := []) (av := .ref o :: []) C dl_934 (ct_thrown  M930 hp) cd_M_thrown i_M (Nat.le_of_ble_eq_true rfl) (by rw [hR]; exact Nat.le_of_ble_eq_true rfl) (by rw [hR]; exact Nat.le_of_ble_eq_true rfl) (by rw [hR]; simp only [room_1]; omega) (by rw [hR]; simp only [room_1]; omega) (inv_V C 0 dl_934 l_Lw_152 im_M_thrown se_M_thrown cd_M_thrown ⟨by decide, by decide⟩ ln_M_thrown rfl rfl rfl rfl rfl) (fun v934 M934 hp => ?_)
  refine a_iload C dl_937 rfl ?_
  refine a_icmp_eq (tgt := 944) C dl_939 (by decide) ⟨fun hc => ?_, fun hc => ?_⟩
  · have hp := hp.1 hc
    refine a_goto (tgt := 947) C dl_944 (by decide) ?_
    refine a_iinc (v := i + 7) (lo' := [some (.ref b), some (.ref (oa 0)), some (.ref o), some (.ref (oa 115)), some (.int (i + 7)), some (.int v924), none]) C dl_947 rfl rfl (by decide) rfl ?_
    refine a_goto (tgt := 23) C dl_950 (by decide) ?_
    refine aw_lo (lo' := [some (.ref b), some (.ref (oa 0)), some (.ref o), some (.ref (oa 115)), some (.int (i + 7)), none, none]) ⟨.inr rfl, .inr rfl, .inr rfl, .inr rfl, .inr rfl, .inl rfl, .inr rfl, trivial⟩ ?_
    refine aw_widen (nc' := 155 + (j + 1)) (ns' := 395046 + 6 * (j + 1)) (by omega) (by omega) ?_
    exact hRR _ _ _ _ (by omega) hp
  · have hp := hp.2 hc
    exact hp.elim
set_option maxRecDepth 100000 in
set_option maxHeartbeats 1000000 in
theorem sh_law_d (C : fcx gG D z A X R_Lw code 7 ret) (hfl : X.2.1.flags = pinnedFlags ++ [noTraceFlag]) (hR : X.2.2.2.1 = room_1) (hX : va_X b n xs X.2.2.2.2.1 X.2.2.2.2.1.heap) (hbl : b < X.2.2.2.2.1.heap.size) (hbA : ¬ A b) (hQ : X.2.2.2.2.2.2.2.2.2.2 = eQ gG D z X.2.2.2.2.2.2.2.1 X.2.2.2.2.1 [] 601023 7293028 (fun o _ => o = .returned (some (.int 1)))) (hA : A = owA gG [] X.2.2.2.2.1.heap.size) (hu0 : c_cl U 0 = 1) {R : Nat → Int32 → cs → ms → Prop} (j : Nat) (i : Int32) (S : cs) (M : ms) (hj : j ≤ 511) (hRR : ∀ (j : Nat) (i : Int32) (S : cs) (M : ms), j ≤ 512 → R j i S M → aw gG D z A X 7 23 [some (.ref b), some (.ref (oa 0)), some (.ref o), some (.ref (oa 115)), some (.int i), none, none] [] (lW U oa S o ad M) (155 + j) (395046 + 6 * j)) (hp : h_law_d U n xs j i S M R) : aw gG D z A X 7 947 [some (.ref b), some (.ref (oa 0)), some (.ref o), some (.ref (oa 115)), some (.int i), none, none] [] (lW U oa S o ad M) (155 + j) (395046 + 6 * j) := by
  unfold h_law_d at hp
  refine a_iinc (v := i + 7) (lo' := [some (.ref b), some (.ref (oa 0)), some (.ref o), some (.ref (oa 115)), some (.int (i + 7)), none, none]) C dl_947 rfl rfl (by decide) rfl ?_
  refine a_goto (tgt := 23) C dl_950 (by decide) ?_
  refine aw_lo (lo' := [some (.ref b), some (.ref (oa 0)), some (.ref o), some (.ref (oa 115)), some (.int (i + 7)), none, none]) ⟨.inr rfl, .inr rfl, .inr rfl, .inr rfl, .inr rfl, .inr rfl, .inr rfl, trivial⟩ ?_
  refine aw_widen (nc' := 155 + (j + 1)) (ns' := 395046 + 6 * (j + 1)) (by omega) (by omega) ?_
  exact hRR _ _ _ _ (by omega) hp
set_option maxRecDepth 100000 in
set_option maxHeartbeats 1000000 in
theorem s_law_23 (C : fcx gG D z A X R_Lw code 7 ret) (hfl : X.2.1.flags = pinnedFlags ++ [noTraceFlag]) (hR : X.2.2.2.1 = room_1) (hX : va_X b n xs X.2.2.2.2.1 X.2.2.2.2.1.heap) (hbl : b < X.2.2.2.2.1.heap.size) (hbA : ¬ A b) (hQ : X.2.2.2.2.2.2.2.2.2.2 = eQ gG D z X.2.2.2.2.2.2.2.1 X.2.2.2.2.1 [] 601023 7293028 (fun o _ => o = .returned (some (.int 1)))) (hA : A = owA gG [] X.2.2.2.2.1.heap.size) (hu0 : c_cl U 0 = 1) {R : Nat → Int32 → cs → ms → Prop} (j : Nat) (i : Int32) (S : cs) (M : ms) (hj9 : j ≤ 512) (hRR : ∀ (j : Nat) (i : Int32) (S : cs) (M : ms), j ≤ 512 → R j i S M → aw gG D z A X 7 23 [some (.ref b), some (.ref (oa 0)), some (.ref o), some (.ref (oa 115)), some (.int i), none, none] [] (lW U oa S o ad M) (155 + j) (395046 + 6 * j)) (hp : b_law U n xs j i S M R) : aw gG D z A X 7 23 [some (.ref b), some (.ref (oa 0)), some (.ref o), some (.ref (oa 115)), some (.int i), none, none] [] (lW U oa S o ad M) (155 + j) (395046 + 6 * j) := by
  unfold b_law at hp
  refine a_iload C dl_23 rfl ?_
  refine a_aload_n C dl_25 rfl rfl ?_
  refine l_slen C hX hbl hbA dl_26 ?_
  refine a_bipush (v := 7) C dl_27 (by decide) ?_
  refine a_isub C dl_29 ?_
  refine a_icmp_gt (tgt := 953) C dl_30 (by decide) ⟨fun hc => ?_, fun hc => ?_⟩
  · refine aw_widen (nc' := 601023) (ns' := 7293028) (by omega) (by omega) ?_
    refine a_iconst (v := 1) C dl_953 (by decide) ?_
    exact a_iret (ty := .boolean) C hQ hA dl_954 rfl rfl rfl
  · obtain ⟨hj, hin, hp⟩ := hp hc
    refine a_aload_n C dl_33 rfl rfl ?_
    refine a_iload C dl_34 rfl ?_
    refine l_sld C hX hbl hbA dl_36 hin ?_
    refine a_bipush (v := 31) C dl_37 (by decide) ?_
    refine a_iand C dl_39 ?_
    refine (Classical.em ((xs i.toNatClampNeg &&& 31) = 0)).elim (fun hc => l_tabIn (off := 92) (tgt := 132) C dl_40 (by rw [hc]; decide) (by rw [hc]; decide) (by rw [hc]; decide) (by decide) (sh_law_0 C hfl hR hX hbl hbA hQ hA hu0 j i S M hj hRR (hp.1 hc))) (fun hk0 => ?_)
    refine (Classical.em ((xs i.toNatClampNeg &&& 31) = 1)).elim (fun hc => l_tabIn (off := 141) (tgt := 181) C dl_40 (by rw [hc]; decide) (by rw [hc]; decide) (by rw [hc]; decide) (by decide) (sh_law_1 C hfl hR hX hbl hbA hQ hA hu0 j i S M hj hRR (hp.2.1 hc))) (fun hk1 => ?_)
    refine (Classical.em ((xs i.toNatClampNeg &&& 31) = 2)).elim (fun hc => l_tabIn (off := 214) (tgt := 254) C dl_40 (by rw [hc]; decide) (by rw [hc]; decide) (by rw [hc]; decide) (by decide) (sh_law_2 C hfl hR hX hbl hbA hQ hA hu0 j i S M hj hRR (hp.2.2.1 hc))) (fun hk2 => ?_)
    refine (Classical.em ((xs i.toNatClampNeg &&& 31) = 3)).elim (fun hc => l_tabIn (off := 301) (tgt := 341) C dl_40 (by rw [hc]; decide) (by rw [hc]; decide) (by rw [hc]; decide) (by decide) (sh_law_3 C hfl hR hX hbl hbA hQ hA hu0 j i S M hj hRR (hp.2.2.2.1 hc))) (fun hk3 => ?_)
    refine (Classical.em ((xs i.toNatClampNeg &&& 31) = 4)).elim (fun hc => l_tabIn (off := 353) (tgt := 393) C dl_40 (by rw [hc]; decide) (by rw [hc]; decide) (by rw [hc]; decide) (by decide) (sh_law_4 C hfl hR hX hbl hbA hQ hA hu0 j i S M hj hRR (hp.2.2.2.2.1 hc))) (fun hk4 => ?_)
    refine (Classical.em ((xs i.toNatClampNeg &&& 31) = 5)).elim (fun hc => l_tabIn (off := 402) (tgt := 442) C dl_40 (by rw [hc]; decide) (by rw [hc]; decide) (by rw [hc]; decide) (by decide) (sh_law_5 C hfl hR hX hbl hbA hQ hA hu0 j i S M hj hRR (hp.2.2.2.2.2.1 hc))) (fun hk5 => ?_)
    refine (Classical.em ((xs i.toNatClampNeg &&& 31) = 6)).elim (fun hc => l_tabIn (off := 463) (tgt := 503) C dl_40 (by rw [hc]; decide) (by rw [hc]; decide) (by rw [hc]; decide) (by decide) (sh_law_6 C hfl hR hX hbl hbA hQ hA hu0 j i S M hj hRR (hp.2.2.2.2.2.2.1 hc))) (fun hk6 => ?_)
    refine (Classical.em ((xs i.toNatClampNeg &&& 31) = 7)).elim (fun hc => l_tabIn (off := 515) (tgt := 555) C dl_40 (by rw [hc]; decide) (by rw [hc]; decide) (by rw [hc]; decide) (by decide) (sh_law_7 C hfl hR hX hbl hbA hQ hA hu0 j i S M hj hRR (hp.2.2.2.2.2.2.2.1 hc))) (fun hk7 => ?_)
    refine (Classical.em ((xs i.toNatClampNeg &&& 31) = 8)).elim (fun hc => l_tabIn (off := 528) (tgt := 568) C dl_40 (by rw [hc]; decide) (by rw [hc]; decide) (by rw [hc]; decide) (by decide) (sh_law_8 C hfl hR hX hbl hbA hQ hA hu0 j i S M hj hRR (hp.2.2.2.2.2.2.2.2.1 hc))) (fun hk8 => ?_)
    refine (Classical.em ((xs i.toNatClampNeg &&& 31) = 9)).elim (fun hc => l_tabIn (off := 556) (tgt := 596) C dl_40 (by rw [hc]; decide) (by rw [hc]; decide) (by rw [hc]; decide) (by decide) (sh_law_9 C hfl hR hX hbl hbA hQ hA hu0 j i S M hj hRR (hp.2.2.2.2.2.2.2.2.2.1 hc))) (fun hk9 => ?_)
    refine (Classical.em ((xs i.toNatClampNeg &&& 31) = 10)).elim (fun hc => l_tabIn (off := 632) (tgt := 672) C dl_40 (by rw [hc]; decide) (by rw [hc]; decide) (by rw [hc]; decide) (by decide) (sh_law_10 C hfl hR hX hbl hbA hQ hA hu0 j i S M hj hRR (hp.2.2.2.2.2.2.2.2.2.2.1 hc))) (fun hk10 => ?_)
    refine (Classical.em ((xs i.toNatClampNeg &&& 31) = 11)).elim (fun hc => l_tabIn (off := 657) (tgt := 697) C dl_40 (by rw [hc]; decide) (by rw [hc]; decide) (by rw [hc]; decide) (by decide) (sh_law_11 C hfl hR hX hbl hbA hQ hA hu0 j i S M hj hRR (hp.2.2.2.2.2.2.2.2.2.2.2.1 hc))) (fun hk11 => ?_)
    refine (Classical.em ((xs i.toNatClampNeg &&& 31) = 12)).elim (fun hc => l_tabIn (off := 697) (tgt := 737) C dl_40 (by rw [hc]; decide) (by rw [hc]; decide) (by rw [hc]; decide) (by decide) (sh_law_12 C hfl hR hX hbl hbA hQ hA hu0 j i S M hj hRR (hp.2.2.2.2.2.2.2.2.2.2.2.2.1 hc))) (fun hk12 => ?_)
    refine (Classical.em ((xs i.toNatClampNeg &&& 31) = 13)).elim (fun hc => l_tabIn (off := 713) (tgt := 753) C dl_40 (by rw [hc]; decide) (by rw [hc]; decide) (by rw [hc]; decide) (by decide) (sh_law_13 C hfl hR hX hbl hbA hQ hA hu0 j i S M hj hRR (hp.2.2.2.2.2.2.2.2.2.2.2.2.2.1 hc))) (fun hk13 => ?_)
    refine (Classical.em ((xs i.toNatClampNeg &&& 31) = 14)).elim (fun hc => l_tabIn (off := 726) (tgt := 766) C dl_40 (by rw [hc]; decide) (by rw [hc]; decide) (by rw [hc]; decide) (by decide) (sh_law_14 C hfl hR hX hbl hbA hQ hA hu0 j i S M hj hRR (hp.2.2.2.2.2.2.2.2.2.2.2.2.2.2.1 hc))) (fun hk14 => ?_)
    refine (Classical.em ((xs i.toNatClampNeg &&& 31) = 15)).elim (fun hc => l_tabIn (off := 739) (tgt := 779) C dl_40 (by rw [hc]; decide) (by rw [hc]; decide) (by rw [hc]; decide) (by decide) (sh_law_15 C hfl hR hX hbl hbA hQ hA hu0 j i S M hj hRR (hp.2.2.2.2.2.2.2.2.2.2.2.2.2.2.2.1 hc))) (fun hk15 => ?_)
    refine (Classical.em ((xs i.toNatClampNeg &&& 31) = 16)).elim (fun hc => l_tabIn (off := 767) (tgt := 807) C dl_40 (by rw [hc]; decide) (by rw [hc]; decide) (by rw [hc]; decide) (by decide) (sh_law_16 C hfl hR hX hbl hbA hQ hA hu0 j i S M hj hRR (hp.2.2.2.2.2.2.2.2.2.2.2.2.2.2.2.2.1 hc))) (fun hk16 => ?_)
    refine (Classical.em ((xs i.toNatClampNeg &&& 31) = 17)).elim (fun hc => l_tabIn (off := 819) (tgt := 859) C dl_40 (by rw [hc]; decide) (by rw [hc]; decide) (by rw [hc]; decide) (by decide) (sh_law_17 C hfl hR hX hbl hbA hQ hA hu0 j i S M hj hRR (hp.2.2.2.2.2.2.2.2.2.2.2.2.2.2.2.2.2.1 hc))) (fun hk17 => ?_)
    refine (Classical.em ((xs i.toNatClampNeg &&& 31) = 18)).elim (fun hc => l_tabIn (off := 883) (tgt := 923) C dl_40 (by rw [hc]; decide) (by rw [hc]; decide) (by rw [hc]; decide) (by decide) (sh_law_18 C hfl hR hX hbl hbA hQ hA hu0 j i S M hj hRR (hp.2.2.2.2.2.2.2.2.2.2.2.2.2.2.2.2.2.2.1 hc))) (fun hk18 => ?_)
    have hall : ∀ k : Fin 19, ¬ (xs i.toNatClampNeg &&& 31) = Int32.ofNat k.val := fun k => match k with
      | ⟨0, _⟩ => hk0
      | ⟨1, _⟩ => hk1
      | ⟨2, _⟩ => hk2
      | ⟨3, _⟩ => hk3
      | ⟨4, _⟩ => hk4
      | ⟨5, _⟩ => hk5
      | ⟨6, _⟩ => hk6
      | ⟨7, _⟩ => hk7
      | ⟨8, _⟩ => hk8
      | ⟨9, _⟩ => hk9
      | ⟨10, _⟩ => hk10
      | ⟨11, _⟩ => hk11
      | ⟨12, _⟩ => hk12
      | ⟨13, _⟩ => hk13
      | ⟨14, _⟩ => hk14
      | ⟨15, _⟩ => hk15
      | ⟨16, _⟩ => hk16
      | ⟨17, _⟩ => hk17
      | ⟨18, _⟩ => hk18
      | ⟨_ + 19, h⟩ => absurd h (by omega)
    exact l_tabOut (tgt := 947) C dl_40 (tab_out hall) (by decide) (sh_law_d C hfl hR hX hbl hbA hQ hA hu0 j i S M hj hRR (hp.2.2.2.2.2.2.2.2.2.2.2.2.2.2.2.2.2.2.2 hall))
set_option maxRecDepth 100000 in
theorem se_law_23 (C : fcx gG D z A X R_Lw code 7 ret) (hfl : X.2.1.flags = pinnedFlags ++ [noTraceFlag]) (hR : X.2.2.2.1 = room_1) (hX : va_X b n xs X.2.2.2.2.1 X.2.2.2.2.1.heap) (hbl : b < X.2.2.2.2.1.heap.size) (hbA : ¬ A b) (hQ : X.2.2.2.2.2.2.2.2.2.2 = eQ gG D z X.2.2.2.2.2.2.2.1 X.2.2.2.2.1 [] 601023 7293028 (fun o _ => o = .returned (some (.int 1)))) (hA : A = owA gG [] X.2.2.2.2.1.heap.size) (hu0 : c_cl U 0 = 1) (j : Nat) (i : Int32) (S : cs) (M : ms) (hj9 : j ≤ 512) (hp : e_law U n xs j i S M) : aw gG D z A X 7 23 [some (.ref b), some (.ref (oa 0)), some (.ref o), some (.ref (oa 115)), some (.int i), none, none] [] (lW U oa S o ad M) (155 + j) (395046 + 6 * j) := by
  obtain ⟨I, μ, h0, hs⟩ := hp
  have key : ∀ (m : Nat) (j : Nat) (i : Int32) (S : cs) (M : ms), μ j i S M < m → j ≤ 512 → I j i S M → aw gG D z A X 7 23 [some (.ref b), some (.ref (oa 0)), some (.ref o), some (.ref (oa 115)), some (.int i), none, none] [] (lW U oa S o ad M) (155 + j) (395046 + 6 * j) := by
    intro m
    induction m with
    | zero => intro j i S M h; omega
    | succ m ih =>
      intro j i S M hn hj9 hI
      exact s_law_23 C hfl hR hX hbl hbA hQ hA hu0 (R := fun j' i' S' M' => I j' i' S' M' ∧ μ j' i' S' M' < μ j i S M) j i S M hj9 (fun j' i' S' M' h9 hw => ih j' i' S' M' (by omega) h9 hw.1) (hs j i S M hI)
  exact key (μ j i S M + 1) j i S M (Nat.lt_succ_self _) hj9 h0
end LAWW
def S_0 : cs := (fun _ _ => 0, fun _ _ => 0, fun _ _ => NU)
def M_0 : ms := ((upd (upd (upd (upd (fun _ => 0) 1 8) 2 8) 3 1) 10 (-1)), fun _ _ => 0, fun _ _ => 0)
def U1 : ut := [(1, 0)] ++ ext_B_init
def UL : ut := U1 ++ [(904, 1)]
def p_law (n : Nat) (xs : Nat → Int32) : Prop :=
  p_B_init [(1, 0)] 0 S_0 (fun S => fresh S 115 ∧ p_init M_0 (fun M => e_law UL n xs 0 0 S M))
theorem S_0_fresh (n : Nat) (h : n < NU) : fresh S_0 n := ⟨fun _ _ e => Nat.lt_irrefl _ (Nat.lt_of_lt_of_eq h e), fun _ => rfl, fun _ => rfl, fun _ => rfl⟩
theorem df_M : ∀ j, j < 58 → (fo_kd ly_M_0 j ≤ 1 ∧ defaultValue (y_M j) = .int 0) ∨ (fo_kd ly_M_0 j = 6 ∧ defaultValue (y_M j) = .null) := by decide +kernel
theorem df_M0 (q j : Nat) (hj : j < 58) : defaultValue (y_M j) = fo_v ly_M_0 (q, (fun _ => 0), (fun _ => 0), z_r, z_l) j := by
  unfold fo_v
  rcases df_M j hj with ⟨h1, h2⟩ | ⟨h1, h2⟩
  · rw [if_pos h1, h2]
  · rw [h1, h2]
    rfl
theorem k0_M (t : Nat) : ¬ (2 ≤ fo_kd ly_M_0 t ∧ fo_kd ly_M_0 t ≤ 4) := by
  unfold fo_kd
  rw [List.getD_eq_getElem?_getD]
  cases hx : ly_M_0[t]? with
  | none => simp
  | some x =>
    have h0 : ly_M_0.all (fun x => Nat.ble x.1 1 || Nat.beq x.1 6) = true := by decide +kernel
    have h1 := List.all_eq_true.mp h0 x (List.mem_of_getElem? hx)
    simp only [Option.getD_some]
    rcases (Bool.or_eq_true _ _).mp h1 with h2 | h2
    · have := Nat.le_of_ble_eq_true h2; omega
    · have := Nat.eq_of_beq_eq_true h2; omega
theorem app_L (L : fw) (u : Nat × fl × fo) : (List.range L.length).map (fun i => (L ++ [u])[i]?) = L.map some := by
  rw [← rg_map L]
  refine List.map_congr_left fun i hi => ?_
  rw [List.getElem?_append_left (List.mem_range.mp hi)]
theorem app_u (L : fw) (u : Nat × fl × fo) : [L.length].map (fun i => (L ++ [u])[i]?) = [u].map some := by
  show [(L ++ [u])[L.length]?] = [some u]
  rw [List.getElem?_append_right (Nat.le_refl _), Nat.sub_self]
  rfl
theorem app_2 (L : fw) (a c : Nat × fl × fo) : (L.length :: (List.range L.length ++ [L.length + 1])).map (fun i => ((L ++ [a]) ++ [c])[i]?) = (a :: (L ++ [c])).map some := by
  show ((L ++ [a]) ++ [c])[L.length]? :: (List.range L.length ++ [L.length + 1]).map (fun i => ((L ++ [a]) ++ [c])[i]?) = some a :: (L ++ [c]).map some
  rw [List.map_append, List.map_append]
  congr 1
  · rw [List.append_assoc, List.getElem?_append_right (Nat.le_refl _), Nat.sub_self]
    rfl
  · congr 1
    · rw [← rg_map L]
      refine List.map_congr_left fun i hi => ?_
      rw [List.append_assoc, List.getElem?_append_left (List.mem_range.mp hi)]
    · show [((L ++ [a]) ++ [c])[L.length + 1]?] = [some c]
      rw [List.append_assoc, List.getElem?_append_right (Nat.le_add_right _ _), show L.length + 1 - L.length = 1 by omega]
      rfl
theorem nd_2 (n : Nat) : (n :: (List.range n ++ [n + 1])).Nodup := by
  refine List.nodup_cons.mpr ⟨fun h => ?_, ?_⟩
  · rcases List.mem_append.mp h with h | h
    · exact Nat.lt_irrefl _ (List.mem_range.mp h)
    · exact absurd (List.mem_singleton.mp h) (by omega)
  · refine List.pairwise_append.mpr ⟨List.nodup_range, List.pairwise_singleton _ _, fun a ha b hb e => ?_⟩
    have := List.mem_range.mp ha
    have := List.mem_singleton.mp hb
    omega
theorem cw_prow {lt : Nat → fl} {U : ut} {oa : Nat → Nat} {S : cs} {n q N kd : Nat} (hk : kd < 50) (hn : U.length = n) (hf : fresh S n) : cw lt U oa S ++ [fz kd N q] = cw lt (U ++ [(900 + kd, N)]) (va_up oa n q) S := by
  rw [cw_push (c := (900 + kd, N)) (q := q) hn hf (x := fz kd N q) (by
    have e1 : va_up z_r 0 (S.1 n) = fun _ _ => 0 := by
      funext a b
      unfold va_up
      split
      · exact hf.2.1 b
      · rfl
    have e2 : va_up z_l 0 (S.2.1 n) = fun _ _ => 0 := by
      funext a b
      unfold va_up
      split
      · exact hf.2.2.1 b
      · rfl
    rw [c_u, c_clN hn, c_lnN hn, if_neg (by intro x; have := Nat.le_of_ble_eq_true x; simp only at this; omega), if_neg (by intro x; have := Nat.le_of_ble_eq_true x; simp only at this; omega), up_at, e1, e2]
    show (900, [(900 + kd - 900, N)], _) = _
    rw [show 900 + kd - 900 = kd by omega])]
set_option maxRecDepth 100000 in
set_option maxHeartbeats 1000000 in
theorem s_law_0 {D : va_G} {z : Nat → ClassId} {A : Nat → Prop} {X : cx} {b n : Nat} {xs : Nat → Int32} (C : fcx gG D z A X R_Lw code 7 ret) (hfl : X.2.1.flags = pinnedFlags ++ [noTraceFlag]) (hR : X.2.2.2.1 = room_1) (hX : va_X b n xs X.2.2.2.2.1 X.2.2.2.2.1.heap) (hbl : b < X.2.2.2.2.1.heap.size) (hbA : ¬ A b) (hQ : X.2.2.2.2.2.2.2.2.2.2 = eQ gG D z X.2.2.2.2.2.2.2.1 X.2.2.2.2.1 [] 601023 7293028 (fun o _ => o = .returned (some (.int 1)))) (hA : A = owA gG [] X.2.2.2.2.1.heap.size) (hp : p_law n xs) : aw gG D z A X 7 0 [some (.ref b), none, none, none, none, none, none] [] [] 0 0 := by
  unfold p_law at hp
  refine aw_eq (lo' := _) (st' := []) (L' := cw lt_C [] (fun _ => 0) S_0) rfl rfl rfl ?_
  refine c_new (ci := 1) (n := 0) C y_B g_ty_B dl_0 rfl rfl x_Lw_8 nn_B i_B df_B (by decide) rfl (S_0_fresh 0 (by decide)) (by rw [hR]; exact Nat.le_of_ble_eq_true rfl) (by rw [hR]; exact Nat.le_of_ble_eq_true rfl) (fun q0 => ?_)
  generalize hoa : va_up (fun _ => 0) 0 q0 = oa0
  have hq : oa0 0 = q0 := by rw [← hoa]; exact up_at
  rw [← hq]
  have hcn : c_cl [(1, 0)] 0 = 1 := rfl
  refine a_dup C dl_3 rfl ?_
  refine c_call (rest := [.ref (oa0 0)]) (av := .ref (oa0 0) :: []) C dl_4 (ct_B_init 0 S_0 hcn hp) cd_C_B_init i_B (Nat.le_of_ble_eq_true rfl) (by rw [hR]; exact Nat.le_of_ble_eq_true rfl) (by rw [hR]; exact Nat.le_of_ble_eq_true rfl) (by rw [hR]; exact Nat.le_of_ble_eq_true rfl) (by rw [hR]; exact Nat.le_of_ble_eq_true rfl) (inv_I C dl_4 l_Lw_74 rfl im_C_B_init cd_C_B_init ⟨by decide, by decide⟩ ln_C_B_init rfl) (fun oc L1 hL => ?_)
  obtain ⟨oa1, S1, hp, hb1, rfl, rfl⟩ := hL
  refine ⟨_, rfl, ?_⟩
  have h10 : oa1 0 = oa0 0 := hb1 0 (by decide)
  rw [← h10]
  have hlen : (cw lt_C U1 oa1 S1).length = 115 := by rw [cw_len]; rfl
  refine aw_eq (lo' := _) (st' := [.ref (oa1 0)]) (L' := cw lt_C U1 oa1 S1) rfl rfl rfl ?_
  refine a_astore_n (lo' := [some (.ref b), some (.ref (oa1 0)), none, none, none, none, none]) C dl_7 rfl (by decide) rfl ?_
  refine a_new2 (ci := 0) C ly_M_0 (fun _ _ => 0) (fun _ => 0) y_M g_ty dl_8 rfl rfl x_Lw_75 nn_M i_M df_M0 k0_M (by rw [hR]; exact Nat.le_of_ble_eq_true rfl) (by rw [hR]; exact Nat.le_of_ble_eq_true rfl) (fun o => ?_)
  refine a_dup C dl_11 rfl ?_
  refine a_call (Lr := cw lt_C U1 oa1 S1) (rest := [.ref o]) (av := .ref o :: []) C [(cw lt_C U1 oa1 S1).length] (List.range (cw lt_C U1 oa1 S1).length) dl_12 (ct_init hp.2) cd_M_init i_M (Nat.le_of_ble_eq_true rfl) (by rw [hR]; exact Nat.le_of_ble_eq_true rfl) (by rw [hR]; exact Nat.le_of_ble_eq_true rfl) (by rw [hR]; exact Nat.le_of_ble_eq_true rfl) (by rw [hR]; exact Nat.le_of_ble_eq_true rfl) (app_u _ _) (app_L _ _) (List.pairwise_singleton _ _) List.nodup_range (fun i h h' => Nat.lt_irrefl _ (Nat.lt_of_lt_of_eq (List.mem_range.mp h) (List.mem_singleton.mp h').symm)) (inv_I C dl_12 l_Lw_77 rfl im_M_init cd_M_init ⟨by decide, by decide⟩ ln_M_init rfl) (fun oc L1 hL => ?_)
  obtain ⟨ad, M, hpM, rfl, rfl⟩ := hL
  refine ⟨_, rfl, ?_⟩
  refine aw_eq (lo' := _) (st' := [.ref o]) (L' := cw lt_C U1 oa1 S1 ++ [mu o ad M]) rfl rfl rfl ?_
  refine a_astore_n (lo' := [some (.ref b), some (.ref (oa1 0)), some (.ref o), none, none, none, none]) C dl_15 rfl (by decide) rfl ?_
  refine a_iconst (v := 1) C dl_16 (by decide) ?_
  refine a_newa (ty := .long) (N := 1) C 4 dl_17 ac_long rfl (C.kn.2 2 _ rfl).2 (fun _ => rfl) (by decide) (by decide) (by decide) (by rw [hR]; exact Nat.le_of_ble_eq_true rfl) (by rw [hR]; exact Nat.le_of_ble_eq_true rfl) (fun qa => ?_)
  refine aw_pick _ (app_2 _ _ _) (nd_2 _) ?_
  rw [cw_prow (n := 115) (by decide) rfl hp.1]
  generalize hoa2 : va_up oa1 115 qa = oa2
  have hq2 : oa2 115 = qa := by rw [← hoa2]; exact up_at
  have h20 : oa2 0 = oa1 0 := by rw [← hoa2]; exact up_ne (by decide)
  rw [← hq2, ← h20]
  refine a_astore_n (lo' := [some (.ref b), some (.ref (oa2 0)), some (.ref o), some (.ref (oa2 115)), none, none, none]) C dl_19 rfl (by decide) rfl ?_
  refine a_iconst (v := 0) C dl_20 (by decide) ?_
  refine a_istore (lo' := [some (.ref b), some (.ref (oa2 0)), some (.ref o), some (.ref (oa2 115)), some (.int 0), none, none]) C dl_21 (by decide) rfl ?_
  exact se_law_23 C hfl hR hX hbl hbA hQ hA (U := UL) (by decide) 0 0 S1 M (by decide) hpM
