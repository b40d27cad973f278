theorem dl_0 : decode code 0 = .ok (.new 8, 3) := by decide +kernel
theorem dl_3 : decode code 3 = .ok (.dup, 1) := by decide +kernel
theorem dl_4 : decode code 4 = .ok (.invokespecial 74, 3) := by decide +kernel
theorem dl_7 : decode code 7 = .ok (.astore_n 1, 1) := by decide +kernel
theorem dl_8 : decode code 8 = .ok (.new 75, 3) := by decide +kernel
theorem dl_11 : decode code 11 = .ok (.dup, 1) := by decide +kernel
theorem dl_12 : decode code 12 = .ok (.invokespecial 77, 3) := by decide +kernel
theorem dl_15 : decode code 15 = .ok (.astore_n 2, 1) := by decide +kernel
theorem dl_16 : decode code 16 = .ok (.iconst 1, 1) := by decide +kernel
theorem dl_17 : decode code 17 = .ok (.newarray .long, 2) := by decide +kernel
theorem dl_19 : decode code 19 = .ok (.astore_n 3, 1) := by decide +kernel
theorem dl_20 : decode code 20 = .ok (.iconst 0, 1) := by decide +kernel
theorem dl_21 : decode code 21 = .ok (.istore 4, 2) := by decide +kernel
theorem dl_23 : decode code 23 = .ok (.iload 4, 2) := by decide +kernel
theorem dl_25 : decode code 25 = .ok (.aload_n 0, 1) := by decide +kernel
theorem dl_26 : decode code 26 = .ok (.arraylength, 1) := by decide +kernel
theorem dl_27 : decode code 27 = .ok (.bipush 7, 2) := by decide +kernel
theorem dl_29 : decode code 29 = .ok (.isub, 1) := by decide +kernel
theorem dl_30 : decode code 30 = .ok (.if_icmp .gt 1241, 3) := by decide +kernel
theorem dl_33 : decode code 33 = .ok (.aload_n 0, 1) := by decide +kernel
theorem dl_34 : decode code 34 = .ok (.iload 4, 2) := by decide +kernel
theorem dl_36 : decode code 36 = .ok (.iaload, 1) := by decide +kernel
theorem dl_37 : decode code 37 = .ok (.bipush 31, 2) := by decide +kernel
theorem dl_39 : decode code 39 = .ok (.iand, 1) := by decide +kernel
theorem dl_40 : decode code 40 = .ok (.tableswitch 1225 0 18 #[92, 152, 236, 334, 414, 474, 546, 626, 639, 695, 799, 835, 903, 947, 960, 973, 1029, 1109, 1201], 92) := by decide +kernel
theorem dl_132 : decode code 132 = .ok (.aload_n 1, 1) := by decide +kernel
theorem dl_133 : decode code 133 = .ok (.aload_n 0, 1) := by decide +kernel
theorem dl_134 : decode code 134 = .ok (.iload 4, 2) := by decide +kernel
theorem dl_136 : decode code 136 = .ok (.iconst 1, 1) := by decide +kernel
theorem dl_137 : decode code 137 = .ok (.iadd, 1) := by decide +kernel
theorem dl_138 : decode code 138 = .ok (.iaload, 1) := by decide +kernel
theorem dl_139 : decode code 139 = .ok (.aload_n 0, 1) := by decide +kernel
theorem dl_140 : decode code 140 = .ok (.iload 4, 2) := by decide +kernel
theorem dl_142 : decode code 142 = .ok (.iconst 2, 1) := by decide +kernel
theorem dl_143 : decode code 143 = .ok (.iadd, 1) := by decide +kernel
theorem dl_144 : decode code 144 = .ok (.iaload, 1) := by decide +kernel
theorem dl_145 : decode code 145 = .ok (.aload_n 0, 1) := by decide +kernel
theorem dl_146 : decode code 146 = .ok (.iload 4, 2) := by decide +kernel
theorem dl_148 : decode code 148 = .ok (.iconst 3, 1) := by decide +kernel
theorem dl_149 : decode code 149 = .ok (.iadd, 1) := by decide +kernel
theorem dl_150 : decode code 150 = .ok (.iaload, 1) := by decide +kernel
theorem dl_151 : decode code 151 = .ok (.invokestatic 78, 3) := by decide +kernel
theorem dl_154 : decode code 154 = .ok (.istore 5, 2) := by decide +kernel
theorem dl_156 : decode code 156 = .ok (.aload_n 2, 1) := by decide +kernel
theorem dl_157 : decode code 157 = .ok (.aload_n 0, 1) := by decide +kernel
theorem dl_158 : decode code 158 = .ok (.iload 4, 2) := by decide +kernel
theorem dl_160 : decode code 160 = .ok (.iconst 1, 1) := by decide +kernel
theorem dl_161 : decode code 161 = .ok (.iadd, 1) := by decide +kernel
theorem dl_162 : decode code 162 = .ok (.iaload, 1) := by decide +kernel
theorem dl_163 : decode code 163 = .ok (.aload_n 0, 1) := by decide +kernel
theorem dl_164 : decode code 164 = .ok (.iload 4, 2) := by decide +kernel
theorem dl_166 : decode code 166 = .ok (.iconst 2, 1) := by decide +kernel
theorem dl_167 : decode code 167 = .ok (.iadd, 1) := by decide +kernel
theorem dl_168 : decode code 168 = .ok (.iaload, 1) := by decide +kernel
theorem dl_169 : decode code 169 = .ok (.aload_n 0, 1) := by decide +kernel
theorem dl_170 : decode code 170 = .ok (.iload 4, 2) := by decide +kernel
theorem dl_172 : decode code 172 = .ok (.iconst 3, 1) := by decide +kernel
theorem dl_173 : decode code 173 = .ok (.iadd, 1) := by decide +kernel
theorem dl_174 : decode code 174 = .ok (.iaload, 1) := by decide +kernel
theorem dl_175 : decode code 175 = .ok (.invokevirtual 83, 3) := by decide +kernel
theorem dl_178 : decode code 178 = .ok (.aload_n 2, 1) := by decide +kernel
theorem dl_179 : decode code 179 = .ok (.invokevirtual 84, 3) := by decide +kernel
theorem dl_182 : decode code 182 = .ok (.iload 5, 2) := by decide +kernel
theorem dl_184 : decode code 184 = .ok (.if_icmp .eq 5, 3) := by decide +kernel
theorem dl_187 : decode code 187 = .ok (.iconst 0, 1) := by decide +kernel
theorem dl_188 : decode code 188 = .ok (.ireturn, 1) := by decide +kernel
theorem dl_189 : decode code 189 = .ok (.goto 1076, 3) := by decide +kernel
theorem dl_192 : decode code 192 = .ok (.aload_n 1, 1) := by decide +kernel
theorem dl_193 : decode code 193 = .ok (.aload_n 0, 1) := by decide +kernel
theorem dl_194 : decode code 194 = .ok (.iload 4, 2) := by decide +kernel
theorem dl_196 : decode code 196 = .ok (.iconst 1, 1) := by decide +kernel
theorem dl_197 : decode code 197 = .ok (.iadd, 1) := by decide +kernel
theorem dl_198 : decode code 198 = .ok (.iaload, 1) := by decide +kernel
theorem dl_199 : decode code 199 = .ok (.aload_n 0, 1) := by decide +kernel
theorem dl_200 : decode code 200 = .ok (.iload 4, 2) := by decide +kernel
theorem dl_202 : decode code 202 = .ok (.iconst 2, 1) := by decide +kernel
theorem dl_203 : decode code 203 = .ok (.iadd, 1) := by decide +kernel
theorem dl_204 : decode code 204 = .ok (.iaload, 1) := by decide +kernel
theorem dl_205 : decode code 205 = .ok (.aload_n 0, 1) := by decide +kernel
theorem dl_206 : decode code 206 = .ok (.iload 4, 2) := by decide +kernel
theorem dl_208 : decode code 208 = .ok (.iconst 3, 1) := by decide +kernel
theorem dl_209 : decode code 209 = .ok (.iadd, 1) := by decide +kernel
theorem dl_210 : decode code 210 = .ok (.iaload, 1) := by decide +kernel
theorem dl_211 : decode code 211 = .ok (.aload_n 0, 1) := by decide +kernel
theorem dl_212 : decode code 212 = .ok (.iload 4, 2) := by decide +kernel
theorem dl_214 : decode code 214 = .ok (.iconst 4, 1) := by decide +kernel
theorem dl_215 : decode code 215 = .ok (.iadd, 1) := by decide +kernel
theorem dl_216 : decode code 216 = .ok (.iaload, 1) := by decide +kernel
theorem dl_217 : decode code 217 = .ok (.aload_n 0, 1) := by decide +kernel
theorem dl_218 : decode code 218 = .ok (.iload 4, 2) := by decide +kernel
theorem dl_220 : decode code 220 = .ok (.iconst 5, 1) := by decide +kernel
theorem dl_221 : decode code 221 = .ok (.iadd, 1) := by decide +kernel
theorem dl_222 : decode code 222 = .ok (.iaload, 1) := by decide +kernel
theorem dl_223 : decode code 223 = .ok (.invokestatic 87, 3) := by decide +kernel
theorem dl_226 : decode code 226 = .ok (.istore 5, 2) := by decide +kernel
theorem dl_228 : decode code 228 = .ok (.aload_n 2, 1) := by decide +kernel
theorem dl_229 : decode code 229 = .ok (.aload_n 0, 1) := by decide +kernel
theorem dl_230 : decode code 230 = .ok (.iload 4, 2) := by decide +kernel
theorem dl_232 : decode code 232 = .ok (.iconst 1, 1) := by decide +kernel
theorem dl_233 : decode code 233 = .ok (.iadd, 1) := by decide +kernel
theorem dl_234 : decode code 234 = .ok (.iaload, 1) := by decide +kernel
theorem dl_235 : decode code 235 = .ok (.aload_n 0, 1) := by decide +kernel
theorem dl_236 : decode code 236 = .ok (.iload 4, 2) := by decide +kernel
theorem dl_238 : decode code 238 = .ok (.iconst 2, 1) := by decide +kernel
theorem dl_239 : decode code 239 = .ok (.iadd, 1) := by decide +kernel
theorem dl_240 : decode code 240 = .ok (.iaload, 1) := by decide +kernel
theorem dl_241 : decode code 241 = .ok (.aload_n 0, 1) := by decide +kernel
theorem dl_242 : decode code 242 = .ok (.iload 4, 2) := by decide +kernel
theorem dl_244 : decode code 244 = .ok (.iconst 3, 1) := by decide +kernel
theorem dl_245 : decode code 245 = .ok (.iadd, 1) := by decide +kernel
theorem dl_246 : decode code 246 = .ok (.iaload, 1) := by decide +kernel
theorem dl_247 : decode code 247 = .ok (.aload_n 0, 1) := by decide +kernel
theorem dl_248 : decode code 248 = .ok (.iload 4, 2) := by decide +kernel
theorem dl_250 : decode code 250 = .ok (.iconst 4, 1) := by decide +kernel
theorem dl_251 : decode code 251 = .ok (.iadd, 1) := by decide +kernel
theorem dl_252 : decode code 252 = .ok (.iaload, 1) := by decide +kernel
theorem dl_253 : decode code 253 = .ok (.aload_n 0, 1) := by decide +kernel
theorem dl_254 : decode code 254 = .ok (.iload 4, 2) := by decide +kernel
theorem dl_256 : decode code 256 = .ok (.iconst 5, 1) := by decide +kernel
theorem dl_257 : decode code 257 = .ok (.iadd, 1) := by decide +kernel
theorem dl_258 : decode code 258 = .ok (.iaload, 1) := by decide +kernel
theorem dl_259 : decode code 259 = .ok (.invokevirtual 90, 3) := by decide +kernel
theorem dl_262 : decode code 262 = .ok (.aload_n 2, 1) := by decide +kernel
theorem dl_263 : decode code 263 = .ok (.invokevirtual 84, 3) := by decide +kernel
theorem dl_266 : decode code 266 = .ok (.iload 5, 2) := by decide +kernel
theorem dl_268 : decode code 268 = .ok (.if_icmp .eq 5, 3) := by decide +kernel
theorem dl_271 : decode code 271 = .ok (.iconst 0, 1) := by decide +kernel
theorem dl_272 : decode code 272 = .ok (.ireturn, 1) := by decide +kernel
theorem dl_273 : decode code 273 = .ok (.goto 992, 3) := by decide +kernel
theorem dl_276 : decode code 276 = .ok (.aload_n 1, 1) := by decide +kernel
theorem dl_277 : decode code 277 = .ok (.aload_n 0, 1) := by decide +kernel
theorem dl_278 : decode code 278 = .ok (.iload 4, 2) := by decide +kernel
theorem dl_280 : decode code 280 = .ok (.iconst 1, 1) := by decide +kernel
theorem dl_281 : decode code 281 = .ok (.iadd, 1) := by decide +kernel
theorem dl_282 : decode code 282 = .ok (.iaload, 1) := by decide +kernel
theorem dl_283 : decode code 283 = .ok (.aload_n 0, 1) := by decide +kernel
theorem dl_284 : decode code 284 = .ok (.iload 4, 2) := by decide +kernel
theorem dl_286 : decode code 286 = .ok (.iconst 2, 1) := by decide +kernel
theorem dl_287 : decode code 287 = .ok (.iadd, 1) := by decide +kernel
theorem dl_288 : decode code 288 = .ok (.iaload, 1) := by decide +kernel
theorem dl_289 : decode code 289 = .ok (.aload_n 0, 1) := by decide +kernel
theorem dl_290 : decode code 290 = .ok (.iload 4, 2) := by decide +kernel
theorem dl_292 : decode code 292 = .ok (.iconst 3, 1) := by decide +kernel
theorem dl_293 : decode code 293 = .ok (.iadd, 1) := by decide +kernel
theorem dl_294 : decode code 294 = .ok (.iaload, 1) := by decide +kernel
theorem dl_295 : decode code 295 = .ok (.aload_n 0, 1) := by decide +kernel
theorem dl_296 : decode code 296 = .ok (.iload 4, 2) := by decide +kernel
theorem dl_298 : decode code 298 = .ok (.iconst 4, 1) := by decide +kernel
theorem dl_299 : decode code 299 = .ok (.iadd, 1) := by decide +kernel
theorem dl_300 : decode code 300 = .ok (.iaload, 1) := by decide +kernel
theorem dl_301 : decode code 301 = .ok (.aload_n 0, 1) := by decide +kernel
theorem dl_302 : decode code 302 = .ok (.iload 4, 2) := by decide +kernel
theorem dl_304 : decode code 304 = .ok (.iconst 5, 1) := by decide +kernel
theorem dl_305 : decode code 305 = .ok (.iadd, 1) := by decide +kernel
theorem dl_306 : decode code 306 = .ok (.iaload, 1) := by decide +kernel
theorem dl_307 : decode code 307 = .ok (.aload_n 0, 1) := by decide +kernel
theorem dl_308 : decode code 308 = .ok (.iload 4, 2) := by decide +kernel
theorem dl_310 : decode code 310 = .ok (.bipush 6, 2) := by decide +kernel
theorem dl_312 : decode code 312 = .ok (.iadd, 1) := by decide +kernel
theorem dl_313 : decode code 313 = .ok (.iaload, 1) := by decide +kernel
theorem dl_314 : decode code 314 = .ok (.invokestatic 91, 3) := by decide +kernel
theorem dl_317 : decode code 317 = .ok (.istore 5, 2) := by decide +kernel
theorem dl_319 : decode code 319 = .ok (.aload_n 2, 1) := by decide +kernel
theorem dl_320 : decode code 320 = .ok (.aload_n 0, 1) := by decide +kernel
theorem dl_321 : decode code 321 = .ok (.iload 4, 2) := by decide +kernel
theorem dl_323 : decode code 323 = .ok (.iconst 1, 1) := by decide +kernel
theorem dl_324 : decode code 324 = .ok (.iadd, 1) := by decide +kernel
theorem dl_325 : decode code 325 = .ok (.iaload, 1) := by decide +kernel
theorem dl_326 : decode code 326 = .ok (.aload_n 0, 1) := by decide +kernel
theorem dl_327 : decode code 327 = .ok (.iload 4, 2) := by decide +kernel
theorem dl_329 : decode code 329 = .ok (.iconst 2, 1) := by decide +kernel
theorem dl_330 : decode code 330 = .ok (.iadd, 1) := by decide +kernel
theorem dl_331 : decode code 331 = .ok (.iaload, 1) := by decide +kernel
theorem dl_332 : decode code 332 = .ok (.aload_n 0, 1) := by decide +kernel
theorem dl_333 : decode code 333 = .ok (.iload 4, 2) := by decide +kernel
theorem dl_335 : decode code 335 = .ok (.iconst 3, 1) := by decide +kernel
theorem dl_336 : decode code 336 = .ok (.iadd, 1) := by decide +kernel
theorem dl_337 : decode code 337 = .ok (.iaload, 1) := by decide +kernel
theorem dl_338 : decode code 338 = .ok (.aload_n 0, 1) := by decide +kernel
theorem dl_339 : decode code 339 = .ok (.iload 4, 2) := by decide +kernel
theorem dl_341 : decode code 341 = .ok (.iconst 4, 1) := by decide +kernel
theorem dl_342 : decode code 342 = .ok (.iadd, 1) := by decide +kernel
theorem dl_343 : decode code 343 = .ok (.iaload, 1) := by decide +kernel
theorem dl_344 : decode code 344 = .ok (.aload_n 0, 1) := by decide +kernel
theorem dl_345 : decode code 345 = .ok (.iload 4, 2) := by decide +kernel
theorem dl_347 : decode code 347 = .ok (.iconst 5, 1) := by decide +kernel
theorem dl_348 : decode code 348 = .ok (.iadd, 1) := by decide +kernel
theorem dl_349 : decode code 349 = .ok (.iaload, 1) := by decide +kernel
theorem dl_350 : decode code 350 = .ok (.aload_n 0, 1) := by decide +kernel
theorem dl_351 : decode code 351 = .ok (.iload 4, 2) := by decide +kernel
theorem dl_353 : decode code 353 = .ok (.bipush 6, 2) := by decide +kernel
theorem dl_355 : decode code 355 = .ok (.iadd, 1) := by decide +kernel
theorem dl_356 : decode code 356 = .ok (.iaload, 1) := by decide +kernel
theorem dl_357 : decode code 357 = .ok (.invokevirtual 94, 3) := by decide +kernel
theorem dl_360 : decode code 360 = .ok (.aload_n 2, 1) := by decide +kernel
theorem dl_361 : decode code 361 = .ok (.invokevirtual 84, 3) := by decide +kernel
theorem dl_364 : decode code 364 = .ok (.iload 5, 2) := by decide +kernel
theorem dl_366 : decode code 366 = .ok (.if_icmp .eq 5, 3) := by decide +kernel
theorem dl_369 : decode code 369 = .ok (.iconst 0, 1) := by decide +kernel
theorem dl_370 : decode code 370 = .ok (.ireturn, 1) := by decide +kernel
theorem dl_371 : decode code 371 = .ok (.goto 894, 3) := by decide +kernel
theorem dl_374 : decode code 374 = .ok (.aload_n 1, 1) := by decide +kernel
theorem dl_375 : decode code 375 = .ok (.aload_n 0, 1) := by decide +kernel
theorem dl_376 : decode code 376 = .ok (.iload 4, 2) := by decide +kernel
theorem dl_378 : decode code 378 = .ok (.iconst 1, 1) := by decide +kernel
theorem dl_379 : decode code 379 = .ok (.iadd, 1) := by decide +kernel
theorem dl_380 : decode code 380 = .ok (.iaload, 1) := by decide +kernel
theorem dl_381 : decode code 381 = .ok (.aload_n 0, 1) := by decide +kernel
theorem dl_382 : decode code 382 = .ok (.iload 4, 2) := by decide +kernel
theorem dl_384 : decode code 384 = .ok (.iconst 2, 1) := by decide +kernel
theorem dl_385 : decode code 385 = .ok (.iadd, 1) := by decide +kernel
theorem dl_386 : decode code 386 = .ok (.iaload, 1) := by decide +kernel
theorem dl_387 : decode code 387 = .ok (.aload_n 0, 1) := by decide +kernel
theorem dl_388 : decode code 388 = .ok (.iload 4, 2) := by decide +kernel
theorem dl_390 : decode code 390 = .ok (.iconst 3, 1) := by decide +kernel
theorem dl_391 : decode code 391 = .ok (.iadd, 1) := by decide +kernel
theorem dl_392 : decode code 392 = .ok (.iaload, 1) := by decide +kernel
theorem dl_393 : decode code 393 = .ok (.aload_n 3, 1) := by decide +kernel
theorem dl_394 : decode code 394 = .ok (.invokestatic 95, 3) := by decide +kernel
theorem dl_397 : decode code 397 = .ok (.istore 5, 2) := by decide +kernel
theorem dl_399 : decode code 399 = .ok (.aload_n 2, 1) := by decide +kernel
theorem dl_400 : decode code 400 = .ok (.aload_n 0, 1) := by decide +kernel
theorem dl_401 : decode code 401 = .ok (.iload 4, 2) := by decide +kernel
theorem dl_403 : decode code 403 = .ok (.iconst 1, 1) := by decide +kernel
theorem dl_404 : decode code 404 = .ok (.iadd, 1) := by decide +kernel
theorem dl_405 : decode code 405 = .ok (.iaload, 1) := by decide +kernel
theorem dl_406 : decode code 406 = .ok (.aload_n 0, 1) := by decide +kernel
theorem dl_407 : decode code 407 = .ok (.iload 4, 2) := by decide +kernel
theorem dl_409 : decode code 409 = .ok (.iconst 2, 1) := by decide +kernel
theorem dl_410 : decode code 410 = .ok (.iadd, 1) := by decide +kernel
theorem dl_411 : decode code 411 = .ok (.iaload, 1) := by decide +kernel
theorem dl_412 : decode code 412 = .ok (.aload_n 0, 1) := by decide +kernel
theorem dl_413 : decode code 413 = .ok (.iload 4, 2) := by decide +kernel
theorem dl_415 : decode code 415 = .ok (.iconst 3, 1) := by decide +kernel
theorem dl_416 : decode code 416 = .ok (.iadd, 1) := by decide +kernel
theorem dl_417 : decode code 417 = .ok (.iaload, 1) := by decide +kernel
theorem dl_418 : decode code 418 = .ok (.invokevirtual 98, 3) := by decide +kernel
theorem dl_421 : decode code 421 = .ok (.istore 6, 2) := by decide +kernel
theorem dl_423 : decode code 423 = .ok (.aload_n 2, 1) := by decide +kernel
theorem dl_424 : decode code 424 = .ok (.invokevirtual 84, 3) := by decide +kernel
theorem dl_427 : decode code 427 = .ok (.iload 5, 2) := by decide +kernel
theorem dl_429 : decode code 429 = .ok (.if_icmp .eq 5, 3) := by decide +kernel
theorem dl_432 : decode code 432 = .ok (.iconst 0, 1) := by decide +kernel
theorem dl_433 : decode code 433 = .ok (.ireturn, 1) := by decide +kernel
theorem dl_434 : decode code 434 = .ok (.iload 5, 2) := by decide +kernel
theorem dl_436 : decode code 436 = .ok (.ifCond .ne 15, 3) := by decide +kernel
theorem dl_439 : decode code 439 = .ok (.aload_n 3, 1) := by decide +kernel
theorem dl_440 : decode code 440 = .ok (.iconst 0, 1) := by decide +kernel
theorem dl_441 : decode code 441 = .ok (.laload, 1) := by decide +kernel
theorem dl_442 : decode code 442 = .ok (.iload 6, 2) := by decide +kernel
theorem dl_444 : decode code 444 = .ok (.i2l, 1) := by decide +kernel
theorem dl_445 : decode code 445 = .ok (.lcmp, 1) := by decide +kernel
theorem dl_446 : decode code 446 = .ok (.ifCond .eq 5, 3) := by decide +kernel
theorem dl_449 : decode code 449 = .ok (.iconst 0, 1) := by decide +kernel
theorem dl_450 : decode code 450 = .ok (.ireturn, 1) := by decide +kernel
theorem dl_451 : decode code 451 = .ok (.goto 814, 3) := by decide +kernel
theorem dl_454 : decode code 454 = .ok (.aload_n 1, 1) := by decide +kernel
theorem dl_455 : decode code 455 = .ok (.aload_n 0, 1) := by decide +kernel
theorem dl_456 : decode code 456 = .ok (.iload 4, 2) := by decide +kernel
theorem dl_458 : decode code 458 = .ok (.iconst 1, 1) := by decide +kernel
theorem dl_459 : decode code 459 = .ok (.iadd, 1) := by decide +kernel
theorem dl_460 : decode code 460 = .ok (.iaload, 1) := by decide +kernel
theorem dl_461 : decode code 461 = .ok (.aload_n 0, 1) := by decide +kernel
theorem dl_462 : decode code 462 = .ok (.iload 4, 2) := by decide +kernel
theorem dl_464 : decode code 464 = .ok (.iconst 2, 1) := by decide +kernel
theorem dl_465 : decode code 465 = .ok (.iadd, 1) := by decide +kernel
theorem dl_466 : decode code 466 = .ok (.iaload, 1) := by decide +kernel
theorem dl_467 : decode code 467 = .ok (.aload_n 0, 1) := by decide +kernel
theorem dl_468 : decode code 468 = .ok (.iload 4, 2) := by decide +kernel
theorem dl_470 : decode code 470 = .ok (.iconst 3, 1) := by decide +kernel
theorem dl_471 : decode code 471 = .ok (.iadd, 1) := by decide +kernel
theorem dl_472 : decode code 472 = .ok (.iaload, 1) := by decide +kernel
theorem dl_473 : decode code 473 = .ok (.invokestatic 99, 3) := by decide +kernel
theorem dl_476 : decode code 476 = .ok (.istore 5, 2) := by decide +kernel
theorem dl_478 : decode code 478 = .ok (.aload_n 2, 1) := by decide +kernel
theorem dl_479 : decode code 479 = .ok (.aload_n 0, 1) := by decide +kernel
theorem dl_480 : decode code 480 = .ok (.iload 4, 2) := by decide +kernel
theorem dl_482 : decode code 482 = .ok (.iconst 1, 1) := by decide +kernel
theorem dl_483 : decode code 483 = .ok (.iadd, 1) := by decide +kernel
theorem dl_484 : decode code 484 = .ok (.iaload, 1) := by decide +kernel
theorem dl_485 : decode code 485 = .ok (.aload_n 0, 1) := by decide +kernel
theorem dl_486 : decode code 486 = .ok (.iload 4, 2) := by decide +kernel
theorem dl_488 : decode code 488 = .ok (.iconst 2, 1) := by decide +kernel
theorem dl_489 : decode code 489 = .ok (.iadd, 1) := by decide +kernel
theorem dl_490 : decode code 490 = .ok (.iaload, 1) := by decide +kernel
theorem dl_491 : decode code 491 = .ok (.aload_n 0, 1) := by decide +kernel
theorem dl_492 : decode code 492 = .ok (.iload 4, 2) := by decide +kernel
theorem dl_494 : decode code 494 = .ok (.iconst 3, 1) := by decide +kernel
theorem dl_495 : decode code 495 = .ok (.iadd, 1) := by decide +kernel
theorem dl_496 : decode code 496 = .ok (.iaload, 1) := by decide +kernel
theorem dl_497 : decode code 497 = .ok (.invokevirtual 101, 3) := by decide +kernel
theorem dl_500 : decode code 500 = .ok (.aload_n 2, 1) := by decide +kernel
theorem dl_501 : decode code 501 = .ok (.invokevirtual 84, 3) := by decide +kernel
theorem dl_504 : decode code 504 = .ok (.iload 5, 2) := by decide +kernel
theorem dl_506 : decode code 506 = .ok (.if_icmp .eq 5, 3) := by decide +kernel
theorem dl_509 : decode code 509 = .ok (.iconst 0, 1) := by decide +kernel
theorem dl_510 : decode code 510 = .ok (.ireturn, 1) := by decide +kernel
theorem dl_511 : decode code 511 = .ok (.goto 754, 3) := by decide +kernel
theorem dl_514 : decode code 514 = .ok (.aload_n 1, 1) := by decide +kernel
theorem dl_515 : decode code 515 = .ok (.aload_n 0, 1) := by decide +kernel
theorem dl_516 : decode code 516 = .ok (.iload 4, 2) := by decide +kernel
theorem dl_518 : decode code 518 = .ok (.iconst 1, 1) := by decide +kernel
theorem dl_519 : decode code 519 = .ok (.iadd, 1) := by decide +kernel
theorem dl_520 : decode code 520 = .ok (.iaload, 1) := by decide +kernel
theorem dl_521 : decode code 521 = .ok (.aload_n 0, 1) := by decide +kernel
theorem dl_522 : decode code 522 = .ok (.iload 4, 2) := by decide +kernel
theorem dl_524 : decode code 524 = .ok (.iconst 2, 1) := by decide +kernel
theorem dl_525 : decode code 525 = .ok (.iadd, 1) := by decide +kernel
theorem dl_526 : decode code 526 = .ok (.iaload, 1) := by decide +kernel
theorem dl_527 : decode code 527 = .ok (.aload_n 0, 1) := by decide +kernel
theorem dl_528 : decode code 528 = .ok (.iload 4, 2) := by decide +kernel
theorem dl_530 : decode code 530 = .ok (.iconst 3, 1) := by decide +kernel
theorem dl_531 : decode code 531 = .ok (.iadd, 1) := by decide +kernel
theorem dl_532 : decode code 532 = .ok (.iaload, 1) := by decide +kernel
theorem dl_533 : decode code 533 = .ok (.aload_n 0, 1) := by decide +kernel
theorem dl_534 : decode code 534 = .ok (.iload 4, 2) := by decide +kernel
theorem dl_536 : decode code 536 = .ok (.iconst 4, 1) := by decide +kernel
theorem dl_537 : decode code 537 = .ok (.iadd, 1) := by decide +kernel
theorem dl_538 : decode code 538 = .ok (.iaload, 1) := by decide +kernel
theorem dl_539 : decode code 539 = .ok (.invokestatic 102, 3) := by decide +kernel
theorem dl_542 : decode code 542 = .ok (.istore 5, 2) := by decide +kernel
theorem dl_544 : decode code 544 = .ok (.aload_n 2, 1) := by decide +kernel
theorem dl_545 : decode code 545 = .ok (.aload_n 0, 1) := by decide +kernel
theorem dl_546 : decode code 546 = .ok (.iload 4, 2) := by decide +kernel
theorem dl_548 : decode code 548 = .ok (.iconst 1, 1) := by decide +kernel
theorem dl_549 : decode code 549 = .ok (.iadd, 1) := by decide +kernel
theorem dl_550 : decode code 550 = .ok (.iaload, 1) := by decide +kernel
theorem dl_551 : decode code 551 = .ok (.aload_n 0, 1) := by decide +kernel
theorem dl_552 : decode code 552 = .ok (.iload 4, 2) := by decide +kernel
theorem dl_554 : decode code 554 = .ok (.iconst 2, 1) := by decide +kernel
theorem dl_555 : decode code 555 = .ok (.iadd, 1) := by decide +kernel
theorem dl_556 : decode code 556 = .ok (.iaload, 1) := by decide +kernel
theorem dl_557 : decode code 557 = .ok (.aload_n 0, 1) := by decide +kernel
theorem dl_558 : decode code 558 = .ok (.iload 4, 2) := by decide +kernel
theorem dl_560 : decode code 560 = .ok (.iconst 3, 1) := by decide +kernel
theorem dl_561 : decode code 561 = .ok (.iadd, 1) := by decide +kernel
theorem dl_562 : decode code 562 = .ok (.iaload, 1) := by decide +kernel
theorem dl_563 : decode code 563 = .ok (.aload_n 0, 1) := by decide +kernel
theorem dl_564 : decode code 564 = .ok (.iload 4, 2) := by decide +kernel
theorem dl_566 : decode code 566 = .ok (.iconst 4, 1) := by decide +kernel
theorem dl_567 : decode code 567 = .ok (.iadd, 1) := by decide +kernel
theorem dl_568 : decode code 568 = .ok (.iaload, 1) := by decide +kernel
theorem dl_569 : decode code 569 = .ok (.invokevirtual 105, 3) := by decide +kernel
theorem dl_572 : decode code 572 = .ok (.aload_n 2, 1) := by decide +kernel
theorem dl_573 : decode code 573 = .ok (.invokevirtual 84, 3) := by decide +kernel
theorem dl_576 : decode code 576 = .ok (.iload 5, 2) := by decide +kernel
theorem dl_578 : decode code 578 = .ok (.if_icmp .eq 5, 3) := by decide +kernel
theorem dl_581 : decode code 581 = .ok (.iconst 0, 1) := by decide +kernel
theorem dl_582 : decode code 582 = .ok (.ireturn, 1) := by decide +kernel
theorem dl_583 : decode code 583 = .ok (.goto 682, 3) := by decide +kernel
theorem dl_586 : decode code 586 = .ok (.aload_n 1, 1) := by decide +kernel
theorem dl_587 : decode code 587 = .ok (.aload_n 0, 1) := by decide +kernel
theorem dl_588 : decode code 588 = .ok (.iload 4, 2) := by decide +kernel
theorem dl_590 : decode code 590 = .ok (.iconst 1, 1) := by decide +kernel
theorem dl_591 : decode code 591 = .ok (.iadd, 1) := by decide +kernel
theorem dl_592 : decode code 592 = .ok (.iaload, 1) := by decide +kernel
theorem dl_593 : decode code 593 = .ok (.aload_n 0, 1) := by decide +kernel
theorem dl_594 : decode code 594 = .ok (.iload 4, 2) := by decide +kernel
theorem dl_596 : decode code 596 = .ok (.iconst 2, 1) := by decide +kernel
theorem dl_597 : decode code 597 = .ok (.iadd, 1) := by decide +kernel
theorem dl_598 : decode code 598 = .ok (.iaload, 1) := by decide +kernel
theorem dl_599 : decode code 599 = .ok (.aload_n 0, 1) := by decide +kernel
theorem dl_600 : decode code 600 = .ok (.iload 4, 2) := by decide +kernel
theorem dl_602 : decode code 602 = .ok (.iconst 3, 1) := by decide +kernel
theorem dl_603 : decode code 603 = .ok (.iadd, 1) := by decide +kernel
theorem dl_604 : decode code 604 = .ok (.iaload, 1) := by decide +kernel
theorem dl_605 : decode code 605 = .ok (.aload_n 3, 1) := by decide +kernel
theorem dl_606 : decode code 606 = .ok (.invokestatic 106, 3) := by decide +kernel
theorem dl_609 : decode code 609 = .ok (.istore 5, 2) := by decide +kernel
theorem dl_611 : decode code 611 = .ok (.aload_n 2, 1) := by decide +kernel
theorem dl_612 : decode code 612 = .ok (.aload_n 0, 1) := by decide +kernel
theorem dl_613 : decode code 613 = .ok (.iload 4, 2) := by decide +kernel
theorem dl_615 : decode code 615 = .ok (.iconst 1, 1) := by decide +kernel
theorem dl_616 : decode code 616 = .ok (.iadd, 1) := by decide +kernel
theorem dl_617 : decode code 617 = .ok (.iaload, 1) := by decide +kernel
theorem dl_618 : decode code 618 = .ok (.aload_n 0, 1) := by decide +kernel
theorem dl_619 : decode code 619 = .ok (.iload 4, 2) := by decide +kernel
theorem dl_621 : decode code 621 = .ok (.iconst 2, 1) := by decide +kernel
theorem dl_622 : decode code 622 = .ok (.iadd, 1) := by decide +kernel
theorem dl_623 : decode code 623 = .ok (.iaload, 1) := by decide +kernel
theorem dl_624 : decode code 624 = .ok (.aload_n 0, 1) := by decide +kernel
theorem dl_625 : decode code 625 = .ok (.iload 4, 2) := by decide +kernel
theorem dl_627 : decode code 627 = .ok (.iconst 3, 1) := by decide +kernel
theorem dl_628 : decode code 628 = .ok (.iadd, 1) := by decide +kernel
theorem dl_629 : decode code 629 = .ok (.iaload, 1) := by decide +kernel
theorem dl_630 : decode code 630 = .ok (.invokevirtual 108, 3) := by decide +kernel
theorem dl_633 : decode code 633 = .ok (.istore 6, 2) := by decide +kernel
theorem dl_635 : decode code 635 = .ok (.aload_n 2, 1) := by decide +kernel
theorem dl_636 : decode code 636 = .ok (.invokevirtual 84, 3) := by decide +kernel
theorem dl_639 : decode code 639 = .ok (.iload 5, 2) := by decide +kernel
theorem dl_641 : decode code 641 = .ok (.if_icmp .eq 5, 3) := by decide +kernel
theorem dl_644 : decode code 644 = .ok (.iconst 0, 1) := by decide +kernel
theorem dl_645 : decode code 645 = .ok (.ireturn, 1) := by decide +kernel
theorem dl_646 : decode code 646 = .ok (.iload 5, 2) := by decide +kernel
theorem dl_648 : decode code 648 = .ok (.ifCond .ne 15, 3) := by decide +kernel
theorem dl_651 : decode code 651 = .ok (.aload_n 3, 1) := by decide +kernel
theorem dl_652 : decode code 652 = .ok (.iconst 0, 1) := by decide +kernel
theorem dl_653 : decode code 653 = .ok (.laload, 1) := by decide +kernel
theorem dl_654 : decode code 654 = .ok (.iload 6, 2) := by decide +kernel
theorem dl_656 : decode code 656 = .ok (.i2l, 1) := by decide +kernel
theorem dl_657 : decode code 657 = .ok (.lcmp, 1) := by decide +kernel
theorem dl_658 : decode code 658 = .ok (.ifCond .eq 5, 3) := by decide +kernel
theorem dl_661 : decode code 661 = .ok (.iconst 0, 1) := by decide +kernel
theorem dl_662 : decode code 662 = .ok (.ireturn, 1) := by decide +kernel
theorem dl_663 : decode code 663 = .ok (.goto 602, 3) := by decide +kernel
theorem dl_666 : decode code 666 = .ok (.aload_n 1, 1) := by decide +kernel
theorem dl_667 : decode code 667 = .ok (.invokevirtual 109, 3) := by decide +kernel
theorem dl_670 : decode code 670 = .ok (.aload_n 2, 1) := by decide +kernel
theorem dl_671 : decode code 671 = .ok (.invokevirtual 112, 3) := by decide +kernel
theorem dl_674 : decode code 674 = .ok (.if_icmp .eq 591, 3) := by decide +kernel
theorem dl_677 : decode code 677 = .ok (.iconst 0, 1) := by decide +kernel
theorem dl_678 : decode code 678 = .ok (.ireturn, 1) := by decide +kernel
theorem dl_679 : decode code 679 = .ok (.aload_n 1, 1) := by decide +kernel
theorem dl_680 : decode code 680 = .ok (.aload_n 0, 1) := by decide +kernel
theorem dl_681 : decode code 681 = .ok (.iload 4, 2) := by decide +kernel
theorem dl_683 : decode code 683 = .ok (.iconst 1, 1) := by decide +kernel
theorem dl_684 : decode code 684 = .ok (.iadd, 1) := by decide +kernel
theorem dl_685 : decode code 685 = .ok (.iaload, 1) := by decide +kernel
theorem dl_686 : decode code 686 = .ok (.aload_n 3, 1) := by decide +kernel
theorem dl_687 : decode code 687 = .ok (.invokestatic 113, 3) := by decide +kernel
theorem dl_690 : decode code 690 = .ok (.istore 5, 2) := by decide +kernel
theorem dl_692 : decode code 692 = .ok (.aload_n 2, 1) := by decide +kernel
theorem dl_693 : decode code 693 = .ok (.aload_n 0, 1) := by decide +kernel
theorem dl_694 : decode code 694 = .ok (.iload 4, 2) := by decide +kernel
theorem dl_696 : decode code 696 = .ok (.iconst 1, 1) := by decide +kernel
theorem dl_697 : decode code 697 = .ok (.iadd, 1) := by decide +kernel
theorem dl_698 : decode code 698 = .ok (.iaload, 1) := by decide +kernel
theorem dl_699 : decode code 699 = .ok (.invokevirtual 116, 3) := by decide +kernel
theorem dl_702 : decode code 702 = .ok (.istore 6, 2) := by decide +kernel
theorem dl_704 : decode code 704 = .ok (.aload_n 2, 1) := by decide +kernel
theorem dl_705 : decode code 705 = .ok (.invokevirtual 84, 3) := by decide +kernel
theorem dl_708 : decode code 708 = .ok (.iload 5, 2) := by decide +kernel
theorem dl_710 : decode code 710 = .ok (.if_icmp .eq 5, 3) := by decide +kernel
theorem dl_713 : decode code 713 = .ok (.iconst 0, 1) := by decide +kernel
theorem dl_714 : decode code 714 = .ok (.ireturn, 1) := by decide +kernel
theorem dl_715 : decode code 715 = .ok (.iload 5, 2) := by decide +kernel
theorem dl_717 : decode code 717 = .ok (.ifCond .ne 15, 3) := by decide +kernel
theorem dl_720 : decode code 720 = .ok (.aload_n 3, 1) := by decide +kernel
theorem dl_721 : decode code 721 = .ok (.iconst 0, 1) := by decide +kernel
theorem dl_722 : decode code 722 = .ok (.laload, 1) := by decide +kernel
theorem dl_723 : decode code 723 = .ok (.iload 6, 2) := by decide +kernel
theorem dl_725 : decode code 725 = .ok (.i2l, 1) := by decide +kernel
theorem dl_726 : decode code 726 = .ok (.lcmp, 1) := by decide +kernel
theorem dl_727 : decode code 727 = .ok (.ifCond .eq 5, 3) := by decide +kernel
theorem dl_730 : decode code 730 = .ok (.iconst 0, 1) := by decide +kernel
theorem dl_731 : decode code 731 = .ok (.ireturn, 1) := by decide +kernel
theorem dl_732 : decode code 732 = .ok (.goto 533, 3) := by decide +kernel
theorem dl_735 : decode code 735 = .ok (.aload_n 1, 1) := by decide +kernel
theorem dl_736 : decode code 736 = .ok (.aload_n 0, 1) := by decide +kernel
theorem dl_737 : decode code 737 = .ok (.iload 4, 2) := by decide +kernel
theorem dl_739 : decode code 739 = .ok (.iconst 1, 1) := by decide +kernel
theorem dl_740 : decode code 740 = .ok (.iadd, 1) := by decide +kernel
theorem dl_741 : decode code 741 = .ok (.iaload, 1) := by decide +kernel
theorem dl_742 : decode code 742 = .ok (.aload_n 0, 1) := by decide +kernel
theorem dl_743 : decode code 743 = .ok (.iload 4, 2) := by decide +kernel
theorem dl_745 : decode code 745 = .ok (.iconst 2, 1) := by decide +kernel
theorem dl_746 : decode code 746 = .ok (.iadd, 1) := by decide +kernel
theorem dl_747 : decode code 747 = .ok (.iaload, 1) := by decide +kernel
theorem dl_748 : decode code 748 = .ok (.aload_n 0, 1) := by decide +kernel
theorem dl_749 : decode code 749 = .ok (.iload 4, 2) := by decide +kernel
theorem dl_751 : decode code 751 = .ok (.iconst 3, 1) := by decide +kernel
theorem dl_752 : decode code 752 = .ok (.iadd, 1) := by decide +kernel
theorem dl_753 : decode code 753 = .ok (.iaload, 1) := by decide +kernel
theorem dl_754 : decode code 754 = .ok (.aload_n 0, 1) := by decide +kernel
theorem dl_755 : decode code 755 = .ok (.iload 4, 2) := by decide +kernel
theorem dl_757 : decode code 757 = .ok (.iconst 4, 1) := by decide +kernel
theorem dl_758 : decode code 758 = .ok (.iadd, 1) := by decide +kernel
theorem dl_759 : decode code 759 = .ok (.iaload, 1) := by decide +kernel
theorem dl_760 : decode code 760 = .ok (.aload_n 0, 1) := by decide +kernel
theorem dl_761 : decode code 761 = .ok (.iload 4, 2) := by decide +kernel
theorem dl_763 : decode code 763 = .ok (.iconst 5, 1) := by decide +kernel
theorem dl_764 : decode code 764 = .ok (.iadd, 1) := by decide +kernel
theorem dl_765 : decode code 765 = .ok (.iaload, 1) := by decide +kernel
theorem dl_766 : decode code 766 = .ok (.aload_n 3, 1) := by decide +kernel
theorem dl_767 : decode code 767 = .ok (.invokestatic 117, 3) := by decide +kernel
theorem dl_770 : decode code 770 = .ok (.istore 5, 2) := by decide +kernel
theorem dl_772 : decode code 772 = .ok (.aload_n 2, 1) := by decide +kernel
theorem dl_773 : decode code 773 = .ok (.aload_n 0, 1) := by decide +kernel
theorem dl_774 : decode code 774 = .ok (.iload 4, 2) := by decide +kernel
theorem dl_776 : decode code 776 = .ok (.iconst 1, 1) := by decide +kernel
theorem dl_777 : decode code 777 = .ok (.iadd, 1) := by decide +kernel
theorem dl_778 : decode code 778 = .ok (.iaload, 1) := by decide +kernel
theorem dl_779 : decode code 779 = .ok (.aload_n 0, 1) := by decide +kernel
theorem dl_780 : decode code 780 = .ok (.iload 4, 2) := by decide +kernel
theorem dl_782 : decode code 782 = .ok (.iconst 2, 1) := by decide +kernel
theorem dl_783 : decode code 783 = .ok (.iadd, 1) := by decide +kernel
theorem dl_784 : decode code 784 = .ok (.iaload, 1) := by decide +kernel
theorem dl_785 : decode code 785 = .ok (.aload_n 0, 1) := by decide +kernel
theorem dl_786 : decode code 786 = .ok (.iload 4, 2) := by decide +kernel
theorem dl_788 : decode code 788 = .ok (.iconst 3, 1) := by decide +kernel
theorem dl_789 : decode code 789 = .ok (.iadd, 1) := by decide +kernel
theorem dl_790 : decode code 790 = .ok (.iaload, 1) := by decide +kernel
theorem dl_791 : decode code 791 = .ok (.aload_n 0, 1) := by decide +kernel
theorem dl_792 : decode code 792 = .ok (.iload 4, 2) := by decide +kernel
theorem dl_794 : decode code 794 = .ok (.iconst 4, 1) := by decide +kernel
theorem dl_795 : decode code 795 = .ok (.iadd, 1) := by decide +kernel
theorem dl_796 : decode code 796 = .ok (.iaload, 1) := by decide +kernel
theorem dl_797 : decode code 797 = .ok (.aload_n 0, 1) := by decide +kernel
theorem dl_798 : decode code 798 = .ok (.iload 4, 2) := by decide +kernel
theorem dl_800 : decode code 800 = .ok (.iconst 5, 1) := by decide +kernel
theorem dl_801 : decode code 801 = .ok (.iadd, 1) := by decide +kernel
theorem dl_802 : decode code 802 = .ok (.iaload, 1) := by decide +kernel
theorem dl_803 : decode code 803 = .ok (.invokevirtual 120, 3) := by decide +kernel
theorem dl_806 : decode code 806 = .ok (.istore 6, 2) := by decide +kernel
theorem dl_808 : decode code 808 = .ok (.aload_n 2, 1) := by decide +kernel
theorem dl_809 : decode code 809 = .ok (.invokevirtual 84, 3) := by decide +kernel
theorem dl_812 : decode code 812 = .ok (.iload 5, 2) := by decide +kernel
theorem dl_814 : decode code 814 = .ok (.if_icmp .eq 5, 3) := by decide +kernel
theorem dl_817 : decode code 817 = .ok (.iconst 0, 1) := by decide +kernel
theorem dl_818 : decode code 818 = .ok (.ireturn, 1) := by decide +kernel
theorem dl_819 : decode code 819 = .ok (.iload 5, 2) := by decide +kernel
theorem dl_821 : decode code 821 = .ok (.ifCond .ne 15, 3) := by decide +kernel
theorem dl_824 : decode code 824 = .ok (.aload_n 3, 1) := by decide +kernel
theorem dl_825 : decode code 825 = .ok (.iconst 0, 1) := by decide +kernel
theorem dl_826 : decode code 826 = .ok (.laload, 1) := by decide +kernel
theorem dl_827 : decode code 827 = .ok (.iload 6, 2) := by decide +kernel
theorem dl_829 : decode code 829 = .ok (.i2l, 1) := by decide +kernel
theorem dl_830 : decode code 830 = .ok (.lcmp, 1) := by decide +kernel
theorem dl_831 : decode code 831 = .ok (.ifCond .eq 5, 3) := by decide +kernel
theorem dl_834 : decode code 834 = .ok (.iconst 0, 1) := by decide +kernel
theorem dl_835 : decode code 835 = .ok (.ireturn, 1) := by decide +kernel
theorem dl_836 : decode code 836 = .ok (.goto 429, 3) := by decide +kernel
theorem dl_839 : decode code 839 = .ok (.aload_n 1, 1) := by decide +kernel
theorem dl_840 : decode code 840 = .ok (.aload_n 0, 1) := by decide +kernel
theorem dl_841 : decode code 841 = .ok (.iload 4, 2) := by decide +kernel
theorem dl_843 : decode code 843 = .ok (.iconst 1, 1) := by decide +kernel
theorem dl_844 : decode code 844 = .ok (.iadd, 1) := by decide +kernel
theorem dl_845 : decode code 845 = .ok (.iaload, 1) := by decide +kernel
theorem dl_846 : decode code 846 = .ok (.invokestatic 121, 3) := by decide +kernel
theorem dl_849 : decode code 849 = .ok (.istore 5, 2) := by decide +kernel
theorem dl_851 : decode code 851 = .ok (.aload_n 2, 1) := by decide +kernel
theorem dl_852 : decode code 852 = .ok (.aload_n 0, 1) := by decide +kernel
theorem dl_853 : decode code 853 = .ok (.iload 4, 2) := by decide +kernel
theorem dl_855 : decode code 855 = .ok (.iconst 1, 1) := by decide +kernel
theorem dl_856 : decode code 856 = .ok (.iadd, 1) := by decide +kernel
theorem dl_857 : decode code 857 = .ok (.iaload, 1) := by decide +kernel
theorem dl_858 : decode code 858 = .ok (.invokevirtual 124, 3) := by decide +kernel
theorem dl_861 : decode code 861 = .ok (.aload_n 2, 1) := by decide +kernel
theorem dl_862 : decode code 862 = .ok (.invokevirtual 84, 3) := by decide +kernel
theorem dl_865 : decode code 865 = .ok (.iload 5, 2) := by decide +kernel
theorem dl_867 : decode code 867 = .ok (.if_icmp .eq 5, 3) := by decide +kernel
theorem dl_870 : decode code 870 = .ok (.iconst 0, 1) := by decide +kernel
theorem dl_871 : decode code 871 = .ok (.ireturn, 1) := by decide +kernel
theorem dl_872 : decode code 872 = .ok (.goto 393, 3) := by decide +kernel
theorem dl_875 : decode code 875 = .ok (.aload_n 1, 1) := by decide +kernel
theorem dl_876 : decode code 876 = .ok (.aload_n 0, 1) := by decide +kernel
theorem dl_877 : decode code 877 = .ok (.iload 4, 2) := by decide +kernel
theorem dl_879 : decode code 879 = .ok (.iconst 1, 1) := by decide +kernel
theorem dl_880 : decode code 880 = .ok (.iadd, 1) := by decide +kernel
theorem dl_881 : decode code 881 = .ok (.iaload, 1) := by decide +kernel
theorem dl_882 : decode code 882 = .ok (.aload_n 0, 1) := by decide +kernel
theorem dl_883 : decode code 883 = .ok (.iload 4, 2) := by decide +kernel
theorem dl_885 : decode code 885 = .ok (.iconst 2, 1) := by decide +kernel
theorem dl_886 : decode code 886 = .ok (.iadd, 1) := by decide +kernel
theorem dl_887 : decode code 887 = .ok (.iaload, 1) := by decide +kernel
theorem dl_888 : decode code 888 = .ok (.aload_n 3, 1) := by decide +kernel
theorem dl_889 : decode code 889 = .ok (.invokestatic 125, 3) := by decide +kernel
theorem dl_892 : decode code 892 = .ok (.istore 5, 2) := by decide +kernel
theorem dl_894 : decode code 894 = .ok (.aload_n 2, 1) := by decide +kernel
theorem dl_895 : decode code 895 = .ok (.aload_n 0, 1) := by decide +kernel
theorem dl_896 : decode code 896 = .ok (.iload 4, 2) := by decide +kernel
theorem dl_898 : decode code 898 = .ok (.iconst 1, 1) := by decide +kernel
theorem dl_899 : decode code 899 = .ok (.iadd, 1) := by decide +kernel
theorem dl_900 : decode code 900 = .ok (.iaload, 1) := by decide +kernel
theorem dl_901 : decode code 901 = .ok (.aload_n 0, 1) := by decide +kernel
theorem dl_902 : decode code 902 = .ok (.iload 4, 2) := by decide +kernel
theorem dl_904 : decode code 904 = .ok (.iconst 2, 1) := by decide +kernel
theorem dl_905 : decode code 905 = .ok (.iadd, 1) := by decide +kernel
theorem dl_906 : decode code 906 = .ok (.iaload, 1) := by decide +kernel
theorem dl_907 : decode code 907 = .ok (.invokevirtual 128, 3) := by decide +kernel
theorem dl_910 : decode code 910 = .ok (.istore 6, 2) := by decide +kernel
theorem dl_912 : decode code 912 = .ok (.aload_n 2, 1) := by decide +kernel
theorem dl_913 : decode code 913 = .ok (.invokevirtual 84, 3) := by decide +kernel
theorem dl_916 : decode code 916 = .ok (.iload 5, 2) := by decide +kernel
theorem dl_918 : decode code 918 = .ok (.if_icmp .eq 5, 3) := by decide +kernel
theorem dl_921 : decode code 921 = .ok (.iconst 0, 1) := by decide +kernel
theorem dl_922 : decode code 922 = .ok (.ireturn, 1) := by decide +kernel
theorem dl_923 : decode code 923 = .ok (.iload 5, 2) := by decide +kernel
theorem dl_925 : decode code 925 = .ok (.ifCond .ne 15, 3) := by decide +kernel
theorem dl_928 : decode code 928 = .ok (.aload_n 3, 1) := by decide +kernel
theorem dl_929 : decode code 929 = .ok (.iconst 0, 1) := by decide +kernel
theorem dl_930 : decode code 930 = .ok (.laload, 1) := by decide +kernel
theorem dl_931 : decode code 931 = .ok (.iload 6, 2) := by decide +kernel
theorem dl_933 : decode code 933 = .ok (.i2l, 1) := by decide +kernel
theorem dl_934 : decode code 934 = .ok (.lcmp, 1) := by decide +kernel
theorem dl_935 : decode code 935 = .ok (.ifCond .eq 5, 3) := by decide +kernel
theorem dl_938 : decode code 938 = .ok (.iconst 0, 1) := by decide +kernel
theorem dl_939 : decode code 939 = .ok (.ireturn, 1) := by decide +kernel
theorem dl_940 : decode code 940 = .ok (.goto 325, 3) := by decide +kernel
theorem dl_943 : decode code 943 = .ok (.aload_n 1, 1) := by decide +kernel
theorem dl_944 : decode code 944 = .ok (.aload_n 3, 1) := by decide +kernel
theorem dl_945 : decode code 945 = .ok (.invokestatic 129, 3) := by decide +kernel
theorem dl_948 : decode code 948 = .ok (.istore 5, 2) := by decide +kernel
theorem dl_950 : decode code 950 = .ok (.aload_n 2, 1) := by decide +kernel
theorem dl_951 : decode code 951 = .ok (.invokevirtual 132, 3) := by decide +kernel
theorem dl_954 : decode code 954 = .ok (.istore 6, 2) := by decide +kernel
theorem dl_956 : decode code 956 = .ok (.aload_n 2, 1) := by decide +kernel
theorem dl_957 : decode code 957 = .ok (.invokevirtual 84, 3) := by decide +kernel
theorem dl_960 : decode code 960 = .ok (.iload 5, 2) := by decide +kernel
theorem dl_962 : decode code 962 = .ok (.if_icmp .eq 5, 3) := by decide +kernel
theorem dl_965 : decode code 965 = .ok (.iconst 0, 1) := by decide +kernel
theorem dl_966 : decode code 966 = .ok (.ireturn, 1) := by decide +kernel
theorem dl_967 : decode code 967 = .ok (.iload 5, 2) := by decide +kernel
theorem dl_969 : decode code 969 = .ok (.ifCond .ne 15, 3) := by decide +kernel
theorem dl_972 : decode code 972 = .ok (.aload_n 3, 1) := by decide +kernel
theorem dl_973 : decode code 973 = .ok (.iconst 0, 1) := by decide +kernel
theorem dl_974 : decode code 974 = .ok (.laload, 1) := by decide +kernel
theorem dl_975 : decode code 975 = .ok (.iload 6, 2) := by decide +kernel
theorem dl_977 : decode code 977 = .ok (.i2l, 1) := by decide +kernel
theorem dl_978 : decode code 978 = .ok (.lcmp, 1) := by decide +kernel
theorem dl_979 : decode code 979 = .ok (.ifCond .eq 5, 3) := by decide +kernel
theorem dl_982 : decode code 982 = .ok (.iconst 0, 1) := by decide +kernel
theorem dl_983 : decode code 983 = .ok (.ireturn, 1) := by decide +kernel
theorem dl_984 : decode code 984 = .ok (.goto 281, 3) := by decide +kernel
theorem dl_987 : decode code 987 = .ok (.aload_n 1, 1) := by decide +kernel
theorem dl_988 : decode code 988 = .ok (.invokevirtual 133, 3) := by decide +kernel
theorem dl_991 : decode code 991 = .ok (.aload_n 2, 1) := by decide +kernel
theorem dl_992 : decode code 992 = .ok (.invokevirtual 136, 3) := by decide +kernel
theorem dl_995 : decode code 995 = .ok (.if_icmp .eq 270, 3) := by decide +kernel
theorem dl_998 : decode code 998 = .ok (.iconst 0, 1) := by decide +kernel
theorem dl_999 : decode code 999 = .ok (.ireturn, 1) := by decide +kernel
theorem dl_1000 : decode code 1000 = .ok (.aload_n 1, 1) := by decide +kernel
theorem dl_1001 : decode code 1001 = .ok (.invokevirtual 137, 3) := by decide +kernel
theorem dl_1004 : decode code 1004 = .ok (.aload_n 2, 1) := by decide +kernel
theorem dl_1005 : decode code 1005 = .ok (.invokevirtual 140, 3) := by decide +kernel
theorem dl_1008 : decode code 1008 = .ok (.if_icmp .eq 257, 3) := by decide +kernel
theorem dl_1011 : decode code 1011 = .ok (.iconst 0, 1) := by decide +kernel
theorem dl_1012 : decode code 1012 = .ok (.ireturn, 1) := by decide +kernel
theorem dl_1013 : decode code 1013 = .ok (.aload_n 1, 1) := by decide +kernel
theorem dl_1014 : decode code 1014 = .ok (.aload_n 0, 1) := by decide +kernel
theorem dl_1015 : decode code 1015 = .ok (.iload 4, 2) := by decide +kernel
theorem dl_1017 : decode code 1017 = .ok (.iconst 1, 1) := by decide +kernel
theorem dl_1018 : decode code 1018 = .ok (.iadd, 1) := by decide +kernel
theorem dl_1019 : decode code 1019 = .ok (.iaload, 1) := by decide +kernel
theorem dl_1020 : decode code 1020 = .ok (.aload_n 3, 1) := by decide +kernel
theorem dl_1021 : decode code 1021 = .ok (.invokestatic 141, 3) := by decide +kernel
theorem dl_1024 : decode code 1024 = .ok (.istore 5, 2) := by decide +kernel
theorem dl_1026 : decode code 1026 = .ok (.aload_n 2, 1) := by decide +kernel
theorem dl_1027 : decode code 1027 = .ok (.aload_n 0, 1) := by decide +kernel
theorem dl_1028 : decode code 1028 = .ok (.iload 4, 2) := by decide +kernel
theorem dl_1030 : decode code 1030 = .ok (.iconst 1, 1) := by decide +kernel
theorem dl_1031 : decode code 1031 = .ok (.iadd, 1) := by decide +kernel
theorem dl_1032 : decode code 1032 = .ok (.iaload, 1) := by decide +kernel
theorem dl_1033 : decode code 1033 = .ok (.invokevirtual 143, 3) := by decide +kernel
theorem dl_1036 : decode code 1036 = .ok (.istore 6, 2) := by decide +kernel
theorem dl_1038 : decode code 1038 = .ok (.aload_n 2, 1) := by decide +kernel
theorem dl_1039 : decode code 1039 = .ok (.invokevirtual 84, 3) := by decide +kernel
theorem dl_1042 : decode code 1042 = .ok (.iload 5, 2) := by decide +kernel
theorem dl_1044 : decode code 1044 = .ok (.if_icmp .eq 5, 3) := by decide +kernel
theorem dl_1047 : decode code 1047 = .ok (.iconst 0, 1) := by decide +kernel
theorem dl_1048 : decode code 1048 = .ok (.ireturn, 1) := by decide +kernel
theorem dl_1049 : decode code 1049 = .ok (.iload 5, 2) := by decide +kernel
theorem dl_1051 : decode code 1051 = .ok (.ifCond .ne 15, 3) := by decide +kernel
theorem dl_1054 : decode code 1054 = .ok (.aload_n 3, 1) := by decide +kernel
theorem dl_1055 : decode code 1055 = .ok (.iconst 0, 1) := by decide +kernel
theorem dl_1056 : decode code 1056 = .ok (.laload, 1) := by decide +kernel
theorem dl_1057 : decode code 1057 = .ok (.iload 6, 2) := by decide +kernel
theorem dl_1059 : decode code 1059 = .ok (.i2l, 1) := by decide +kernel
theorem dl_1060 : decode code 1060 = .ok (.lcmp, 1) := by decide +kernel
theorem dl_1061 : decode code 1061 = .ok (.ifCond .eq 5, 3) := by decide +kernel
theorem dl_1064 : decode code 1064 = .ok (.iconst 0, 1) := by decide +kernel
theorem dl_1065 : decode code 1065 = .ok (.ireturn, 1) := by decide +kernel
theorem dl_1066 : decode code 1066 = .ok (.goto 199, 3) := by decide +kernel
theorem dl_1069 : decode code 1069 = .ok (.aload_n 1, 1) := by decide +kernel
theorem dl_1070 : decode code 1070 = .ok (.aload_n 0, 1) := by decide +kernel
theorem dl_1071 : decode code 1071 = .ok (.iload 4, 2) := by decide +kernel
theorem dl_1073 : decode code 1073 = .ok (.iconst 1, 1) := by decide +kernel
theorem dl_1074 : decode code 1074 = .ok (.iadd, 1) := by decide +kernel
theorem dl_1075 : decode code 1075 = .ok (.iaload, 1) := by decide +kernel
theorem dl_1076 : decode code 1076 = .ok (.aload_n 0, 1) := by decide +kernel
theorem dl_1077 : decode code 1077 = .ok (.iload 4, 2) := by decide +kernel
theorem dl_1079 : decode code 1079 = .ok (.iconst 2, 1) := by decide +kernel
theorem dl_1080 : decode code 1080 = .ok (.iadd, 1) := by decide +kernel
theorem dl_1081 : decode code 1081 = .ok (.iaload, 1) := by decide +kernel
theorem dl_1082 : decode code 1082 = .ok (.aload_n 0, 1) := by decide +kernel
theorem dl_1083 : decode code 1083 = .ok (.iload 4, 2) := by decide +kernel
theorem dl_1085 : decode code 1085 = .ok (.iconst 3, 1) := by decide +kernel
theorem dl_1086 : decode code 1086 = .ok (.iadd, 1) := by decide +kernel
theorem dl_1087 : decode code 1087 = .ok (.iaload, 1) := by decide +kernel
theorem dl_1088 : decode code 1088 = .ok (.aload_n 3, 1) := by decide +kernel
theorem dl_1089 : decode code 1089 = .ok (.invokestatic 144, 3) := by decide +kernel
theorem dl_1092 : decode code 1092 = .ok (.istore 5, 2) := by decide +kernel
theorem dl_1094 : decode code 1094 = .ok (.aload_n 2, 1) := by decide +kernel
theorem dl_1095 : decode code 1095 = .ok (.aload_n 0, 1) := by decide +kernel
theorem dl_1096 : decode code 1096 = .ok (.iload 4, 2) := by decide +kernel
theorem dl_1098 : decode code 1098 = .ok (.iconst 1, 1) := by decide +kernel
theorem dl_1099 : decode code 1099 = .ok (.iadd, 1) := by decide +kernel
theorem dl_1100 : decode code 1100 = .ok (.iaload, 1) := by decide +kernel
theorem dl_1101 : decode code 1101 = .ok (.aload_n 0, 1) := by decide +kernel
theorem dl_1102 : decode code 1102 = .ok (.iload 4, 2) := by decide +kernel
theorem dl_1104 : decode code 1104 = .ok (.iconst 2, 1) := by decide +kernel
theorem dl_1105 : decode code 1105 = .ok (.iadd, 1) := by decide +kernel
theorem dl_1106 : decode code 1106 = .ok (.iaload, 1) := by decide +kernel
theorem dl_1107 : decode code 1107 = .ok (.aload_n 0, 1) := by decide +kernel
theorem dl_1108 : decode code 1108 = .ok (.iload 4, 2) := by decide +kernel
theorem dl_1110 : decode code 1110 = .ok (.iconst 3, 1) := by decide +kernel
theorem dl_1111 : decode code 1111 = .ok (.iadd, 1) := by decide +kernel
theorem dl_1112 : decode code 1112 = .ok (.iaload, 1) := by decide +kernel
theorem dl_1113 : decode code 1113 = .ok (.invokevirtual 146, 3) := by decide +kernel
theorem dl_1116 : decode code 1116 = .ok (.istore 6, 2) := by decide +kernel
theorem dl_1118 : decode code 1118 = .ok (.aload_n 2, 1) := by decide +kernel
theorem dl_1119 : decode code 1119 = .ok (.invokevirtual 84, 3) := by decide +kernel
theorem dl_1122 : decode code 1122 = .ok (.iload 5, 2) := by decide +kernel
theorem dl_1124 : decode code 1124 = .ok (.if_icmp .eq 5, 3) := by decide +kernel
theorem dl_1127 : decode code 1127 = .ok (.iconst 0, 1) := by decide +kernel
theorem dl_1128 : decode code 1128 = .ok (.ireturn, 1) := by decide +kernel
theorem dl_1129 : decode code 1129 = .ok (.iload 5, 2) := by decide +kernel
theorem dl_1131 : decode code 1131 = .ok (.ifCond .ne 15, 3) := by decide +kernel
theorem dl_1134 : decode code 1134 = .ok (.aload_n 3, 1) := by decide +kernel
theorem dl_1135 : decode code 1135 = .ok (.iconst 0, 1) := by decide +kernel
theorem dl_1136 : decode code 1136 = .ok (.laload, 1) := by decide +kernel
theorem dl_1137 : decode code 1137 = .ok (.iload 6, 2) := by decide +kernel
theorem dl_1139 : decode code 1139 = .ok (.i2l, 1) := by decide +kernel
theorem dl_1140 : decode code 1140 = .ok (.lcmp, 1) := by decide +kernel
theorem dl_1141 : decode code 1141 = .ok (.ifCond .eq 5, 3) := by decide +kernel
theorem dl_1144 : decode code 1144 = .ok (.iconst 0, 1) := by decide +kernel
theorem dl_1145 : decode code 1145 = .ok (.ireturn, 1) := by decide +kernel
theorem dl_1146 : decode code 1146 = .ok (.goto 119, 3) := by decide +kernel
theorem dl_1149 : decode code 1149 = .ok (.aload_n 1, 1) := by decide +kernel
theorem dl_1150 : decode code 1150 = .ok (.aload_n 0, 1) := by decide +kernel
theorem dl_1151 : decode code 1151 = .ok (.iload 4, 2) := by decide +kernel
theorem dl_1153 : decode code 1153 = .ok (.iconst 1, 1) := by decide +kernel
theorem dl_1154 : decode code 1154 = .ok (.iadd, 1) := by decide +kernel
theorem dl_1155 : decode code 1155 = .ok (.iaload, 1) := by decide +kernel
theorem dl_1156 : decode code 1156 = .ok (.aload_n 0, 1) := by decide +kernel
theorem dl_1157 : decode code 1157 = .ok (.iload 4, 2) := by decide +kernel
theorem dl_1159 : decode code 1159 = .ok (.iconst 2, 1) := by decide +kernel
theorem dl_1160 : decode code 1160 = .ok (.iadd, 1) := by decide +kernel
theorem dl_1161 : decode code 1161 = .ok (.iaload, 1) := by decide +kernel
theorem dl_1162 : decode code 1162 = .ok (.aload_n 0, 1) := by decide +kernel
theorem dl_1163 : decode code 1163 = .ok (.iload 4, 2) := by decide +kernel
theorem dl_1165 : decode code 1165 = .ok (.iconst 3, 1) := by decide +kernel
theorem dl_1166 : decode code 1166 = .ok (.iadd, 1) := by decide +kernel
theorem dl_1167 : decode code 1167 = .ok (.iaload, 1) := by decide +kernel
theorem dl_1168 : decode code 1168 = .ok (.aload_n 0, 1) := by decide +kernel
theorem dl_1169 : decode code 1169 = .ok (.iload 4, 2) := by decide +kernel
theorem dl_1171 : decode code 1171 = .ok (.iconst 4, 1) := by decide +kernel
theorem dl_1172 : decode code 1172 = .ok (.iadd, 1) := by decide +kernel
theorem dl_1173 : decode code 1173 = .ok (.iaload, 1) := by decide +kernel
theorem dl_1174 : decode code 1174 = .ok (.aload_n 3, 1) := by decide +kernel
theorem dl_1175 : decode code 1175 = .ok (.invokestatic 147, 3) := by decide +kernel
theorem dl_1178 : decode code 1178 = .ok (.istore 5, 2) := by decide +kernel
theorem dl_1180 : decode code 1180 = .ok (.aload_n 2, 1) := by decide +kernel
theorem dl_1181 : decode code 1181 = .ok (.aload_n 0, 1) := by decide +kernel
theorem dl_1182 : decode code 1182 = .ok (.iload 4, 2) := by decide +kernel
theorem dl_1184 : decode code 1184 = .ok (.iconst 1, 1) := by decide +kernel
theorem dl_1185 : decode code 1185 = .ok (.iadd, 1) := by decide +kernel
theorem dl_1186 : decode code 1186 = .ok (.iaload, 1) := by decide +kernel
theorem dl_1187 : decode code 1187 = .ok (.aload_n 0, 1) := by decide +kernel
theorem dl_1188 : decode code 1188 = .ok (.iload 4, 2) := by decide +kernel
theorem dl_1190 : decode code 1190 = .ok (.iconst 2, 1) := by decide +kernel
theorem dl_1191 : decode code 1191 = .ok (.iadd, 1) := by decide +kernel
theorem dl_1192 : decode code 1192 = .ok (.iaload, 1) := by decide +kernel
theorem dl_1193 : decode code 1193 = .ok (.aload_n 0, 1) := by decide +kernel
theorem dl_1194 : decode code 1194 = .ok (.iload 4, 2) := by decide +kernel
theorem dl_1196 : decode code 1196 = .ok (.iconst 3, 1) := by decide +kernel
theorem dl_1197 : decode code 1197 = .ok (.iadd, 1) := by decide +kernel
theorem dl_1198 : decode code 1198 = .ok (.iaload, 1) := by decide +kernel
theorem dl_1199 : decode code 1199 = .ok (.aload_n 0, 1) := by decide +kernel
theorem dl_1200 : decode code 1200 = .ok (.iload 4, 2) := by decide +kernel
theorem dl_1202 : decode code 1202 = .ok (.iconst 4, 1) := by decide +kernel
theorem dl_1203 : decode code 1203 = .ok (.iadd, 1) := by decide +kernel
theorem dl_1204 : decode code 1204 = .ok (.iaload, 1) := by decide +kernel
theorem dl_1205 : decode code 1205 = .ok (.invokevirtual 150, 3) := by decide +kernel
theorem dl_1208 : decode code 1208 = .ok (.istore 6, 2) := by decide +kernel
theorem dl_1210 : decode code 1210 = .ok (.aload_n 2, 1) := by decide +kernel
theorem dl_1211 : decode code 1211 = .ok (.invokevirtual 84, 3) := by decide +kernel
theorem dl_1214 : decode code 1214 = .ok (.iload 5, 2) := by decide +kernel
theorem dl_1216 : decode code 1216 = .ok (.if_icmp .eq 5, 3) := by decide +kernel
theorem dl_1219 : decode code 1219 = .ok (.iconst 0, 1) := by decide +kernel
theorem dl_1220 : decode code 1220 = .ok (.ireturn, 1) := by decide +kernel
theorem dl_1221 : decode code 1221 = .ok (.iload 5, 2) := by decide +kernel
theorem dl_1223 : decode code 1223 = .ok (.ifCond .ne 15, 3) := by decide +kernel
theorem dl_1226 : decode code 1226 = .ok (.aload_n 3, 1) := by decide +kernel
theorem dl_1227 : decode code 1227 = .ok (.iconst 0, 1) := by decide +kernel
theorem dl_1228 : decode code 1228 = .ok (.laload, 1) := by decide +kernel
theorem dl_1229 : decode code 1229 = .ok (.iload 6, 2) := by decide +kernel
theorem dl_1231 : decode code 1231 = .ok (.i2l, 1) := by decide +kernel
theorem dl_1232 : decode code 1232 = .ok (.lcmp, 1) := by decide +kernel
theorem dl_1233 : decode code 1233 = .ok (.ifCond .eq 5, 3) := by decide +kernel
theorem dl_1236 : decode code 1236 = .ok (.iconst 0, 1) := by decide +kernel
theorem dl_1237 : decode code 1237 = .ok (.ireturn, 1) := by decide +kernel
theorem dl_1238 : decode code 1238 = .ok (.goto 27, 3) := by decide +kernel
theorem dl_1241 : decode code 1241 = .ok (.aload_n 1, 1) := by decide +kernel
theorem dl_1242 : decode code 1242 = .ok (.invokestatic 151, 3) := by decide +kernel
theorem dl_1245 : decode code 1245 = .ok (.istore 5, 2) := by decide +kernel
theorem dl_1247 : decode code 1247 = .ok (.aload_n 2, 1) := by decide +kernel
theorem dl_1248 : decode code 1248 = .ok (.invokevirtual 154, 3) := by decide +kernel
theorem dl_1251 : decode code 1251 = .ok (.aload_n 2, 1) := by decide +kernel
theorem dl_1252 : decode code 1252 = .ok (.invokevirtual 84, 3) := by decide +kernel
theorem dl_1255 : decode code 1255 = .ok (.iload 5, 2) := by decide +kernel
theorem dl_1257 : decode code 1257 = .ok (.if_icmp .eq 5, 3) := by decide +kernel
theorem dl_1260 : decode code 1260 = .ok (.iconst 0, 1) := by decide +kernel
theorem dl_1261 : decode code 1261 = .ok (.ireturn, 1) := by decide +kernel
theorem dl_1262 : decode code 1262 = .ok (.goto 3, 3) := by decide +kernel
theorem dl_1265 : decode code 1265 = .ok (.iinc 4 7, 3) := by decide +kernel
theorem dl_1268 : decode code 1268 = .ok (.goto (-1245), 3) := by decide +kernel
theorem dl_1271 : decode code 1271 = .ok (.iconst 1, 1) := by decide +kernel
theorem dl_1272 : decode code 1272 = .ok (.ireturn, 1) := by decide +kernel
set_option maxRecDepth 100000 in
theorem x_Lw_8 : Cond.classLink R_Lw 8 "BlockPicture" ∈ gG.1 := List.mem_append_right _ (List.mem_append_right _ (List.mem_append_left _ (List.mem_of_getElem? (i := 32) rfl)))
set_option maxRecDepth 100000 in
theorem l_Lw_74 : Cond.methodLink R_Lw 74 n_C_B_init ∈ gG.1 := List.mem_append_right _ (List.mem_append_right _ (List.mem_append_left _ (List.mem_of_getElem? (i := 34) rfl)))
set_option maxRecDepth 100000 in
theorem x_Lw_75 : Cond.classLink R_Lw 75 "BlockPictureModel" ∈ gG.1 := List.mem_append_right _ (List.mem_append_right _ (List.mem_append_right _ (List.mem_append_right _ (List.mem_append_right _ (List.mem_append_right _ (List.mem_append_right _ (List.mem_append_left _ (List.mem_of_getElem? (i := 211) rfl))))))))
set_option maxRecDepth 100000 in
theorem l_Lw_77 : Cond.methodLink R_Lw 77 n_M_init ∈ gG.1 := List.mem_append_right _ (List.mem_append_right _ (List.mem_append_right _ (List.mem_append_right _ (List.mem_append_right _ (List.mem_append_right _ (List.mem_append_right _ (List.mem_append_left _ (List.mem_of_getElem? (i := 213) rfl))))))))
set_option maxRecDepth 100000 in
theorem l_Lw_78 : Cond.methodLink R_Lw 78 n_C_Lw_canvas ∈ gG.1 := List.mem_append_right _ (List.mem_append_right _ (List.mem_append_right _ (List.mem_append_right _ (List.mem_append_right _ (List.mem_append_left _ (List.mem_of_getElem? (i := 56) rfl))))))
set_option maxRecDepth 100000 in
theorem l_Lw_83 : Cond.methodLink R_Lw 83 n_M_canvas ∈ gG.1 := List.mem_append_right _ (List.mem_append_right _ (List.mem_append_right _ (List.mem_append_right _ (List.mem_append_right _ (List.mem_append_right _ (List.mem_append_right _ (List.mem_append_right _ (List.mem_append_left _ (List.mem_of_getElem? (i := 162) rfl)))))))))
set_option maxRecDepth 100000 in
theorem l_Lw_84 : Cond.methodLink R_Lw 84 n_M_thrown ∈ gG.1 := List.mem_append_right _ (List.mem_append_right _ (List.mem_append_right _ (List.mem_append_right _ (List.mem_append_right _ (List.mem_append_right _ (List.mem_append_right _ (List.mem_append_right _ (List.mem_append_left _ (List.mem_of_getElem? (i := 158) rfl)))))))))
set_option maxRecDepth 100000 in
theorem l_Lw_87 : Cond.methodLink R_Lw 87 n_C_Lw_fill ∈ gG.1 := List.mem_append_right _ (List.mem_append_right _ (List.mem_append_right _ (List.mem_append_right _ (List.mem_append_right _ (List.mem_append_left _ (List.mem_of_getElem? (i := 86) rfl))))))
set_option maxRecDepth 100000 in
theorem l_Lw_90 : Cond.methodLink R_Lw 90 n_M_fill ∈ gG.1 := List.mem_append_right _ (List.mem_append_right _ (List.mem_append_right _ (List.mem_append_right _ (List.mem_append_right _ (List.mem_append_right _ (List.mem_append_right _ (List.mem_append_right _ (List.mem_append_left _ (List.mem_of_getElem? (i := 166) rfl)))))))))
set_option maxRecDepth 100000 in
theorem l_Lw_91 : Cond.methodLink R_Lw 91 n_C_Lw_slope ∈ gG.1 := List.mem_append_right _ (List.mem_append_right _ (List.mem_append_right _ (List.mem_append_right _ (List.mem_append_right _ (List.mem_append_left _ (List.mem_of_getElem? (i := 121) rfl))))))
set_option maxRecDepth 100000 in
theorem l_Lw_94 : Cond.methodLink R_Lw 94 n_M_slope ∈ gG.1 := List.mem_append_right _ (List.mem_append_right _ (List.mem_append_right _ (List.mem_append_right _ (List.mem_append_right _ (List.mem_append_right _ (List.mem_append_right _ (List.mem_append_right _ (List.mem_append_left _ (List.mem_of_getElem? (i := 185) rfl)))))))))
set_option maxRecDepth 100000 in
theorem l_Lw_95 : Cond.methodLink R_Lw 95 n_C_Lw_at ∈ gG.1 := List.mem_append_right _ (List.mem_append_right _ (List.mem_append_right _ (List.mem_append_right _ (List.mem_append_right _ (List.mem_append_left _ (List.mem_of_getElem? (i := 128) rfl))))))
set_option maxRecDepth 100000 in
theorem l_Lw_98 : Cond.methodLink R_Lw 98 n_M_at ∈ gG.1 := List.mem_append_right _ (List.mem_append_right _ (List.mem_append_right _ (List.mem_append_right _ (List.mem_append_right _ (List.mem_append_right _ (List.mem_append_right _ (List.mem_append_right _ (List.mem_append_left _ (List.mem_of_getElem? (i := 186) rfl)))))))))
set_option maxRecDepth 100000 in
theorem l_Lw_99 : Cond.methodLink R_Lw 99 n_C_Lw_scale ∈ gG.1 := List.mem_append_right _ (List.mem_append_right _ (List.mem_append_right _ (List.mem_append_right _ (List.mem_append_right _ (List.mem_append_left _ (List.mem_of_getElem? (i := 137) rfl))))))
set_option maxRecDepth 100000 in
theorem l_Lw_101 : Cond.methodLink R_Lw 101 n_M_scale ∈ gG.1 := List.mem_append_right _ (List.mem_append_right _ (List.mem_append_right _ (List.mem_append_right _ (List.mem_append_right _ (List.mem_append_right _ (List.mem_append_right _ (List.mem_append_right _ (List.mem_append_left _ (List.mem_of_getElem? (i := 190) rfl)))))))))
set_option maxRecDepth 100000 in
theorem l_Lw_102 : Cond.methodLink R_Lw 102 n_C_Lw_entry ∈ gG.1 := List.mem_append_right _ (List.mem_append_right _ (List.mem_append_right _ (List.mem_append_right _ (List.mem_append_right _ (List.mem_append_left _ (List.mem_of_getElem? (i := 148) rfl))))))
set_option maxRecDepth 100000 in
theorem l_Lw_105 : Cond.methodLink R_Lw 105 n_M_entry ∈ gG.1 := List.mem_append_right _ (List.mem_append_right _ (List.mem_append_right _ (List.mem_append_right _ (List.mem_append_right _ (List.mem_append_right _ (List.mem_append_right _ (List.mem_append_right _ (List.mem_append_left _ (List.mem_of_getElem? (i := 194) rfl)))))))))
set_option maxRecDepth 100000 in
theorem l_Lw_106 : Cond.methodLink R_Lw 106 n_C_Lw_pack ∈ gG.1 := List.mem_append_right _ (List.mem_append_right _ (List.mem_append_right _ (List.mem_append_right _ (List.mem_append_right _ (List.mem_append_left _ (List.mem_of_getElem? (i := 157) rfl))))))
set_option maxRecDepth 100000 in
theorem l_Lw_108 : Cond.methodLink R_Lw 108 n_M_pack ∈ gG.1 := List.mem_append_right _ (List.mem_append_right _ (List.mem_append_right _ (List.mem_append_right _ (List.mem_append_right _ (List.mem_append_right _ (List.mem_append_right _ (List.mem_append_right _ (List.mem_append_left _ (List.mem_of_getElem? (i := 198) rfl)))))))))
set_option maxRecDepth 100000 in
theorem l_Lw_109 : Cond.methodLink R_Lw 109 n_C_B_size ∈ gG.1 := List.mem_append_right _ (List.mem_append_right _ (List.mem_append_right _ (List.mem_append_right _ (List.mem_append_left _ (List.mem_of_getElem? (i := 26) rfl)))))
set_option maxRecDepth 100000 in
theorem l_Lw_112 : Cond.methodLink R_Lw 112 n_M_size ∈ gG.1 := List.mem_append_right _ (List.mem_append_right _ (List.mem_append_right _ (List.mem_append_right _ (List.mem_append_right _ (List.mem_append_right _ (List.mem_append_right _ (List.mem_append_right _ (List.mem_append_right _ (List.mem_of_getElem? (i := 59) rfl)))))))))
set_option maxRecDepth 100000 in
theorem l_Lw_113 : Cond.methodLink R_Lw 113 n_C_Lw_out ∈ gG.1 := List.mem_append_right _ (List.mem_append_right _ (List.mem_append_right _ (List.mem_append_right _ (List.mem_append_right _ (List.mem_append_right _ (List.mem_append_left _ (List.mem_of_getElem? (i := 63) rfl)))))))
set_option maxRecDepth 100000 in
theorem l_Lw_116 : Cond.methodLink R_Lw 116 n_M_out ∈ gG.1 := List.mem_append_right _ (List.mem_append_right _ (List.mem_append_right _ (List.mem_append_right _ (List.mem_append_right _ (List.mem_append_right _ (List.mem_append_right _ (List.mem_append_right _ (List.mem_append_right _ (List.mem_of_getElem? (i := 63) rfl)))))))))
set_option maxRecDepth 100000 in
theorem l_Lw_117 : Cond.methodLink R_Lw 117 n_C_Lw_feed ∈ gG.1 := List.mem_append_right _ (List.mem_append_right _ (List.mem_append_right _ (List.mem_append_right _ (List.mem_append_right _ (List.mem_append_right _ (List.mem_append_left _ (List.mem_of_getElem? (i := 72) rfl)))))))
set_option maxRecDepth 100000 in
theorem l_Lw_120 : Cond.methodLink R_Lw 120 n_M_feed ∈ gG.1 := List.mem_append_right _ (List.mem_append_right _ (List.mem_append_right _ (List.mem_append_right _ (List.mem_append_right _ (List.mem_append_right _ (List.mem_append_right _ (List.mem_append_right _ (List.mem_append_right _ (List.mem_of_getElem? (i := 67) rfl)))))))))
set_option maxRecDepth 100000 in
theorem l_Lw_121 : Cond.methodLink R_Lw 121 n_C_Lw_end ∈ gG.1 := List.mem_append_right _ (List.mem_append_right _ (List.mem_append_right _ (List.mem_append_right _ (List.mem_append_right _ (List.mem_append_right _ (List.mem_append_left _ (List.mem_of_getElem? (i := 88) rfl)))))))
set_option maxRecDepth 100000 in
theorem l_Lw_124 : Cond.methodLink R_Lw 124 n_M_end ∈ gG.1 := List.mem_append_right _ (List.mem_append_right _ (List.mem_append_right _ (List.mem_append_right _ (List.mem_append_right _ (List.mem_append_right _ (List.mem_append_right _ (List.mem_append_right _ (List.mem_append_right _ (List.mem_of_getElem? (i := 71) rfl)))))))))
set_option maxRecDepth 100000 in
theorem l_Lw_125 : Cond.methodLink R_Lw 125 n_C_Lw_change ∈ gG.1 := List.mem_append_right _ (List.mem_append_right _ (List.mem_append_right _ (List.mem_append_right _ (List.mem_append_right _ (List.mem_append_right _ (List.mem_append_left _ (List.mem_of_getElem? (i := 96) rfl)))))))
set_option maxRecDepth 100000 in
theorem l_Lw_128 : Cond.methodLink R_Lw 128 n_M_change ∈ gG.1 := List.mem_append_right _ (List.mem_append_right _ (List.mem_append_right _ (List.mem_append_right _ (List.mem_append_right _ (List.mem_append_right _ (List.mem_append_right _ (List.mem_append_right _ (List.mem_append_right _ (List.mem_of_getElem? (i := 75) rfl)))))))))
set_option maxRecDepth 100000 in
theorem l_Lw_129 : Cond.methodLink R_Lw 129 n_C_Lw_turn ∈ gG.1 := List.mem_append_right _ (List.mem_append_right _ (List.mem_append_right _ (List.mem_append_right _ (List.mem_append_right _ (List.mem_append_right _ (List.mem_append_left _ (List.mem_of_getElem? (i := 105) rfl)))))))
set_option maxRecDepth 100000 in
theorem l_Lw_132 : Cond.methodLink R_Lw 132 n_M_turn2 ∈ gG.1 := List.mem_append_right _ (List.mem_append_right _ (List.mem_append_right _ (List.mem_append_right _ (List.mem_append_right _ (List.mem_append_right _ (List.mem_append_right _ (List.mem_append_right _ (List.mem_append_right _ (List.mem_of_getElem? (i := 79) rfl)))))))))
set_option maxRecDepth 100000 in
theorem l_Lw_133 : Cond.methodLink R_Lw 133 n_C_B_unpack ∈ gG.1 := List.mem_append_right _ (List.mem_append_right _ (List.mem_append_right _ (List.mem_append_right _ (List.mem_append_left _ (List.mem_of_getElem? (i := 30) rfl)))))
set_option maxRecDepth 100000 in
theorem l_Lw_136 : Cond.methodLink R_Lw 136 n_M_unpack ∈ gG.1 := List.mem_append_right _ (List.mem_append_right _ (List.mem_append_right _ (List.mem_append_right _ (List.mem_append_right _ (List.mem_append_right _ (List.mem_append_right _ (List.mem_append_right _ (List.mem_append_right _ (List.mem_of_getElem? (i := 83) rfl)))))))))
set_option maxRecDepth 100000 in
theorem l_Lw_137 : Cond.methodLink R_Lw 137 n_C_B_place ∈ gG.1 := List.mem_append_right _ (List.mem_append_right _ (List.mem_append_right _ (List.mem_append_right _ (List.mem_append_right _ (List.mem_append_left _ (List.mem_of_getElem? (i := 52) rfl))))))
set_option maxRecDepth 100000 in
theorem l_Lw_140 : Cond.methodLink R_Lw 140 n_M_place ∈ gG.1 := List.mem_append_right _ (List.mem_append_right _ (List.mem_append_right _ (List.mem_append_right _ (List.mem_append_right _ (List.mem_append_right _ (List.mem_append_right _ (List.mem_append_right _ (List.mem_append_right _ (List.mem_of_getElem? (i := 186) rfl)))))))))
set_option maxRecDepth 100000 in
theorem l_Lw_141 : Cond.methodLink R_Lw 141 n_C_Lw_about ∈ gG.1 := List.mem_append_right _ (List.mem_append_right _ (List.mem_append_right _ (List.mem_append_right _ (List.mem_append_right _ (List.mem_append_right _ (List.mem_append_left _ (List.mem_of_getElem? (i := 114) rfl)))))))
set_option maxRecDepth 100000 in
theorem l_Lw_143 : Cond.methodLink R_Lw 143 n_M_about ∈ gG.1 := List.mem_append_right _ (List.mem_append_right _ (List.mem_append_right _ (List.mem_append_right _ (List.mem_append_right _ (List.mem_append_right _ (List.mem_append_right _ (List.mem_append_right _ (List.mem_append_right _ (List.mem_of_getElem? (i := 190) rfl)))))))))
set_option maxRecDepth 100000 in
theorem l_Lw_144 : Cond.methodLink R_Lw 144 n_C_Lw_sample ∈ gG.1 := List.mem_append_right _ (List.mem_append_right _ (List.mem_append_right _ (List.mem_append_right _ (List.mem_append_right _ (List.mem_append_right _ (List.mem_append_left _ (List.mem_of_getElem? (i := 123) rfl)))))))
set_option maxRecDepth 100000 in
theorem l_Lw_146 : Cond.methodLink R_Lw 146 n_M_sample ∈ gG.1 := List.mem_append_right _ (List.mem_append_right _ (List.mem_append_right _ (List.mem_append_right _ (List.mem_append_right _ (List.mem_append_right _ (List.mem_append_right _ (List.mem_append_right _ (List.mem_append_right _ (List.mem_of_getElem? (i := 194) rfl)))))))))
set_option maxRecDepth 100000 in
theorem l_Lw_147 : Cond.methodLink R_Lw 147 n_C_Lw_level ∈ gG.1 := List.mem_append_right _ (List.mem_append_right _ (List.mem_append_right _ (List.mem_append_right _ (List.mem_append_right _ (List.mem_append_right _ (List.mem_append_right _ (List.mem_append_left _ (List.mem_of_getElem? (i := 189) rfl))))))))
set_option maxRecDepth 100000 in
theorem l_Lw_150 : Cond.methodLink R_Lw 150 n_M_level ∈ gG.1 := List.mem_append_right _ (List.mem_append_right _ (List.mem_append_right _ (List.mem_append_right _ (List.mem_append_right _ (List.mem_append_right _ (List.mem_append_right _ (List.mem_append_right _ (List.mem_append_right _ (List.mem_of_getElem? (i := 209) rfl)))))))))
set_option maxRecDepth 100000 in
theorem l_Lw_151 : Cond.methodLink R_Lw 151 n_C_Lw_take ∈ gG.1 := List.mem_append_right _ (List.mem_append_right _ (List.mem_append_right _ (List.mem_append_right _ (List.mem_append_right _ (List.mem_append_right _ (List.mem_append_right _ (List.mem_append_left _ (List.mem_of_getElem? (i := 204) rfl))))))))
set_option maxRecDepth 100000 in
theorem l_Lw_154 : Cond.methodLink R_Lw 154 n_M_take ∈ gG.1 := List.mem_append_right _ (List.mem_append_right _ (List.mem_append_right _ (List.mem_append_right _ (List.mem_append_right _ (List.mem_append_right _ (List.mem_append_right _ (List.mem_append_right _ (List.mem_append_right _ (List.mem_of_getElem? (i := 213) rfl)))))))))
set_option maxRecDepth 100000 in
theorem nn_M : Cond.instantiable R_M 58 ∈ gG.1 := List.mem_append_right _ (List.mem_append_right _ (List.mem_append_right _ (List.mem_append_right _ (List.mem_append_right _ (List.mem_append_right _ (List.mem_append_right _ (List.mem_append_left _ (List.mem_of_getElem? (i := 212) rfl))))))))
theorem tab_out {x : Int32} (h : ∀ k : Fin 19, ¬ x = Int32.ofNat k.val) : x.toInt < 0 ∨ 18 < x.toInt := by
  refine Classical.byContradiction fun hc => ?_
  have h1 : 0 ≤ x.toInt := by omega
  have h2 : x.toInt ≤ 18 := by omega
  exact h ⟨x.toInt.toNat, by omega⟩ (Int32.toInt_inj.mp (by rw [Int32.toInt_ofNat_of_lt (by simp only; omega)]; simp only; omega))
def h_law_0 (U : ut) (n : Nat) (xs : Nat → Int32) (j : Nat) (i : Int32) (S : cs) (M : ms) (R : Nat → Int32 → cs → ms → Prop) : Prop :=
  vp_in (i + 1) n ∧ (vp_in (i + 2) n ∧ (vp_in (i + 3) n ∧ (p_Lw_canvas U 0 (xs (i + 1).toNatClampNeg) (xs (i + 2).toNatClampNeg) (xs (i + 3).toNatClampNeg) S (fun v151 S151 => vp_in (i + 1) n ∧ (vp_in (i + 2) n ∧ (vp_in (i + 3) n ∧ (p_canvas (xs (i + 1).toNatClampNeg) (xs (i + 2).toNatClampNeg) (xs (i + 3).toNatClampNeg) M (fun M175 => p_thrown  M175 (fun v179 M179 => (v179 = v151 → (R (j + 1) (i + 7) S151 M179)) ∧ (¬ (v179 = v151) → False))))))))))
def h_law_1 (U : ut) (n : Nat) (xs : Nat → Int32) (j : Nat) (i : Int32) (S : cs) (M : ms) (R : Nat → Int32 → cs → ms → Prop) : Prop :=
  vp_in (i + 1) n ∧ (vp_in (i + 2) n ∧ (vp_in (i + 3) n ∧ (vp_in (i + 4) n ∧ (vp_in (i + 5) n ∧ (p_Lw_fill U 0 (xs (i + 1).toNatClampNeg) (xs (i + 2).toNatClampNeg) (xs (i + 3).toNatClampNeg) (xs (i + 4).toNatClampNeg) (xs (i + 5).toNatClampNeg) S (fun v223 S223 => vp_in (i + 1) n ∧ (vp_in (i + 2) n ∧ (vp_in (i + 3) n ∧ (vp_in (i + 4) n ∧ (vp_in (i + 5) n ∧ (p_fill (xs (i + 1).toNatClampNeg) (xs (i + 2).toNatClampNeg) (xs (i + 3).toNatClampNeg) (xs (i + 4).toNatClampNeg) (xs (i + 5).toNatClampNeg) M (fun M259 => p_thrown  M259 (fun v263 M263 => (v263 = v223 → (R (j + 1) (i + 7) S223 M263)) ∧ (¬ (v263 = v223) → False))))))))))))))
def h_law_2 (U : ut) (n : Nat) (xs : Nat → Int32) (j : Nat) (i : Int32) (S : cs) (M : ms) (R : Nat → Int32 → cs → ms → Prop) : Prop :=
  vp_in (i + 1) n ∧ (vp_in (i + 2) n ∧ (vp_in (i + 3) n ∧ (vp_in (i + 4) n ∧ (vp_in (i + 5) n ∧ (vp_in (i + 6) n ∧ (p_Lw_slope U 0 (xs (i + 1).toNatClampNeg) (xs (i + 2).toNatClampNeg) (xs (i + 3).toNatClampNeg) (xs (i + 4).toNatClampNeg) (xs (i + 5).toNatClampNeg) (xs (i + 6).toNatClampNeg) S (fun v314 S314 => vp_in (i + 1) n ∧ (vp_in (i + 2) n ∧ (vp_in (i + 3) n ∧ (vp_in (i + 4) n ∧ (vp_in (i + 5) n ∧ (vp_in (i + 6) n ∧ (p_slope (xs (i + 1).toNatClampNeg) (xs (i + 2).toNatClampNeg) (xs (i + 3).toNatClampNeg) (xs (i + 4).toNatClampNeg) (xs (i + 5).toNatClampNeg) (xs (i + 6).toNatClampNeg) M (fun M357 => p_thrown  M357 (fun v361 M361 => (v361 = v314 → (R (j + 1) (i + 7) S314 M361)) ∧ (¬ (v361 = v314) → False))))))))))))))))
def h_law_3 (U : ut) (n : Nat) (xs : Nat → Int32) (j : Nat) (i : Int32) (S : cs) (M : ms) (R : Nat → Int32 → cs → ms → Prop) : Prop :=
  vp_in (i + 1) n ∧ (vp_in (i + 2) n ∧ (vp_in (i + 3) n ∧ (p_Lw_at U 0 (xs (i + 1).toNatClampNeg) (xs (i + 2).toNatClampNeg) (xs (i + 3).toNatClampNeg) 115 S (fun v394 S394 => vp_in (i + 1) n ∧ (vp_in (i + 2) n ∧ (vp_in (i + 3) n ∧ (p_at (xs (i + 1).toNatClampNeg) (xs (i + 2).toNatClampNeg) (xs (i + 3).toNatClampNeg) M (fun v418 M418 => p_thrown  M418 (fun v424 M424 => (v424 = v394 → ((¬ v394 = 0 → (R (j + 1) (i + 7) S394 M424)) ∧ (v394 = 0 → (c_cl U 115 = 904 ∧ vp_in 0 (c_ln U 115) ∧ (((lg_cmp (S394.2.1 115 (0 : Int32).toNatClampNeg) v418.toInt64) = 0 → (R (j + 1) (i + 7) S394 M424)) ∧ (¬ ((lg_cmp (S394.2.1 115 (0 : Int32).toNatClampNeg) v418.toInt64) = 0) → False)))))) ∧ (¬ (v424 = v394) → False))))))))))
def h_law_4 (U : ut) (n : Nat) (xs : Nat → Int32) (j : Nat) (i : Int32) (S : cs) (M : ms) (R : Nat → Int32 → cs → ms → Prop) : Prop :=
  vp_in (i + 1) n ∧ (vp_in (i + 2) n ∧ (vp_in (i + 3) n ∧ (p_Lw_scale U 0 (xs (i + 1).toNatClampNeg) (xs (i + 2).toNatClampNeg) (xs (i + 3).toNatClampNeg) S (fun v473 S473 => vp_in (i + 1) n ∧ (vp_in (i + 2) n ∧ (vp_in (i + 3) n ∧ (p_scale (xs (i + 1).toNatClampNeg) (xs (i + 2).toNatClampNeg) (xs (i + 3).toNatClampNeg) M (fun M497 => p_thrown  M497 (fun v501 M501 => (v501 = v473 → (R (j + 1) (i + 7) S473 M501)) ∧ (¬ (v501 = v473) → False))))))))))
def h_law_5 (U : ut) (n : Nat) (xs : Nat → Int32) (j : Nat) (i : Int32) (S : cs) (M : ms) (R : Nat → Int32 → cs → ms → Prop) : Prop :=
  vp_in (i + 1) n ∧ (vp_in (i + 2) n ∧ (vp_in (i + 3) n ∧ (vp_in (i + 4) n ∧ (p_Lw_entry U 0 (xs (i + 1).toNatClampNeg) (xs (i + 2).toNatClampNeg) (xs (i + 3).toNatClampNeg) (xs (i + 4).toNatClampNeg) S (fun v539 S539 => vp_in (i + 1) n ∧ (vp_in (i + 2) n ∧ (vp_in (i + 3) n ∧ (vp_in (i + 4) n ∧ (p_entry (xs (i + 1).toNatClampNeg) (xs (i + 2).toNatClampNeg) (xs (i + 3).toNatClampNeg) (xs (i + 4).toNatClampNeg) M (fun M569 => p_thrown  M569 (fun v573 M573 => (v573 = v539 → (R (j + 1) (i + 7) S539 M573)) ∧ (¬ (v573 = v539) → False))))))))))))
def h_law_6 (U : ut) (n : Nat) (xs : Nat → Int32) (j : Nat) (i : Int32) (S : cs) (M : ms) (R : Nat → Int32 → cs → ms → Prop) : Prop :=
  vp_in (i + 1) n ∧ (vp_in (i + 2) n ∧ (vp_in (i + 3) n ∧ (p_Lw_pack U 0 (xs (i + 1).toNatClampNeg) (xs (i + 2).toNatClampNeg) (xs (i + 3).toNatClampNeg) 115 S (fun v606 S606 => vp_in (i + 1) n ∧ (vp_in (i + 2) n ∧ (vp_in (i + 3) n ∧ (p_pack (xs (i + 1).toNatClampNeg) (xs (i + 2).toNatClampNeg) (xs (i + 3).toNatClampNeg) M (fun v630 M630 => p_thrown  M630 (fun v636 M636 => (v636 = v606 → ((¬ v606 = 0 → (R (j + 1) (i + 7) S606 M636)) ∧ (v606 = 0 → (c_cl U 115 = 904 ∧ vp_in 0 (c_ln U 115) ∧ (((lg_cmp (S606.2.1 115 (0 : Int32).toNatClampNeg) v630.toInt64) = 0 → (R (j + 1) (i + 7) S606 M636)) ∧ (¬ ((lg_cmp (S606.2.1 115 (0 : Int32).toNatClampNeg) v630.toInt64) = 0) → False)))))) ∧ (¬ (v636 = v606) → False))))))))))
def h_law_7 (U : ut) (n : Nat) (xs : Nat → Int32) (j : Nat) (i : Int32) (S : cs) (M : ms) (R : Nat → Int32 → cs → ms → Prop) : Prop :=
  p_B_size U 0 S (fun v667 S667 => p_size  M (fun v671 M671 => (v667 = v671 → (R (j + 1) (i + 7) S667 M671)) ∧ (¬ (v667 = v671) → False)))
def h_law_8 (U : ut) (n : Nat) (xs : Nat → Int32) (j : Nat) (i : Int32) (S : cs) (M : ms) (R : Nat → Int32 → cs → ms → Prop) : Prop :=
  vp_in (i + 1) n ∧ (p_Lw_out U 0 (xs (i + 1).toNatClampNeg) 115 S (fun v687 S687 => vp_in (i + 1) n ∧ (p_out (xs (i + 1).toNatClampNeg) M (fun v699 M699 => p_thrown  M699 (fun v705 M705 => (v705 = v687 → ((¬ v687 = 0 → (R (j + 1) (i + 7) S687 M705)) ∧ (v687 = 0 → (c_cl U 115 = 904 ∧ vp_in 0 (c_ln U 115) ∧ (((lg_cmp (S687.2.1 115 (0 : Int32).toNatClampNeg) v699.toInt64) = 0 → (R (j + 1) (i + 7) S687 M705)) ∧ (¬ ((lg_cmp (S687.2.1 115 (0 : Int32).toNatClampNeg) v699.toInt64) = 0) → False)))))) ∧ (¬ (v705 = v687) → False))))))
def h_law_9 (U : ut) (n : Nat) (xs : Nat → Int32) (j : Nat) (i : Int32) (S : cs) (M : ms) (R : Nat → Int32 → cs → ms → Prop) : Prop :=
  vp_in (i + 1) n ∧ (vp_in (i + 2) n ∧ (vp_in (i + 3) n ∧ (vp_in (i + 4) n ∧ (vp_in (i + 5) n ∧ (p_Lw_feed U 0 (xs (i + 1).toNatClampNeg) (xs (i + 2).toNatClampNeg) (xs (i + 3).toNatClampNeg) (xs (i + 4).toNatClampNeg) (xs (i + 5).toNatClampNeg) 115 S (fun v767 S767 => vp_in (i + 1) n ∧ (vp_in (i + 2) n ∧ (vp_in (i + 3) n ∧ (vp_in (i + 4) n ∧ (vp_in (i + 5) n ∧ (p_feed (xs (i + 1).toNatClampNeg) (xs (i + 2).toNatClampNeg) (xs (i + 3).toNatClampNeg) (xs (i + 4).toNatClampNeg) (xs (i + 5).toNatClampNeg) M (fun v803 M803 => p_thrown  M803 (fun v809 M809 => (v809 = v767 → ((¬ v767 = 0 → (R (j + 1) (i + 7) S767 M809)) ∧ (v767 = 0 → (c_cl U 115 = 904 ∧ vp_in 0 (c_ln U 115) ∧ (((lg_cmp (S767.2.1 115 (0 : Int32).toNatClampNeg) v803.toInt64) = 0 → (R (j + 1) (i + 7) S767 M809)) ∧ (¬ ((lg_cmp (S767.2.1 115 (0 : Int32).toNatClampNeg) v803.toInt64) = 0) → False)))))) ∧ (¬ (v809 = v767) → False))))))))))))))
def h_law_10 (U : ut) (n : Nat) (xs : Nat → Int32) (j : Nat) (i : Int32) (S : cs) (M : ms) (R : Nat → Int32 → cs → ms → Prop) : Prop :=
  vp_in (i + 1) n ∧ (p_Lw_end U 0 (xs (i + 1).toNatClampNeg) S (fun v846 S846 => vp_in (i + 1) n ∧ (p_end (xs (i + 1).toNatClampNeg) M (fun M858 => p_thrown  M858 (fun v862 M862 => (v862 = v846 → (R (j + 1) (i + 7) S846 M862)) ∧ (¬ (v862 = v846) → False))))))
def h_law_11 (U : ut) (n : Nat) (xs : Nat → Int32) (j : Nat) (i : Int32) (S : cs) (M : ms) (R : Nat → Int32 → cs → ms → Prop) : Prop :=
  vp_in (i + 1) n ∧ (vp_in (i + 2) n ∧ (p_Lw_change U 0 (xs (i + 1).toNatClampNeg) (xs (i + 2).toNatClampNeg) 115 S (fun v889 S889 => vp_in (i + 1) n ∧ (vp_in (i + 2) n ∧ (p_change (xs (i + 1).toNatClampNeg) (xs (i + 2).toNatClampNeg) M (fun v907 M907 => p_thrown  M907 (fun v913 M913 => (v913 = v889 → ((¬ v889 = 0 → (R (j + 1) (i + 7) S889 M913)) ∧ (v889 = 0 → (c_cl U 115 = 904 ∧ vp_in 0 (c_ln U 115) ∧ (((lg_cmp (S889.2.1 115 (0 : Int32).toNatClampNeg) v907.toInt64) = 0 → (R (j + 1) (i + 7) S889 M913)) ∧ (¬ ((lg_cmp (S889.2.1 115 (0 : Int32).toNatClampNeg) v907.toInt64) = 0) → False)))))) ∧ (¬ (v913 = v889) → False))))))))
def h_law_12 (U : ut) (n : Nat) (xs : Nat → Int32) (j : Nat) (i : Int32) (S : cs) (M : ms) (R : Nat → Int32 → cs → ms → Prop) : Prop :=
  p_Lw_turn U 0 115 S (fun v945 S945 => p_turn2  M (fun v951 M951 => p_thrown  M951 (fun v957 M957 => (v957 = v945 → ((¬ v945 = 0 → (R (j + 1) (i + 7) S945 M957)) ∧ (v945 = 0 → (c_cl U 115 = 904 ∧ vp_in 0 (c_ln U 115) ∧ (((lg_cmp (S945.2.1 115 (0 : Int32).toNatClampNeg) v951.toInt64) = 0 → (R (j + 1) (i + 7) S945 M957)) ∧ (¬ ((lg_cmp (S945.2.1 115 (0 : Int32).toNatClampNeg) v951.toInt64) = 0) → False)))))) ∧ (¬ (v957 = v945) → False))))
def h_law_13 (U : ut) (n : Nat) (xs : Nat → Int32) (j : Nat) (i : Int32) (S : cs) (M : ms) (R : Nat → Int32 → cs → ms → Prop) : Prop :=
  p_B_unpack U 0 S (fun v988 S988 => p_unpack  M (fun v992 M992 => (v988 = v992 → (R (j + 1) (i + 7) S988 M992)) ∧ (¬ (v988 = v992) → False)))
def h_law_14 (U : ut) (n : Nat) (xs : Nat → Int32) (j : Nat) (i : Int32) (S : cs) (M : ms) (R : Nat → Int32 → cs → ms → Prop) : Prop :=
  p_B_place U 0 S (fun v1001 S1001 => p_place  M (fun v1005 M1005 => (v1001 = v1005 → (R (j + 1) (i + 7) S1001 M1005)) ∧ (¬ (v1001 = v1005) → False)))
def h_law_15 (U : ut) (n : Nat) (xs : Nat → Int32) (j : Nat) (i : Int32) (S : cs) (M : ms) (R : Nat → Int32 → cs → ms → Prop) : Prop :=
  vp_in (i + 1) n ∧ (p_Lw_about U 0 (xs (i + 1).toNatClampNeg) 115 S (fun v1021 S1021 => vp_in (i + 1) n ∧ (p_about (xs (i + 1).toNatClampNeg) M (fun v1033 M1033 => p_thrown  M1033 (fun v1039 M1039 => (v1039 = v1021 → ((¬ v1021 = 0 → (R (j + 1) (i + 7) S1021 M1039)) ∧ (v1021 = 0 → (c_cl U 115 = 904 ∧ vp_in 0 (c_ln U 115) ∧ (((lg_cmp (S1021.2.1 115 (0 : Int32).toNatClampNeg) v1033.toInt64) = 0 → (R (j + 1) (i + 7) S1021 M1039)) ∧ (¬ ((lg_cmp (S1021.2.1 115 (0 : Int32).toNatClampNeg) v1033.toInt64) = 0) → False)))))) ∧ (¬ (v1039 = v1021) → False))))))
def h_law_16 (U : ut) (n : Nat) (xs : Nat → Int32) (j : Nat) (i : Int32) (S : cs) (M : ms) (R : Nat → Int32 → cs → ms → Prop) : Prop :=
  vp_in (i + 1) n ∧ (vp_in (i + 2) n ∧ (vp_in (i + 3) n ∧ (p_Lw_sample U 0 (xs (i + 1).toNatClampNeg) (xs (i + 2).toNatClampNeg) (xs (i + 3).toNatClampNeg) 115 S (fun v1089 S1089 => vp_in (i + 1) n ∧ (vp_in (i + 2) n ∧ (vp_in (i + 3) n ∧ (p_sample (xs (i + 1).toNatClampNeg) (xs (i + 2).toNatClampNeg) (xs (i + 3).toNatClampNeg) M (fun v1113 M1113 => p_thrown  M1113 (fun v1119 M1119 => (v1119 = v1089 → ((¬ v1089 = 0 → (R (j + 1) (i + 7) S1089 M1119)) ∧ (v1089 = 0 → (c_cl U 115 = 904 ∧ vp_in 0 (c_ln U 115) ∧ (((lg_cmp (S1089.2.1 115 (0 : Int32).toNatClampNeg) v1113.toInt64) = 0 → (R (j + 1) (i + 7) S1089 M1119)) ∧ (¬ ((lg_cmp (S1089.2.1 115 (0 : Int32).toNatClampNeg) v1113.toInt64) = 0) → False)))))) ∧ (¬ (v1119 = v1089) → False))))))))))
def h_law_17 (U : ut) (n : Nat) (xs : Nat → Int32) (j : Nat) (i : Int32) (S : cs) (M : ms) (R : Nat → Int32 → cs → ms → Prop) : Prop :=
  vp_in (i + 1) n ∧ (vp_in (i + 2) n ∧ (vp_in (i + 3) n ∧ (vp_in (i + 4) n ∧ (p_Lw_level U 0 (xs (i + 1).toNatClampNeg) (xs (i + 2).toNatClampNeg) (xs (i + 3).toNatClampNeg) (xs (i + 4).toNatClampNeg) 115 S (fun v1175 S1175 => vp_in (i + 1) n ∧ (vp_in (i + 2) n ∧ (vp_in (i + 3) n ∧ (vp_in (i + 4) n ∧ (p_level (xs (i + 1).toNatClampNeg) (xs (i + 2).toNatClampNeg) (xs (i + 3).toNatClampNeg) (xs (i + 4).toNatClampNeg) M (fun v1205 M1205 => p_thrown  M1205 (fun v1211 M1211 => (v1211 = v1175 → ((¬ v1175 = 0 → (R (j + 1) (i + 7) S1175 M1211)) ∧ (v1175 = 0 → (c_cl U 115 = 904 ∧ vp_in 0 (c_ln U 115) ∧ (((lg_cmp (S1175.2.1 115 (0 : Int32).toNatClampNeg) v1205.toInt64) = 0 → (R (j + 1) (i + 7) S1175 M1211)) ∧ (¬ ((lg_cmp (S1175.2.1 115 (0 : Int32).toNatClampNeg) v1205.toInt64) = 0) → False)))))) ∧ (¬ (v1211 = v1175) → False))))))))))))
def h_law_18 (U : ut) (n : Nat) (xs : Nat → Int32) (j : Nat) (i : Int32) (S : cs) (M : ms) (R : Nat → Int32 → cs → ms → Prop) : Prop :=
  p_Lw_take U 0 S (fun v1242 S1242 => p_take  M (fun M1248 => p_thrown  M1248 (fun v1252 M1252 => (v1252 = v1242 → (R (j + 1) (i + 7) S1242 M1252)) ∧ (¬ (v1252 = v1242) → False))))
def h_law_d (U : ut) (n : Nat) (xs : Nat → Int32) (j : Nat) (i : Int32) (S : cs) (M : ms) (R : Nat → Int32 → cs → ms → Prop) : Prop :=
  R (j + 1) (i + 7) S M
def b_law (U : ut) (n : Nat) (xs : Nat → Int32) (j : Nat) (i : Int32) (S : cs) (M : ms) (R : Nat → Int32 → cs → ms → Prop) : Prop :=
  ¬ (Int32.ofNat n - 7 < i) → j ≤ 511 ∧ vp_in i n ∧ ((xs i.toNatClampNeg &&& 31) = 0 → h_law_0 U n xs j i S M R) ∧ ((xs i.toNatClampNeg &&& 31) = 1 → h_law_1 U n xs j i S M R) ∧ ((xs i.toNatClampNeg &&& 31) = 2 → h_law_2 U n xs j i S M R) ∧ ((xs i.toNatClampNeg &&& 31) = 3 → h_law_3 U n xs j i S M R) ∧ ((xs i.toNatClampNeg &&& 31) = 4 → h_law_4 U n xs j i S M R) ∧ ((xs i.toNatClampNeg &&& 31) = 5 → h_law_5 U n xs j i S M R) ∧ ((xs i.toNatClampNeg &&& 31) = 6 → h_law_6 U n xs j i S M R) ∧ ((xs i.toNatClampNeg &&& 31) = 7 → h_law_7 U n xs j i S M R) ∧ ((xs i.toNatClampNeg &&& 31) = 8 → h_law_8 U n xs j i S M R) ∧ ((xs i.toNatClampNeg &&& 31) = 9 → h_law_9 U n xs j i S M R) ∧ ((xs i.toNatClampNeg &&& 31) = 10 → h_law_10 U n xs j i S M R) ∧ ((xs i.toNatClampNeg &&& 31) = 11 → h_law_11 U n xs j i S M R) ∧ ((xs i.toNatClampNeg &&& 31) = 12 → h_law_12 U n xs j i S M R) ∧ ((xs i.toNatClampNeg &&& 31) = 13 → h_law_13 U n xs j i S M R) ∧ ((xs i.toNatClampNeg &&& 31) = 14 → h_law_14 U n xs j i S M R) ∧ ((xs i.toNatClampNeg &&& 31) = 15 → h_law_15 U n xs j i S M R) ∧ ((xs i.toNatClampNeg &&& 31) = 16 → h_law_16 U n xs j i S M R) ∧ ((xs i.toNatClampNeg &&& 31) = 17 → h_law_17 U n xs j i S M R) ∧ ((xs i.toNatClampNeg &&& 31) = 18 → h_law_18 U n xs j i S M R) ∧ ((∀ k : Fin 19, ¬ (xs i.toNatClampNeg &&& 31) = Int32.ofNat k.val) → h_law_d U n xs j i S M R)
def e_law (U : ut) (n : Nat) (xs : Nat → Int32) (j : Nat) (i : Int32) (S : cs) (M : ms) : Prop :=
  ∃ (I : Nat → Int32 → cs → ms → Prop) (μ : Nat → Int32 → cs → ms → Nat), I j i S M ∧ ∀ j i S M, I j i S M → b_law U n xs j i S M (fun j' i' S' M' => I j' i' S' M' ∧ μ j' i' S' M' < μ j i S M)
section LAWW
variable {D : va_G} {z : Nat → ClassId} {A : Nat → Prop} {X : cx} {b n : Nat} {xs : Nat → Int32} {U : ut} {oa : Nat → Nat} {o : Nat} {ad : Nat → Nat}
set_option maxRecDepth 100000 in
set_option maxHeartbeats 1000000 in
theorem sh_law_0 (C : fcx gG D z A X R_Lw code 7 ret) (hfl : X.2.1.flags = pinnedFlags ++ [noTraceFlag]) (hR : X.2.2.2.1 = room_1) (hX : va_X b n xs X.2.2.2.2.1 X.2.2.2.2.1.heap) (hbl : b < X.2.2.2.2.1.heap.size) (hbA : ¬ A b) (hQ : X.2.2.2.2.2.2.2.2.2.2 = eQ gG D z X.2.2.2.2.2.2.2.1 X.2.2.2.2.1 [] 600001 7302226 (fun o _ => o = .returned (some (.int 1)))) (hA : A = owA gG [] X.2.2.2.2.1.heap.size) (hu0 : c_cl U 0 = 1) {R : Nat → Int32 → cs → ms → Prop} (j : Nat) (i : Int32) (S : cs) (M : ms) (hj : j ≤ 511) (hRR : ∀ (j : Nat) (i : Int32) (S : cs) (M : ms), j ≤ 512 → R j i S M → aw gG D z A X 7 23 [some (.ref b), some (.ref (oa 0)), some (.ref o), some (.ref (oa 115)), some (.int i), none, none] [] (lW U oa S o ad M) (155 + j) (395046 + 6 * j)) (hp : h_law_0 U n xs j i S M R) : aw gG D z A X 7 132 [some (.ref b), some (.ref (oa 0)), some (.ref o), some (.ref (oa 115)), some (.int i), none, none] [] (lW U oa S o ad M) (155 + j) (395046 + 6 * j) := by
  unfold h_law_0 at hp
  refine a_aload_n C dl_132 rfl rfl ?_
  refine a_aload_n C dl_133 rfl rfl ?_
  refine a_iload C dl_134 rfl ?_
  refine a_iconst (v := 1) C dl_136 (by decide) ?_
  refine a_iadd C dl_137 ?_
  refine l_sld C hX hbl hbA dl_138 hp.1 ?_
  have hp := hp.2
  refine a_aload_n C dl_139 rfl rfl ?_
  refine a_iload C dl_140 rfl ?_
  refine a_iconst (v := 2) C dl_142 (by decide) ?_
  refine a_iadd C dl_143 ?_
  refine l_sld C hX hbl hbA dl_144 hp.1 ?_
  have hp := hp.2
  refine a_aload_n C dl_145 rfl rfl ?_
  refine a_iload C dl_146 rfl ?_
  refine a_iconst (v := 3) C dl_148 (by decide) ?_
  refine a_iadd C dl_149 ?_
  refine l_sld C hX hbl hbA dl_150 hp.1 ?_
  have hp := hp.2
  refine l_callW (rest := []) (av := [.ref (oa 0), .int (xs (i + 1).toNatClampNeg), .int (xs (i + 2).toNatClampNeg), .int (xs (i + 3).toNatClampNeg)]) C dl_151 (ct_Lw_canvas 0 (xs (i + 1).toNatClampNeg) (xs (i + 2).toNatClampNeg) (xs (i + 3).toNatClampNeg) S hfl hp) cd_C_Lw_canvas i_Lw (Nat.le_of_ble_eq_true rfl) (by rw [hR]; exact Nat.le_of_ble_eq_true rfl) (by rw [hR]; exact Nat.le_of_ble_eq_true rfl) (by rw [hR]; simp only [room_1]; omega) (by rw [hR]; simp only [room_1]; omega) (inv_SW C dl_151 l_Lw_78 st_C_Lw_canvas i_Lw cd_C_Lw_canvas ⟨by decide, by decide⟩ ln_C_Lw_canvas rfl) (fun v151 S151 hp => ?_)
  refine a_istore (lo' := [some (.ref b), some (.ref (oa 0)), some (.ref o), some (.ref (oa 115)), some (.int i), some (.int v151), none]) C dl_154 (by decide) rfl ?_
  refine a_aload_n C dl_156 rfl rfl ?_
  refine a_aload_n C dl_157 rfl rfl ?_
  refine a_iload C dl_158 rfl ?_
  refine a_iconst (v := 1) C dl_160 (by decide) ?_
  refine a_iadd C dl_161 ?_
  refine l_sld C hX hbl hbA dl_162 hp.1 ?_
  have hp := hp.2
  refine a_aload_n C dl_163 rfl rfl ?_
  refine a_iload C dl_164 rfl ?_
  refine a_iconst (v := 2) C dl_166 (by decide) ?_
  refine a_iadd C dl_167 ?_
  refine l_sld C hX hbl hbA dl_168 hp.1 ?_
  have hp := hp.2
  refine a_aload_n C dl_169 rfl rfl ?_
  refine a_iload C dl_170 rfl ?_
  refine a_iconst (v := 3) C dl_172 (by decide) ?_
  refine a_iadd C dl_173 ?_
  refine l_sld C hX hbl hbA dl_174 hp.1 ?_
  have hp := hp.2
  refine l_callMv (rest := []) (av := .ref o :: [.int (xs (i + 1).toNatClampNeg), .int (xs (i + 2).toNatClampNeg), .int (xs (i + 3).toNatClampNeg)]) C dl_175 (ct_canvas (xs (i + 1).toNatClampNeg) (xs (i + 2).toNatClampNeg) (xs (i + 3).toNatClampNeg) M hp) cd_M_canvas i_M (Nat.le_of_ble_eq_true rfl) (by rw [hR]; exact Nat.le_of_ble_eq_true rfl) (by rw [hR]; exact Nat.le_of_ble_eq_true rfl) (by rw [hR]; simp only [room_1]; omega) (by rw [hR]; simp only [room_1]; omega) (inv_V C 0 dl_175 l_Lw_83 im_M_canvas se_M_canvas cd_M_canvas ⟨by decide, by decide⟩ ln_M_canvas rfl rfl rfl rfl rfl) (fun M175 hp => ?_)
  refine a_aload_n C dl_178 rfl rfl ?_
  refine l_callMi (rest := []) (av := .ref o :: []) C dl_179 (ct_thrown  M175 hp) cd_M_thrown i_M (Nat.le_of_ble_eq_true rfl) (by rw [hR]; exact Nat.le_of_ble_eq_true rfl) (by rw [hR]; exact Nat.le_of_ble_eq_true rfl) (by rw [hR]; simp only [room_1]; omega) (by rw [hR]; simp only [room_1]; omega) (inv_V C 0 dl_179 l_Lw_84 im_M_thrown se_M_thrown cd_M_thrown ⟨by decide, by decide⟩ ln_M_thrown rfl rfl rfl rfl rfl) (fun v179 M179 hp => ?_)
  refine a_iload C dl_182 rfl ?_
  refine a_icmp_eq (tgt := 189) C dl_184 (by decide) ⟨fun hc => ?_, fun hc => ?_⟩
  · have hp := hp.1 hc
    refine a_goto (tgt := 1265) C dl_189 (by decide) ?_
    refine a_iinc (v := i + 7) (lo' := [some (.ref b), some (.ref (oa 0)), some (.ref o), some (.ref (oa 115)), some (.int (i + 7)), some (.int v151), none]) C dl_1265 rfl rfl (by decide) rfl ?_
    refine a_goto (tgt := 23) C dl_1268 (by decide) ?_
    refine aw_lo (lo' := [some (.ref b), some (.ref (oa 0)), some (.ref o), some (.ref (oa 115)), some (.int (i + 7)), none, none]) ⟨.inr rfl, .inr rfl, .inr rfl, .inr rfl, .inr rfl, .inl rfl, .inr rfl, trivial⟩ ?_
    refine aw_widen (nc' := 155 + (j + 1)) (ns' := 395046 + 6 * (j + 1)) (by omega) (by omega) ?_
    exact hRR _ _ _ _ (by omega) hp
  · have hp := hp.2 hc
    exact hp.elim
set_option maxRecDepth 100000 in
set_option maxHeartbeats 1000000 in
theorem sh_law_1 (C : fcx gG D z A X R_Lw code 7 ret) (hfl : X.2.1.flags = pinnedFlags ++ [noTraceFlag]) (hR : X.2.2.2.1 = room_1) (hX : va_X b n xs X.2.2.2.2.1 X.2.2.2.2.1.heap) (hbl : b < X.2.2.2.2.1.heap.size) (hbA : ¬ A b) (hQ : X.2.2.2.2.2.2.2.2.2.2 = eQ gG D z X.2.2.2.2.2.2.2.1 X.2.2.2.2.1 [] 600001 7302226 (fun o _ => o = .returned (some (.int 1)))) (hA : A = owA gG [] X.2.2.2.2.1.heap.size) (hu0 : c_cl U 0 = 1) {R : Nat → Int32 → cs → ms → Prop} (j : Nat) (i : Int32) (S : cs) (M : ms) (hj : j ≤ 511) (hRR : ∀ (j : Nat) (i : Int32) (S : cs) (M : ms), j ≤ 512 → R j i S M → aw gG D z A X 7 23 [some (.ref b), some (.ref (oa 0)), some (.ref o), some (.ref (oa 115)), some (.int i), none, none] [] (lW U oa S o ad M) (155 + j) (395046 + 6 * j)) (hp : h_law_1 U n xs j i S M R) : aw gG D z A X 7 192 [some (.ref b), some (.ref (oa 0)), some (.ref o), some (.ref (oa 115)), some (.int i), none, none] [] (lW U oa S o ad M) (155 + j) (395046 + 6 * j) := by
  unfold h_law_1 at hp
  refine a_aload_n C dl_192 rfl rfl ?_
  refine a_aload_n C dl_193 rfl rfl ?_
  refine a_iload C dl_194 rfl ?_
  refine a_iconst (v := 1) C dl_196 (by decide) ?_
  refine a_iadd C dl_197 ?_
  refine l_sld C hX hbl hbA dl_198 hp.1 ?_
  have hp := hp.2
  refine a_aload_n C dl_199 rfl rfl ?_
  refine a_iload C dl_200 rfl ?_
  refine a_iconst (v := 2) C dl_202 (by decide) ?_
  refine a_iadd C dl_203 ?_
  refine l_sld C hX hbl hbA dl_204 hp.1 ?_
  have hp := hp.2
  refine a_aload_n C dl_205 rfl rfl ?_
  refine a_iload C dl_206 rfl ?_
  refine a_iconst (v := 3) C dl_208 (by decide) ?_
  refine a_iadd C dl_209 ?_
  refine l_sld C hX hbl hbA dl_210 hp.1 ?_
  have hp := hp.2
  refine a_aload_n C dl_211 rfl rfl ?_
  refine a_iload C dl_212 rfl ?_
  refine a_iconst (v := 4) C dl_214 (by decide) ?_
  refine a_iadd C dl_215 ?_
  refine l_sld C hX hbl hbA dl_216 hp.1 ?_
  have hp := hp.2
  refine a_aload_n C dl_217 rfl rfl ?_
  refine a_iload C dl_218 rfl ?_
  refine a_iconst (v := 5) C dl_220 (by decide) ?_
  refine a_iadd C dl_221 ?_
  refine l_sld C hX hbl hbA dl_222 hp.1 ?_
  have hp := hp.2
  refine l_callW (rest := []) (av := [.ref (oa 0), .int (xs (i + 1).toNatClampNeg), .int (xs (i + 2).toNatClampNeg), .int (xs (i + 3).toNatClampNeg), .int (xs (i + 4).toNatClampNeg), .int (xs (i + 5).toNatClampNeg)]) C dl_223 (ct_Lw_fill 0 (xs (i + 1).toNatClampNeg) (xs (i + 2).toNatClampNeg) (xs (i + 3).toNatClampNeg) (xs (i + 4).toNatClampNeg) (xs (i + 5).toNatClampNeg) S hfl hp) cd_C_Lw_fill i_Lw (Nat.le_of_ble_eq_true rfl) (by rw [hR]; exact Nat.le_of_ble_eq_true rfl) (by rw [hR]; exact Nat.le_of_ble_eq_true rfl) (by rw [hR]; simp only [room_1]; omega) (by rw [hR]; simp only [room_1]; omega) (inv_SW C dl_223 l_Lw_87 st_C_Lw_fill i_Lw cd_C_Lw_fill ⟨by decide, by decide⟩ ln_C_Lw_fill rfl) (fun v223 S223 hp => ?_)
  refine a_istore (lo' := [some (.ref b), some (.ref (oa 0)), some (.ref o), some (.ref (oa 115)), some (.int i), some (.int v223), none]) C dl_226 (by decide) rfl ?_
  refine a_aload_n C dl_228 rfl rfl ?_
  refine a_aload_n C dl_229 rfl rfl ?_
  refine a_iload C dl_230 rfl ?_
  refine a_iconst (v := 1) C dl_232 (by decide) ?_
  refine a_iadd C dl_233 ?_
  refine l_sld C hX hbl hbA dl_234 hp.1 ?_
  have hp := hp.2
  refine a_aload_n C dl_235 rfl rfl ?_
  refine a_iload C dl_236 rfl ?_
  refine a_iconst (v := 2) C dl_238 (by decide) ?_
  refine a_iadd C dl_239 ?_
  refine l_sld C hX hbl hbA dl_240 hp.1 ?_
  have hp := hp.2
  refine a_aload_n C dl_241 rfl rfl ?_
  refine a_iload C dl_242 rfl ?_
  refine a_iconst (v := 3) C dl_244 (by decide) ?_
  refine a_iadd C dl_245 ?_
  refine l_sld C hX hbl hbA dl_246 hp.1 ?_
  have hp := hp.2
  refine a_aload_n C dl_247 rfl rfl ?_
  refine a_iload C dl_248 rfl ?_
  refine a_iconst (v := 4) C dl_250 (by decide) ?_
  refine a_iadd C dl_251 ?_
  refine l_sld C hX hbl hbA dl_252 hp.1 ?_
  have hp := hp.2
  refine a_aload_n C dl_253 rfl rfl ?_
  refine a_iload C dl_254 rfl ?_
  refine a_iconst (v := 5) C dl_256 (by decide) ?_
  refine a_iadd C dl_257 ?_
  refine l_sld C hX hbl hbA dl_258 hp.1 ?_
  have hp := hp.2
  refine l_callMv (rest := []) (av := .ref o :: [.int (xs (i + 1).toNatClampNeg), .int (xs (i + 2).toNatClampNeg), .int (xs (i + 3).toNatClampNeg), .int (xs (i + 4).toNatClampNeg), .int (xs (i + 5).toNatClampNeg)]) C dl_259 (ct_fill (xs (i + 1).toNatClampNeg) (xs (i + 2).toNatClampNeg) (xs (i + 3).toNatClampNeg) (xs (i + 4).toNatClampNeg) (xs (i + 5).toNatClampNeg) M hp) cd_M_fill i_M (Nat.le_of_ble_eq_true rfl) (by rw [hR]; exact Nat.le_of_ble_eq_true rfl) (by rw [hR]; exact Nat.le_of_ble_eq_true rfl) (by rw [hR]; simp only [room_1]; omega) (by rw [hR]; simp only [room_1]; omega) (inv_V C 0 dl_259 l_Lw_90 im_M_fill se_M_fill cd_M_fill ⟨by decide, by decide⟩ ln_M_fill rfl rfl rfl rfl rfl) (fun M259 hp => ?_)
  refine a_aload_n C dl_262 rfl rfl ?_
  refine l_callMi (rest := []) (av := .ref o :: []) C dl_263 (ct_thrown  M259 hp) cd_M_thrown i_M (Nat.le_of_ble_eq_true rfl) (by rw [hR]; exact Nat.le_of_ble_eq_true rfl) (by rw [hR]; exact Nat.le_of_ble_eq_true rfl) (by rw [hR]; simp only [room_1]; omega) (by rw [hR]; simp only [room_1]; omega) (inv_V C 0 dl_263 l_Lw_84 im_M_thrown se_M_thrown cd_M_thrown ⟨by decide, by decide⟩ ln_M_thrown rfl rfl rfl rfl rfl) (fun v263 M263 hp => ?_)
  refine a_iload C dl_266 rfl ?_
  refine a_icmp_eq (tgt := 273) C dl_268 (by decide) ⟨fun hc => ?_, fun hc => ?_⟩
  · have hp := hp.1 hc
    refine a_goto (tgt := 1265) C dl_273 (by decide) ?_
    refine a_iinc (v := i + 7) (lo' := [some (.ref b), some (.ref (oa 0)), some (.ref o), some (.ref (oa 115)), some (.int (i + 7)), some (.int v223), none]) C dl_1265 rfl rfl (by decide) rfl ?_
    refine a_goto (tgt := 23) C dl_1268 (by decide) ?_
    refine aw_lo (lo' := [some (.ref b), some (.ref (oa 0)), some (.ref o), some (.ref (oa 115)), some (.int (i + 7)), none, none]) ⟨.inr rfl, .inr rfl, .inr rfl, .inr rfl, .inr rfl, .inl rfl, .inr rfl, trivial⟩ ?_
    refine aw_widen (nc' := 155 + (j + 1)) (ns' := 395046 + 6 * (j + 1)) (by omega) (by omega) ?_
    exact hRR _ _ _ _ (by omega) hp
  · have hp := hp.2 hc
    exact hp.elim
set_option maxRecDepth 100000 in
set_option maxHeartbeats 1000000 in
theorem sh_law_2 (C : fcx gG D z A X R_Lw code 7 ret) (hfl : X.2.1.flags = pinnedFlags ++ [noTraceFlag]) (hR : X.2.2.2.1 = room_1) (hX : va_X b n xs X.2.2.2.2.1 X.2.2.2.2.1.heap) (hbl : b < X.2.2.2.2.1.heap.size) (hbA : ¬ A b) (hQ : X.2.2.2.2.2.2.2.2.2.2 = eQ gG D z X.2.2.2.2.2.2.2.1 X.2.2.2.2.1 [] 600001 7302226 (fun o _ => o = .returned (some (.int 1)))) (hA : A = owA gG [] X.2.2.2.2.1.heap.size) (hu0 : c_cl U 0 = 1) {R : Nat → Int32 → cs → ms → Prop} (j : Nat) (i : Int32) (S : cs) (M : ms) (hj : j ≤ 511) (hRR : ∀ (j : Nat) (i : Int32) (S : cs) (M : ms), j ≤ 512 → R j i S M → aw gG D z A X 7 23 [some (.ref b), some (.ref (oa 0)), some (.ref o), some (.ref (oa 115)), some (.int i), none, none] [] (lW U oa S o ad M) (155 + j) (395046 + 6 * j)) (hp : h_law_2 U n xs j i S M R) : aw gG D z A X 7 276 [some (.ref b), some (.ref (oa 0)), some (.ref o), some (.ref (oa 115)), some (.int i), none, none] [] (lW U oa S o ad M) (155 + j) (395046 + 6 * j) := by
  unfold h_law_2 at hp
  refine a_aload_n C dl_276 rfl rfl ?_
  refine a_aload_n C dl_277 rfl rfl ?_
  refine a_iload C dl_278 rfl ?_
  refine a_iconst (v := 1) C dl_280 (by decide) ?_
  refine a_iadd C dl_281 ?_
  refine l_sld C hX hbl hbA dl_282 hp.1 ?_
  have hp := hp.2
  refine a_aload_n C dl_283 rfl rfl ?_
  refine a_iload C dl_284 rfl ?_
  refine a_iconst (v := 2) C dl_286 (by decide) ?_
  refine a_iadd C dl_287 ?_
  refine l_sld C hX hbl hbA dl_288 hp.1 ?_
  have hp := hp.2
  refine a_aload_n C dl_289 rfl rfl ?_
  refine a_iload C dl_290 rfl ?_
  refine a_iconst (v := 3) C dl_292 (by decide) ?_
  refine a_iadd C dl_293 ?_
  refine l_sld C hX hbl hbA dl_294 hp.1 ?_
  have hp := hp.2
  refine a_aload_n C dl_295 rfl rfl ?_
  refine a_iload C dl_296 rfl ?_
  refine a_iconst (v := 4) C dl_298 (by decide) ?_
  refine a_iadd C dl_299 ?_
  refine l_sld C hX hbl hbA dl_300 hp.1 ?_
  have hp := hp.2
  refine a_aload_n C dl_301 rfl rfl ?_
  refine a_iload C dl_302 rfl ?_
  refine a_iconst (v := 5) C dl_304 (by decide) ?_
  refine a_iadd C dl_305 ?_
  refine l_sld C hX hbl hbA dl_306 hp.1 ?_
  have hp := hp.2
  refine a_aload_n C dl_307 rfl rfl ?_
  refine a_iload C dl_308 rfl ?_
  refine a_bipush (v := 6) C dl_310 (by decide) ?_
  refine a_iadd C dl_312 ?_
  refine l_sld C hX hbl hbA dl_313 hp.1 ?_
  have hp := hp.2
  refine l_callW (rest := []) (av := [.ref (oa 0), .int (xs (i + 1).toNatClampNeg), .int (xs (i + 2).toNatClampNeg), .int (xs (i + 3).toNatClampNeg), .int (xs (i + 4).toNatClampNeg), .int (xs (i + 5).toNatClampNeg), .int (xs (i + 6).toNatClampNeg)]) C dl_314 (ct_Lw_slope 0 (xs (i + 1).toNatClampNeg) (xs (i + 2).toNatClampNeg) (xs (i + 3).toNatClampNeg) (xs (i + 4).toNatClampNeg) (xs (i + 5).toNatClampNeg) (xs (i + 6).toNatClampNeg) S hfl hp) cd_C_Lw_slope i_Lw (Nat.le_of_ble_eq_true rfl) (by rw [hR]; exact Nat.le_of_ble_eq_true rfl) (by rw [hR]; exact Nat.le_of_ble_eq_true rfl) (by rw [hR]; simp only [room_1]; omega) (by rw [hR]; simp only [room_1]; omega) (inv_SW C dl_314 l_Lw_91 st_C_Lw_slope i_Lw cd_C_Lw_slope ⟨by decide, by decide⟩ ln_C_Lw_slope rfl) (fun v314 S314 hp => ?_)
  refine a_istore (lo' := [some (.ref b), some (.ref (oa 0)), some (.ref o), some (.ref (oa 115)), some (.int i), some (.int v314), none]) C dl_317 (by decide) rfl ?_
  refine a_aload_n C dl_319 rfl rfl ?_
  refine a_aload_n C dl_320 rfl rfl ?_
  refine a_iload C dl_321 rfl ?_
  refine a_iconst (v := 1) C dl_323 (by decide) ?_
  refine a_iadd C dl_324 ?_
  refine l_sld C hX hbl hbA dl_325 hp.1 ?_
  have hp := hp.2
  refine a_aload_n C dl_326 rfl rfl ?_
  refine a_iload C dl_327 rfl ?_
  refine a_iconst (v := 2) C dl_329 (by decide) ?_
  refine a_iadd C dl_330 ?_
  refine l_sld C hX hbl hbA dl_331 hp.1 ?_
  have hp := hp.2
  refine a_aload_n C dl_332 rfl rfl ?_
  refine a_iload C dl_333 rfl ?_
  refine a_iconst (v := 3) C dl_335 (by decide) ?_
  refine a_iadd C dl_336 ?_
  refine l_sld C hX hbl hbA dl_337 hp.1 ?_
  have hp := hp.2
  refine a_aload_n C dl_338 rfl rfl ?_
  refine a_iload C dl_339 rfl ?_
  refine a_iconst (v := 4) C dl_341 (by decide) ?_
  refine a_iadd C dl_342 ?_
  refine l_sld C hX hbl hbA dl_343 hp.1 ?_
  have hp := hp.2
  refine a_aload_n C dl_344 rfl rfl ?_
  refine a_iload C dl_345 rfl ?_
  refine a_iconst (v := 5) C dl_347 (by decide) ?_
  refine a_iadd C dl_348 ?_
  refine l_sld C hX hbl hbA dl_349 hp.1 ?_
  have hp := hp.2
  refine a_aload_n C dl_350 rfl rfl ?_
  refine a_iload C dl_351 rfl ?_
  refine a_bipush (v := 6) C dl_353 (by decide) ?_
  refine a_iadd C dl_355 ?_
  refine l_sld C hX hbl hbA dl_356 hp.1 ?_
  have hp := hp.2
  refine l_callMv (rest := []) (av := .ref o :: [.int (xs (i + 1).toNatClampNeg), .int (xs (i + 2).toNatClampNeg), .int (xs (i + 3).toNatClampNeg), .int (xs (i + 4).toNatClampNeg), .int (xs (i + 5).toNatClampNeg), .int (xs (i + 6).toNatClampNeg)]) C dl_357 (ct_slope (xs (i + 1).toNatClampNeg) (xs (i + 2).toNatClampNeg) (xs (i + 3).toNatClampNeg) (xs (i + 4).toNatClampNeg) (xs (i + 5).toNatClampNeg) (xs (i + 6).toNatClampNeg) M hp) cd_M_slope i_M (Nat.le_of_ble_eq_true rfl) (by rw [hR]; exact Nat.le_of_ble_eq_true rfl) (by rw [hR]; exact Nat.le_of_ble_eq_true rfl) (by rw [hR]; simp only [room_1]; omega) (by rw [hR]; simp only [room_1]; omega) (inv_V C 0 dl_357 l_Lw_94 im_M_slope se_M_slope cd_M_slope ⟨by decide, by decide⟩ ln_M_slope rfl rfl rfl rfl rfl) (fun M357 hp => ?_)
  refine a_aload_n C dl_360 rfl rfl ?_
  refine l_callMi (rest := []) (av := .ref o :: []) C dl_361 (ct_thrown  M357 hp) cd_M_thrown i_M (Nat.le_of_ble_eq_true rfl) (by rw [hR]; exact Nat.le_of_ble_eq_true rfl) (by rw [hR]; exact Nat.le_of_ble_eq_true rfl) (by rw [hR]; simp only [room_1]; omega) (by rw [hR]; simp only [room_1]; omega) (inv_V C 0 dl_361 l_Lw_84 im_M_thrown se_M_thrown cd_M_thrown ⟨by decide, by decide⟩ ln_M_thrown rfl rfl rfl rfl rfl) (fun v361 M361 hp => ?_)
  refine a_iload C dl_364 rfl ?_
  refine a_icmp_eq (tgt := 371) C dl_366 (by decide) ⟨fun hc => ?_, fun hc => ?_⟩
  · have hp := hp.1 hc
    refine a_goto (tgt := 1265) C dl_371 (by decide) ?_
    refine a_iinc (v := i + 7) (lo' := [some (.ref b), some (.ref (oa 0)), some (.ref o), some (.ref (oa 115)), some (.int (i + 7)), some (.int v314), none]) C dl_1265 rfl rfl (by decide) rfl ?_
    refine a_goto (tgt := 23) C dl_1268 (by decide) ?_
    refine aw_lo (lo' := [some (.ref b), some (.ref (oa 0)), some (.ref o), some (.ref (oa 115)), some (.int (i + 7)), none, none]) ⟨.inr rfl, .inr rfl, .inr rfl, .inr rfl, .inr rfl, .inl rfl, .inr rfl, trivial⟩ ?_
    refine aw_widen (nc' := 155 + (j + 1)) (ns' := 395046 + 6 * (j + 1)) (by omega) (by omega) ?_
    exact hRR _ _ _ _ (by omega) hp
  · have hp := hp.2 hc
    exact hp.elim
set_option maxRecDepth 100000 in
set_option maxHeartbeats 1000000 in
theorem sh_law_3 (C : fcx gG D z A X R_Lw code 7 ret) (hfl : X.2.1.flags = pinnedFlags ++ [noTraceFlag]) (hR : X.2.2.2.1 = room_1) (hX : va_X b n xs X.2.2.2.2.1 X.2.2.2.2.1.heap) (hbl : b < X.2.2.2.2.1.heap.size) (hbA : ¬ A b) (hQ : X.2.2.2.2.2.2.2.2.2.2 = eQ gG D z X.2.2.2.2.2.2.2.1 X.2.2.2.2.1 [] 600001 7302226 (fun o _ => o = .returned (some (.int 1)))) (hA : A = owA gG [] X.2.2.2.2.1.heap.size) (hu0 : c_cl U 0 = 1) {R : Nat → Int32 → cs → ms → Prop} (j : Nat) (i : Int32) (S : cs) (M : ms) (hj : j ≤ 511) (hRR : ∀ (j : Nat) (i : Int32) (S : cs) (M : ms), j ≤ 512 → R j i S M → aw gG D z A X 7 23 [some (.ref b), some (.ref (oa 0)), some (.ref o), some (.ref (oa 115)), some (.int i), none, none] [] (lW U oa S o ad M) (155 + j) (395046 + 6 * j)) (hp : h_law_3 U n xs j i S M R) : aw gG D z A X 7 374 [some (.ref b), some (.ref (oa 0)), some (.ref o), some (.ref (oa 115)), some (.int i), none, none] [] (lW U oa S o ad M) (155 + j) (395046 + 6 * j) := by
  unfold h_law_3 at hp
  refine a_aload_n C dl_374 rfl rfl ?_
  refine a_aload_n C dl_375 rfl rfl ?_
  refine a_iload C dl_376 rfl ?_
  refine a_iconst (v := 1) C dl_378 (by decide) ?_
  refine a_iadd C dl_379 ?_
  refine l_sld C hX hbl hbA dl_380 hp.1 ?_
  have hp := hp.2
  refine a_aload_n C dl_381 rfl rfl ?_
  refine a_iload C dl_382 rfl ?_
  refine a_iconst (v := 2) C dl_384 (by decide) ?_
  refine a_iadd C dl_385 ?_
  refine l_sld C hX hbl hbA dl_386 hp.1 ?_
  have hp := hp.2
  refine a_aload_n C dl_387 rfl rfl ?_
  refine a_iload C dl_388 rfl ?_
  refine a_iconst (v := 3) C dl_390 (by decide) ?_
  refine a_iadd C dl_391 ?_
  refine l_sld C hX hbl hbA dl_392 hp.1 ?_
  have hp := hp.2
  refine a_aload_n C dl_393 rfl rfl ?_
  refine l_callW (rest := []) (av := [.ref (oa 0), .int (xs (i + 1).toNatClampNeg), .int (xs (i + 2).toNatClampNeg), .int (xs (i + 3).toNatClampNeg), .ref (oa 115)]) C dl_394 (ct_Lw_at 0 (xs (i + 1).toNatClampNeg) (xs (i + 2).toNatClampNeg) (xs (i + 3).toNatClampNeg) 115 S hfl hp) cd_C_Lw_at i_Lw (Nat.le_of_ble_eq_true rfl) (by rw [hR]; exact Nat.le_of_ble_eq_true rfl) (by rw [hR]; exact Nat.le_of_ble_eq_true rfl) (by rw [hR]; simp only [room_1]; omega) (by rw [hR]; simp only [room_1]; omega) (inv_SW C dl_394 l_Lw_95 st_C_Lw_at i_Lw cd_C_Lw_at ⟨by decide, by decide⟩ ln_C_Lw_at rfl) (fun v394 S394 hp => ?_)
  refine a_istore (lo' := [some (.ref b), some (.ref (oa 0)), some (.ref o), some (.ref (oa 115)), some (.int i), some (.int v394), none]) C dl_397 (by decide) rfl ?_
  refine a_aload_n C dl_399 rfl rfl ?_
  refine a_aload_n C dl_400 rfl rfl ?_
  refine a_iload C dl_401 rfl ?_
  refine a_iconst (v := 1) C dl_403 (by decide) ?_
  refine a_iadd C dl_404 ?_
  refine l_sld C hX hbl hbA dl_405 hp.1 ?_
  have hp := hp.2
  refine a_aload_n C dl_406 rfl rfl ?_
  refine a_iload C dl_407 rfl ?_
  refine a_iconst (v := 2) C dl_409 (by decide) ?_
  refine a_iadd C dl_410 ?_
  refine l_sld C hX hbl hbA dl_411 hp.1 ?_
  have hp := hp.2
  refine a_aload_n C dl_412 rfl rfl ?_
  refine a_iload C dl_413 rfl ?_
  refine a_iconst (v := 3) C dl_415 (by decide) ?_
  refine a_iadd C dl_416 ?_
  refine l_sld C hX hbl hbA dl_417 hp.1 ?_
  have hp := hp.2
  refine l_callMi (rest := []) (av := .ref o :: [.int (xs (i + 1).toNatClampNeg), .int (xs (i + 2).toNatClampNeg), .int (xs (i + 3).toNatClampNeg)]) C dl_418 (ct_at (xs (i + 1).toNatClampNeg) (xs (i + 2).toNatClampNeg) (xs (i + 3).toNatClampNeg) M hp) cd_M_at i_M (Nat.le_of_ble_eq_true rfl) (by rw [hR]; exact Nat.le_of_ble_eq_true rfl) (by rw [hR]; exact Nat.le_of_ble_eq_true rfl) (by rw [hR]; simp only [room_1]; omega) (by rw [hR]; simp only [room_1]; omega) (inv_V C 0 dl_418 l_Lw_98 im_M_at se_M_at cd_M_at ⟨by decide, by decide⟩ ln_M_at rfl rfl rfl rfl rfl) (fun v418 M418 hp => ?_)
  refine a_istore (lo' := [some (.ref b), some (.ref (oa 0)), some (.ref o), some (.ref (oa 115)), some (.int i), some (.int v394), some (.int v418)]) C dl_421 (by decide) rfl ?_
  refine a_aload_n C dl_423 rfl rfl ?_
  refine l_callMi (rest := []) (av := .ref o :: []) C dl_424 (ct_thrown  M418 hp) cd_M_thrown i_M (Nat.le_of_ble_eq_true rfl) (by rw [hR]; exact Nat.le_of_ble_eq_true rfl) (by rw [hR]; exact Nat.le_of_ble_eq_true rfl) (by rw [hR]; simp only [room_1]; omega) (by rw [hR]; simp only [room_1]; omega) (inv_V C 0 dl_424 l_Lw_84 im_M_thrown se_M_thrown cd_M_thrown ⟨by decide, by decide⟩ ln_M_thrown rfl rfl rfl rfl rfl) (fun v424 M424 hp => ?_)
  refine a_iload C dl_427 rfl ?_
  refine a_icmp_eq (tgt := 434) C dl_429 (by decide) ⟨fun hc => ?_, fun hc => ?_⟩
  · have hp := hp.1 hc
    refine a_iload C dl_434 rfl ?_
    refine a_if_ne (tgt := 451) C dl_436 (by decide) ⟨fun hc => ?_, fun hc => ?_⟩
    · have hp := hp.1 hc
      refine a_goto (tgt := 1265) C dl_451 (by decide) ?_
      refine a_iinc (v := i + 7) (lo' := [some (.ref b), some (.ref (oa 0)), some (.ref o), some (.ref (oa 115)), some (.int (i + 7)), some (.int v394), some (.int v418)]) C dl_1265 rfl rfl (by decide) rfl ?_
      refine a_goto (tgt := 23) C dl_1268 (by decide) ?_
      refine aw_lo (lo' := [some (.ref b), some (.ref (oa 0)), some (.ref o), some (.ref (oa 115)), some (.int (i + 7)), none, none]) ⟨.inr rfl, .inr rfl, .inr rfl, .inr rfl, .inr rfl, .inl rfl, .inl rfl, trivial⟩ ?_
      refine aw_widen (nc' := 155 + (j + 1)) (ns' := 395046 + 6 * (j + 1)) (by omega) (by omega) ?_
      exact hRR _ _ _ _ (by omega) hp
    · have hp := hp.2 hc
      refine a_aload_n C dl_439 rfl rfl ?_
      refine a_iconst (v := 0) C dl_440 (by decide) ?_
      refine l_lald C 115 dl_441 hp.1 hp.2.1 ?_
      have hp := hp.2.2
      refine a_iload C dl_442 rfl ?_
      refine a_i2l C dl_444 ?_
      refine a_lcmp C dl_445 ?_
      refine a_if_eq (tgt := 451) C dl_446 (by decide) ⟨fun hc => ?_, fun hc => ?_⟩
      · have hp := hp.1 hc
        refine a_goto (tgt := 1265) C dl_451 (by decide) ?_
        refine a_iinc (v := i + 7) (lo' := [some (.ref b), some (.ref (oa 0)), some (.ref o), some (.ref (oa 115)), some (.int (i + 7)), some (.int v394), some (.int v418)]) C dl_1265 rfl rfl (by decide) rfl ?_
        refine a_goto (tgt := 23) C dl_1268 (by decide) ?_
        refine aw_lo (lo' := [some (.ref b), some (.ref (oa 0)), some (.ref o), some (.ref (oa 115)), some (.int (i + 7)), none, none]) ⟨.inr rfl, .inr rfl, .inr rfl, .inr rfl, .inr rfl, .inl rfl, .inl rfl, trivial⟩ ?_
        refine aw_widen (nc' := 155 + (j + 1)) (ns' := 395046 + 6 * (j + 1)) (by omega) (by omega) ?_
        exact hRR _ _ _ _ (by omega) hp
      · have hp := hp.2 hc
        exact hp.elim
  · have hp := hp.2 hc
    exact hp.elim
set_option maxRecDepth 100000 in
set_option maxHeartbeats 1000000 in
theorem sh_law_4 (C : fcx gG D z A X R_Lw code 7 ret) (hfl : X.2.1.flags = pinnedFlags ++ [noTraceFlag]) (hR : X.2.2.2.1 = room_1) (hX : va_X b n xs X.2.2.2.2.1 X.2.2.2.2.1.heap) (hbl : b < X.2.2.2.2.1.heap.size) (hbA : ¬ A b) (hQ : X.2.2.2.2.2.2.2.2.2.2 = eQ gG D z X.2.2.2.2.2.2.2.1 X.2.2.2.2.1 [] 600001 7302226 (fun o _ => o = .returned (some (.int 1)))) (hA : A = owA gG [] X.2.2.2.2.1.heap.size) (hu0 : c_cl U 0 = 1) {R : Nat → Int32 → cs → ms → Prop} (j : Nat) (i : Int32) (S : cs) (M : ms) (hj : j ≤ 511) (hRR : ∀ (j : Nat) (i : Int32) (S : cs) (M : ms), j ≤ 512 → R j i S M → aw gG D z A X 7 23 [some (.ref b), some (.ref (oa 0)), some (.ref o), some (.ref (oa 115)), some (.int i), none, none] [] (lW U oa S o ad M) (155 + j) (395046 + 6 * j)) (hp : h_law_4 U n xs j i S M R) : aw gG D z A X 7 454 [some (.ref b), some (.ref (oa 0)), some (.ref o), some (.ref (oa 115)), some (.int i), none, none] [] (lW U oa S o ad M) (155 + j) (395046 + 6 * j) := by
  unfold h_law_4 at hp
  refine a_aload_n C dl_454 rfl rfl ?_
  refine a_aload_n C dl_455 rfl rfl ?_
  refine a_iload C dl_456 rfl ?_
  refine a_iconst (v := 1) C dl_458 (by decide) ?_
  refine a_iadd C dl_459 ?_
  refine l_sld C hX hbl hbA dl_460 hp.1 ?_
  have hp := hp.2
  refine a_aload_n C dl_461 rfl rfl ?_
  refine a_iload C dl_462 rfl ?_
  refine a_iconst (v := 2) C dl_464 (by decide) ?_
  refine a_iadd C dl_465 ?_
  refine l_sld C hX hbl hbA dl_466 hp.1 ?_
  have hp := hp.2
  refine a_aload_n C dl_467 rfl rfl ?_
  refine a_iload C dl_468 rfl ?_
  refine a_iconst (v := 3) C dl_470 (by decide) ?_
  refine a_iadd C dl_471 ?_
  refine l_sld C hX hbl hbA dl_472 hp.1 ?_
  have hp := hp.2
  refine l_callW (rest := []) (av := [.ref (oa 0), .int (xs (i + 1).toNatClampNeg), .int (xs (i + 2).toNatClampNeg), .int (xs (i + 3).toNatClampNeg)]) C dl_473 (ct_Lw_scale 0 (xs (i + 1).toNatClampNeg) (xs (i + 2).toNatClampNeg) (xs (i + 3).toNatClampNeg) S hfl hp) cd_C_Lw_scale i_Lw (Nat.le_of_ble_eq_true rfl) (by rw [hR]; exact Nat.le_of_ble_eq_true rfl) (by rw [hR]; exact Nat.le_of_ble_eq_true rfl) (by rw [hR]; simp only [room_1]; omega) (by rw [hR]; simp only [room_1]; omega) (inv_SW C dl_473 l_Lw_99 st_C_Lw_scale i_Lw cd_C_Lw_scale ⟨by decide, by decide⟩ ln_C_Lw_scale rfl) (fun v473 S473 hp => ?_)
  refine a_istore (lo' := [some (.ref b), some (.ref (oa 0)), some (.ref o), some (.ref (oa 115)), some (.int i), some (.int v473), none]) C dl_476 (by decide) rfl ?_
  refine a_aload_n C dl_478 rfl rfl ?_
  refine a_aload_n C dl_479 rfl rfl ?_
  refine a_iload C dl_480 rfl ?_
  refine a_iconst (v := 1) C dl_482 (by decide) ?_
  refine a_iadd C dl_483 ?_
  refine l_sld C hX hbl hbA dl_484 hp.1 ?_
  have hp := hp.2
  refine a_aload_n C dl_485 rfl rfl ?_
  refine a_iload C dl_486 rfl ?_
  refine a_iconst (v := 2) C dl_488 (by decide) ?_
  refine a_iadd C dl_489 ?_
  refine l_sld C hX hbl hbA dl_490 hp.1 ?_
  have hp := hp.2
  refine a_aload_n C dl_491 rfl rfl ?_
  refine a_iload C dl_492 rfl ?_
  refine a_iconst (v := 3) C dl_494 (by decide) ?_
  refine a_iadd C dl_495 ?_
  refine l_sld C hX hbl hbA dl_496 hp.1 ?_
  have hp := hp.2
  refine l_callMv (rest := []) (av := .ref o :: [.int (xs (i + 1).toNatClampNeg), .int (xs (i + 2).toNatClampNeg), .int (xs (i + 3).toNatClampNeg)]) C dl_497 (ct_scale (xs (i + 1).toNatClampNeg) (xs (i + 2).toNatClampNeg) (xs (i + 3).toNatClampNeg) M hp) cd_M_scale i_M (Nat.le_of_ble_eq_true rfl) (by rw [hR]; exact Nat.le_of_ble_eq_true rfl) (by rw [hR]; exact Nat.le_of_ble_eq_true rfl) (by rw [hR]; simp only [room_1]; omega) (by rw [hR]; simp only [room_1]; omega) (inv_V C 0 dl_497 l_Lw_101 im_M_scale se_M_scale cd_M_scale ⟨by decide, by decide⟩ ln_M_scale rfl rfl rfl rfl rfl) (fun M497 hp => ?_)
  refine a_aload_n C dl_500 rfl rfl ?_
  refine l_callMi (rest := []) (av := .ref o :: []) C dl_501 (ct_thrown  M497 hp) cd_M_thrown i_M (Nat.le_of_ble_eq_true rfl) (by rw [hR]; exact Nat.le_of_ble_eq_true rfl) (by rw [hR]; exact Nat.le_of_ble_eq_true rfl) (by rw [hR]; simp only [room_1]; omega) (by rw [hR]; simp only [room_1]; omega) (inv_V C 0 dl_501 l_Lw_84 im_M_thrown se_M_thrown cd_M_thrown ⟨by decide, by decide⟩ ln_M_thrown rfl rfl rfl rfl rfl) (fun v501 M501 hp => ?_)
  refine a_iload C dl_504 rfl ?_
  refine a_icmp_eq (tgt := 511) C dl_506 (by decide) ⟨fun hc => ?_, fun hc => ?_⟩
  · have hp := hp.1 hc
    refine a_goto (tgt := 1265) C dl_511 (by decide) ?_
    refine a_iinc (v := i + 7) (lo' := [some (.ref b), some (.ref (oa 0)), some (.ref o), some (.ref (oa 115)), some (.int (i + 7)), some (.int v473), none]) C dl_1265 rfl rfl (by decide) rfl ?_
    refine a_goto (tgt := 23) C dl_1268 (by decide) ?_
    refine aw_lo (lo' := [some (.ref b), some (.ref (oa 0)), some (.ref o), some (.ref (oa 115)), some (.int (i + 7)), none, none]) ⟨.inr rfl, .inr rfl, .inr rfl, .inr rfl, .inr rfl, .inl rfl, .inr rfl, trivial⟩ ?_
    refine aw_widen (nc' := 155 + (j + 1)) (ns' := 395046 + 6 * (j + 1)) (by omega) (by omega) ?_
    exact hRR _ _ _ _ (by omega) hp
  · have hp := hp.2 hc
    exact hp.elim
set_option maxRecDepth 100000 in
set_option maxHeartbeats 1000000 in
theorem sh_law_5 (C : fcx gG D z A X R_Lw code 7 ret) (hfl : X.2.1.flags = pinnedFlags ++ [noTraceFlag]) (hR : X.2.2.2.1 = room_1) (hX : va_X b n xs X.2.2.2.2.1 X.2.2.2.2.1.heap) (hbl : b < X.2.2.2.2.1.heap.size) (hbA : ¬ A b) (hQ : X.2.2.2.2.2.2.2.2.2.2 = eQ gG D z X.2.2.2.2.2.2.2.1 X.2.2.2.2.1 [] 600001 7302226 (fun o _ => o = .returned (some (.int 1)))) (hA : A = owA gG [] X.2.2.2.2.1.heap.size) (hu0 : c_cl U 0 = 1) {R : Nat → Int32 → cs → ms → Prop} (j : Nat) (i : Int32) (S : cs) (M : ms) (hj : j ≤ 511) (hRR : ∀ (j : Nat) (i : Int32) (S : cs) (M : ms), j ≤ 512 → R j i S M → aw gG D z A X 7 23 [some (.ref b), some (.ref (oa 0)), some (.ref o), some (.ref (oa 115)), some (.int i), none, none] [] (lW U oa S o ad M) (155 + j) (395046 + 6 * j)) (hp : h_law_5 U n xs j i S M R) : aw gG D z A X 7 514 [some (.ref b), some (.ref (oa 0)), some (.ref o), some (.ref (oa 115)), some (.int i), none, none] [] (lW U oa S o ad M) (155 + j) (395046 + 6 * j) := by
  unfold h_law_5 at hp
  refine a_aload_n C dl_514 rfl rfl ?_
  refine a_aload_n C dl_515 rfl rfl ?_
  refine a_iload C dl_516 rfl ?_
  refine a_iconst (v := 1) C dl_518 (by decide) ?_
  refine a_iadd C dl_519 ?_
  refine l_sld C hX hbl hbA dl_520 hp.1 ?_
  have hp := hp.2
  refine a_aload_n C dl_521 rfl rfl ?_
  refine a_iload C dl_522 rfl ?_
  refine a_iconst (v := 2) C dl_524 (by decide) ?_
  refine a_iadd C dl_525 ?_
  refine l_sld C hX hbl hbA dl_526 hp.1 ?_
  have hp := hp.2
  refine a_aload_n C dl_527 rfl rfl ?_
  refine a_iload C dl_528 rfl ?_
  refine a_iconst (v := 3) C dl_530 (by decide) ?_
  refine a_iadd C dl_531 ?_
  refine l_sld C hX hbl hbA dl_532 hp.1 ?_
  have hp := hp.2
  refine a_aload_n C dl_533 rfl rfl ?_
  refine a_iload C dl_534 rfl ?_
  refine a_iconst (v := 4) C dl_536 (by decide) ?_
  refine a_iadd C dl_537 ?_
  refine l_sld C hX hbl hbA dl_538 hp.1 ?_
  have hp := hp.2
  refine l_callW (rest := []) (av := [.ref (oa 0), .int (xs (i + 1).toNatClampNeg), .int (xs (i + 2).toNatClampNeg), .int (xs (i + 3).toNatClampNeg), .int (xs (i + 4).toNatClampNeg)]) C dl_539 (ct_Lw_entry 0 (xs (i + 1).toNatClampNeg) (xs (i + 2).toNatClampNeg) (xs (i + 3).toNatClampNeg) (xs (i + 4).toNatClampNeg) S hfl hp) cd_C_Lw_entry i_Lw (Nat.le_of_ble_eq_true rfl) (by rw [hR]; exact Nat.le_of_ble_eq_true rfl) (by rw [hR]; exact Nat.le_of_ble_eq_true rfl) (by rw [hR]; simp only [room_1]; omega) (by rw [hR]; simp only [room_1]; omega) (inv_SW C dl_539 l_Lw_102 st_C_Lw_entry i_Lw cd_C_Lw_entry ⟨by decide, by decide⟩ ln_C_Lw_entry rfl) (fun v539 S539 hp => ?_)
  refine a_istore (lo' := [some (.ref b), some (.ref (oa 0)), some (.ref o), some (.ref (oa 115)), some (.int i), some (.int v539), none]) C dl_542 (by decide) rfl ?_
  refine a_aload_n C dl_544 rfl rfl ?_
  refine a_aload_n C dl_545 rfl rfl ?_
  refine a_iload C dl_546 rfl ?_
  refine a_iconst (v := 1) C dl_548 (by decide) ?_
  refine a_iadd C dl_549 ?_
  refine l_sld C hX hbl hbA dl_550 hp.1 ?_
  have hp := hp.2
  refine a_aload_n C dl_551 rfl rfl ?_
  refine a_iload C dl_552 rfl ?_
  refine a_iconst (v := 2) C dl_554 (by decide) ?_
  refine a_iadd C dl_555 ?_
  refine l_sld C hX hbl hbA dl_556 hp.1 ?_
  have hp := hp.2
  refine a_aload_n C dl_557 rfl rfl ?_
  refine a_iload C dl_558 rfl ?_
  refine a_iconst (v := 3) C dl_560 (by decide) ?_
  refine a_iadd C dl_561 ?_
  refine l_sld C hX hbl hbA dl_562 hp.1 ?_
  have hp := hp.2
  refine a_aload_n C dl_563 rfl rfl ?_
  refine a_iload C dl_564 rfl ?_
  refine a_iconst (v := 4) C dl_566 (by decide) ?_
  refine a_iadd C dl_567 ?_
  refine l_sld C hX hbl hbA dl_568 hp.1 ?_
  have hp := hp.2
  refine l_callMv (rest := []) (av := .ref o :: [.int (xs (i + 1).toNatClampNeg), .int (xs (i + 2).toNatClampNeg), .int (xs (i + 3).toNatClampNeg), .int (xs (i + 4).toNatClampNeg)]) C dl_569 (ct_entry (xs (i + 1).toNatClampNeg) (xs (i + 2).toNatClampNeg) (xs (i + 3).toNatClampNeg) (xs (i + 4).toNatClampNeg) M hp) cd_M_entry i_M (Nat.le_of_ble_eq_true rfl) (by rw [hR]; exact Nat.le_of_ble_eq_true rfl) (by rw [hR]; exact Nat.le_of_ble_eq_true rfl) (by rw [hR]; simp only [room_1]; omega) (by rw [hR]; simp only [room_1]; omega) (inv_V C 0 dl_569 l_Lw_105 im_M_entry se_M_entry cd_M_entry ⟨by decide, by decide⟩ ln_M_entry rfl rfl rfl rfl rfl) (fun M569 hp => ?_)
  refine a_aload_n C dl_572 rfl rfl ?_
  refine l_callMi (rest := []) (av := .ref o :: []) C dl_573 (ct_thrown  M569 hp) cd_M_thrown i_M (Nat.le_of_ble_eq_true rfl) (by rw [hR]; exact Nat.le_of_ble_eq_true rfl) (by rw [hR]; exact Nat.le_of_ble_eq_true rfl) (by rw [hR]; simp only [room_1]; omega) (by rw [hR]; simp only [room_1]; omega) (inv_V C 0 dl_573 l_Lw_84 im_M_thrown se_M_thrown cd_M_thrown ⟨by decide, by decide⟩ ln_M_thrown rfl rfl rfl rfl rfl) (fun v573 M573 hp => ?_)
  refine a_iload C dl_576 rfl ?_
  refine a_icmp_eq (tgt := 583) C dl_578 (by decide) ⟨fun hc => ?_, fun hc => ?_⟩
  · have hp := hp.1 hc
    refine a_goto (tgt := 1265) C dl_583 (by decide) ?_
    refine a_iinc (v := i + 7) (lo' := [some (.ref b), some (.ref (oa 0)), some (.ref o), some (.ref (oa 115)), some (.int (i + 7)), some (.int v539), none]) C dl_1265 rfl rfl (by decide) rfl ?_
    refine a_goto (tgt := 23) C dl_1268 (by decide) ?_
    refine aw_lo (lo' := [some (.ref b), some (.ref (oa 0)), some (.ref o), some (.ref (oa 115)), some (.int (i + 7)), none, none]) ⟨.inr rfl, .inr rfl, .inr rfl, .inr rfl, .inr rfl, .inl rfl, .inr rfl, trivial⟩ ?_
    refine aw_widen (nc' := 155 + (j + 1)) (ns' := 395046 + 6 * (j + 1)) (by omega) (by omega) ?_
    exact hRR _ _ _ _ (by omega) hp
  · have hp := hp.2 hc
    exact hp.elim
set_option maxRecDepth 100000 in
set_option maxHeartbeats 1000000 in
theorem sh_law_6 (C : fcx gG D z A X R_Lw code 7 ret) (hfl : X.2.1.flags = pinnedFlags ++ [noTraceFlag]) (hR : X.2.2.2.1 = room_1) (hX : va_X b n xs X.2.2.2.2.1 X.2.2.2.2.1.heap) (hbl : b < X.2.2.2.2.1.heap.size) (hbA : ¬ A b) (hQ : X.2.2.2.2.2.2.2.2.2.2 = eQ gG D z X.2.2.2.2.2.2.2.1 X.2.2.2.2.1 [] 600001 7302226 (fun o _ => o = .returned (some (.int 1)))) (hA : A = owA gG [] X.2.2.2.2.1.heap.size) (hu0 : c_cl U 0 = 1) {R : Nat → Int32 → cs → ms → Prop} (j : Nat) (i : Int32) (S : cs) (M : ms) (hj : j ≤ 511) (hRR : ∀ (j : Nat) (i : Int32) (S : cs) (M : ms), j ≤ 512 → R j i S M → aw gG D z A X 7 23 [some (.ref b), some (.ref (oa 0)), some (.ref o), some (.ref (oa 115)), some (.int i), none, none] [] (lW U oa S o ad M) (155 + j) (395046 + 6 * j)) (hp : h_law_6 U n xs j i S M R) : aw gG D z A X 7 586 [some (.ref b), some (.ref (oa 0)), some (.ref o), some (.ref (oa 115)), some (.int i), none, none] [] (lW U oa S o ad M) (155 + j) (395046 + 6 * j) := by
  unfold h_law_6 at hp
  refine a_aload_n C dl_586 rfl rfl ?_
  refine a_aload_n C dl_587 rfl rfl ?_
  refine a_iload C dl_588 rfl ?_
  refine a_iconst (v := 1) C dl_590 (by decide) ?_
  refine a_iadd C dl_591 ?_
  refine l_sld C hX hbl hbA dl_592 hp.1 ?_
  have hp := hp.2
  refine a_aload_n C dl_593 rfl rfl ?_
  refine a_iload C dl_594 rfl ?_
  refine a_iconst (v := 2) C dl_596 (by decide) ?_
  refine a_iadd C dl_597 ?_
  refine l_sld C hX hbl hbA dl_598 hp.1 ?_
  have hp := hp.2
  refine a_aload_n C dl_599 rfl rfl ?_
  refine a_iload C dl_600 rfl ?_
  refine a_iconst (v := 3) C dl_602 (by decide) ?_
  refine a_iadd C dl_603 ?_
  refine l_sld C hX hbl hbA dl_604 hp.1 ?_
  have hp := hp.2
  refine a_aload_n C dl_605 rfl rfl ?_
  refine l_callW (rest := []) (av := [.ref (oa 0), .int (xs (i + 1).toNatClampNeg), .int (xs (i + 2).toNatClampNeg), .int (xs (i + 3).toNatClampNeg), .ref (oa 115)]) C dl_606 (ct_Lw_pack 0 (xs (i + 1).toNatClampNeg) (xs (i + 2).toNatClampNeg) (xs (i + 3).toNatClampNeg) 115 S hfl hp) cd_C_Lw_pack i_Lw (Nat.le_of_ble_eq_true rfl) (by rw [hR]; exact Nat.le_of_ble_eq_true rfl) (by rw [hR]; exact Nat.le_of_ble_eq_true rfl) (by rw [hR]; simp only [room_1]; omega) (by rw [hR]; simp only [room_1]; omega) (inv_SW C dl_606 l_Lw_106 st_C_Lw_pack i_Lw cd_C_Lw_pack ⟨by decide, by decide⟩ ln_C_Lw_pack rfl) (fun v606 S606 hp => ?_)
  refine a_istore (lo' := [some (.ref b), some (.ref (oa 0)), some (.ref o), some (.ref (oa 115)), some (.int i), some (.int v606), none]) C dl_609 (by decide) rfl ?_
  refine a_aload_n C dl_611 rfl rfl ?_
  refine a_aload_n C dl_612 rfl rfl ?_
  refine a_iload C dl_613 rfl ?_
  refine a_iconst (v := 1) C dl_615 (by decide) ?_
  refine a_iadd C dl_616 ?_
  refine l_sld C hX hbl hbA dl_617 hp.1 ?_
  have hp := hp.2
  refine a_aload_n C dl_618 rfl rfl ?_
  refine a_iload C dl_619 rfl ?_
  refine a_iconst (v := 2) C dl_621 (by decide) ?_
  refine a_iadd C dl_622 ?_
  refine l_sld C hX hbl hbA dl_623 hp.1 ?_
  have hp := hp.2
  refine a_aload_n C dl_624 rfl rfl ?_
  refine a_iload C dl_625 rfl ?_
  refine a_iconst (v := 3) C dl_627 (by decide) ?_
  refine a_iadd C dl_628 ?_
  refine l_sld C hX hbl hbA dl_629 hp.1 ?_
  have hp := hp.2
  refine l_callMi (rest := []) (av := .ref o :: [.int (xs (i + 1).toNatClampNeg), .int (xs (i + 2).toNatClampNeg), .int (xs (i + 3).toNatClampNeg)]) C dl_630 (ct_pack (xs (i + 1).toNatClampNeg) (xs (i + 2).toNatClampNeg) (xs (i + 3).toNatClampNeg) M hp) cd_M_pack i_M (Nat.le_of_ble_eq_true rfl) (by rw [hR]; exact Nat.le_of_ble_eq_true rfl) (by rw [hR]; exact Nat.le_of_ble_eq_true rfl) (by rw [hR]; simp only [room_1]; omega) (by rw [hR]; simp only [room_1]; omega) (inv_V C 0 dl_630 l_Lw_108 im_M_pack se_M_pack cd_M_pack ⟨by decide, by decide⟩ ln_M_pack rfl rfl rfl rfl rfl) (fun v630 M630 hp => ?_)
  refine a_istore (lo' := [some (.ref b), some (.ref (oa 0)), some (.ref o), some (.ref (oa 115)), some (.int i), some (.int v606), some (.int v630)]) C dl_633 (by decide) rfl ?_
  refine a_aload_n C dl_635 rfl rfl ?_
  refine l_callMi (rest := []) (av := .ref o :: []) C dl_636 (ct_thrown  M630 hp) cd_M_thrown i_M (Nat.le_of_ble_eq_true rfl) (by rw [hR]; exact Nat.le_of_ble_eq_true rfl) (by rw [hR]; exact Nat.le_of_ble_eq_true rfl) (by rw [hR]; simp only [room_1]; omega) (by rw [hR]; simp only [room_1]; omega) (inv_V C 0 dl_636 l_Lw_84 im_M_thrown se_M_thrown cd_M_thrown ⟨by decide, by decide⟩ ln_M_thrown rfl rfl rfl rfl rfl) (fun v636 M636 hp => ?_)
  refine a_iload C dl_639 rfl ?_
  refine a_icmp_eq (tgt := 646) C dl_641 (by decide) ⟨fun hc => ?_, fun hc => ?_⟩
  · have hp := hp.1 hc
    refine a_iload C dl_646 rfl ?_
    refine a_if_ne (tgt := 663) C dl_648 (by decide) ⟨fun hc => ?_, fun hc => ?_⟩
    · have hp := hp.1 hc
      refine a_goto (tgt := 1265) C dl_663 (by decide) ?_
      refine a_iinc (v := i + 7) (lo' := [some (.ref b), some (.ref (oa 0)), some (.ref o), some (.ref (oa 115)), some (.int (i + 7)), some (.int v606), some (.int v630)]) C dl_1265 rfl rfl (by decide) rfl ?_
      refine a_goto (tgt := 23) C dl_1268 (by decide) ?_
      refine aw_lo (lo' := [some (.ref b), some (.ref (oa 0)), some (.ref o), some (.ref (oa 115)), some (.int (i + 7)), none, none]) ⟨.inr rfl, .inr rfl, .inr rfl, .inr rfl, .inr rfl, .inl rfl, .inl rfl, trivial⟩ ?_
      refine aw_widen (nc' := 155 + (j + 1)) (ns' := 395046 + 6 * (j + 1)) (by omega) (by omega) ?_
      exact hRR _ _ _ _ (by omega) hp
    · have hp := hp.2 hc
      refine a_aload_n C dl_651 rfl rfl ?_
      refine a_iconst (v := 0) C dl_652 (by decide) ?_
      refine l_lald C 115 dl_653 hp.1 hp.2.1 ?_
      have hp := hp.2.2
      refine a_iload C dl_654 rfl ?_
      refine a_i2l C dl_656 ?_
      refine a_lcmp C dl_657 ?_
      refine a_if_eq (tgt := 663) C dl_658 (by decide) ⟨fun hc => ?_, fun hc => ?_⟩
      · have hp := hp.1 hc
        refine a_goto (tgt := 1265) C dl_663 (by decide) ?_
        refine a_iinc (v := i + 7) (lo' := [some (.ref b), some (.ref (oa 0)), some (.ref o), some (.ref (oa 115)), some (.int (i + 7)), some (.int v606), some (.int v630)]) C dl_1265 rfl rfl (by decide) rfl ?_
        refine a_goto (tgt := 23) C dl_1268 (by decide) ?_
        refine aw_lo (lo' := [some (.ref b), some (.ref (oa 0)), some (.ref o), some (.ref (oa 115)), some (.int (i + 7)), none, none]) ⟨.inr rfl, .inr rfl, .inr rfl, .inr rfl, .inr rfl, .inl rfl, .inl rfl, trivial⟩ ?_
        refine aw_widen (nc' := 155 + (j + 1)) (ns' := 395046 + 6 * (j + 1)) (by omega) (by omega) ?_
        exact hRR _ _ _ _ (by omega) hp
      · have hp := hp.2 hc
        exact hp.elim
  · have hp := hp.2 hc
    exact hp.elim
set_option maxRecDepth 100000 in
set_option maxHeartbeats 1000000 in
theorem sh_law_7 (C : fcx gG D z A X R_Lw code 7 ret) (hfl : X.2.1.flags = pinnedFlags ++ [noTraceFlag]) (hR : X.2.2.2.1 = room_1) (hX : va_X b n xs X.2.2.2.2.1 X.2.2.2.2.1.heap) (hbl : b < X.2.2.2.2.1.heap.size) (hbA : ¬ A b) (hQ : X.2.2.2.2.2.2.2.2.2.2 = eQ gG D z X.2.2.2.2.2.2.2.1 X.2.2.2.2.1 [] 600001 7302226 (fun o _ => o = .returned (some (.int 1)))) (hA : A = owA gG [] X.2.2.2.2.1.heap.size) (hu0 : c_cl U 0 = 1) {R : Nat → Int32 → cs → ms → Prop} (j : Nat) (i : Int32) (S : cs) (M : ms) (hj : j ≤ 511) (hRR : ∀ (j : Nat) (i : Int32) (S : cs) (M : ms), j ≤ 512 → R j i S M → aw gG D z A X 7 23 [some (.ref b), some (.ref (oa 0)), some (.ref o), some (.ref (oa 115)), some (.int i), none, none] [] (lW U oa S o ad M) (155 + j) (395046 + 6 * j)) (hp : h_law_7 U n xs j i S M R) : aw gG D z A X 7 666 [some (.ref b), some (.ref (oa 0)), some (.ref o), some (.ref (oa 115)), some (.int i), none, none] [] (lW U oa S o ad M) (155 + j) (395046 + 6 * j) := by
  unfold h_law_7 at hp
  refine a_aload_n C dl_666 rfl rfl ?_
  refine l_callC (rest := []) (av := .ref (oa 0) :: []) C dl_667 (ct_B_size 0 S hu0 hp) cd_C_B_size i_B (Nat.le_of_ble_eq_true rfl) (by rw [hR]; exact Nat.le_of_ble_eq_true rfl) (by rw [hR]; exact Nat.le_of_ble_eq_true rfl) (by rw [hR]; simp only [room_1]; omega) (by rw [hR]; simp only [room_1]; omega) (inv_V C 1 dl_667 l_Lw_109 im_C_B_size se_C_B_size cd_C_B_size ⟨by decide, by decide⟩ ln_C_B_size rfl rfl (show (lW U oa S o ad M)[1]? = _ from cw_obj hu0 rfl) rfl rfl) (fun v667 S667 hp => ?_)
  refine a_aload_n C dl_670 rfl rfl ?_
  refine l_callMi (rest := [.int v667]) (av := .ref o :: []) C dl_671 (ct_size  M hp) cd_M_size i_M (Nat.le_of_ble_eq_true rfl) (by rw [hR]; exact Nat.le_of_ble_eq_true rfl) (by rw [hR]; exact Nat.le_of_ble_eq_true rfl) (by rw [hR]; simp only [room_1]; omega) (by rw [hR]; simp only [room_1]; omega) (inv_V C 0 dl_671 l_Lw_112 im_M_size se_M_size cd_M_size ⟨by decide, by decide⟩ ln_M_size rfl rfl rfl rfl rfl) (fun v671 M671 hp => ?_)
  refine a_icmp_eq (tgt := 1265) C dl_674 (by decide) ⟨fun hc => ?_, fun hc => ?_⟩
  · have hp := hp.1 hc
    refine a_iinc (v := i + 7) (lo' := [some (.ref b), some (.ref (oa 0)), some (.ref o), some (.ref (oa 115)), some (.int (i + 7)), none, none]) C dl_1265 rfl rfl (by decide) rfl ?_
    refine a_goto (tgt := 23) C dl_1268 (by decide) ?_
    refine aw_lo (lo' := [some (.ref b), some (.ref (oa 0)), some (.ref o), some (.ref (oa 115)), some (.int (i + 7)), none, none]) ⟨.inr rfl, .inr rfl, .inr rfl, .inr rfl, .inr rfl, .inr rfl, .inr rfl, trivial⟩ ?_
    refine aw_widen (nc' := 155 + (j + 1)) (ns' := 395046 + 6 * (j + 1)) (by omega) (by omega) ?_
    exact hRR _ _ _ _ (by omega) hp
  · have hp := hp.2 hc
    exact hp.elim
set_option maxRecDepth 100000 in
set_option maxHeartbeats 1000000 in
theorem sh_law_8 (C : fcx gG D z A X R_Lw code 7 ret) (hfl : X.2.1.flags = pinnedFlags ++ [noTraceFlag]) (hR : X.2.2.2.1 = room_1) (hX : va_X b n xs X.2.2.2.2.1 X.2.2.2.2.1.heap) (hbl : b < X.2.2.2.2.1.heap.size) (hbA : ¬ A b) (hQ : X.2.2.2.2.2.2.2.2.2.2 = eQ gG D z X.2.2.2.2.2.2.2.1 X.2.2.2.2.1 [] 600001 7302226 (fun o _ => o = .returned (some (.int 1)))) (hA : A = owA gG [] X.2.2.2.2.1.heap.size) (hu0 : c_cl U 0 = 1) {R : Nat → Int32 → cs → ms → Prop} (j : Nat) (i : Int32) (S : cs) (M : ms) (hj : j ≤ 511) (hRR : ∀ (j : Nat) (i : Int32) (S : cs) (M : ms), j ≤ 512 → R j i S M → aw gG D z A X 7 23 [some (.ref b), some (.ref (oa 0)), some (.ref o), some (.ref (oa 115)), some (.int i), none, none] [] (lW U oa S o ad M) (155 + j) (395046 + 6 * j)) (hp : h_law_8 U n xs j i S M R) : aw gG D z A X 7 679 [some (.ref b), some (.ref (oa 0)), some (.ref o), some (.ref (oa 115)), some (.int i), none, none] [] (lW U oa S o ad M) (155 + j) (395046 + 6 * j) := by
  unfold h_law_8 at hp
  refine a_aload_n C dl_679 rfl rfl ?_
  refine a_aload_n C dl_680 rfl rfl ?_
  refine a_iload C dl_681 rfl ?_
  refine a_iconst (v := 1) C dl_683 (by decide) ?_
  refine a_iadd C dl_684 ?_
  refine l_sld C hX hbl hbA dl_685 hp.1 ?_
  have hp := hp.2
  refine a_aload_n C dl_686 rfl rfl ?_
  refine l_callW (rest := []) (av := [.ref (oa 0), .int (xs (i + 1).toNatClampNeg), .ref (oa 115)]) C dl_687 (ct_Lw_out 0 (xs (i + 1).toNatClampNeg) 115 S hfl hp) cd_C_Lw_out i_Lw (Nat.le_of_ble_eq_true rfl) (by rw [hR]; exact Nat.le_of_ble_eq_true rfl) (by rw [hR]; exact Nat.le_of_ble_eq_true rfl) (by rw [hR]; simp only [room_1]; omega) (by rw [hR]; simp only [room_1]; omega) (inv_SW C dl_687 l_Lw_113 st_C_Lw_out i_Lw cd_C_Lw_out ⟨by decide, by decide⟩ ln_C_Lw_out rfl) (fun v687 S687 hp => ?_)
  refine a_istore (lo' := [some (.ref b), some (.ref (oa 0)), some (.ref o), some (.ref (oa 115)), some (.int i), some (.int v687), none]) C dl_690 (by decide) rfl ?_
  refine a_aload_n C dl_692 rfl rfl ?_
  refine a_aload_n C dl_693 rfl rfl ?_
  refine a_iload C dl_694 rfl ?_
  refine a_iconst (v := 1) C dl_696 (by decide) ?_
  refine a_iadd C dl_697 ?_
  refine l_sld C hX hbl hbA dl_698 hp.1 ?_
  have hp := hp.2
  refine l_callMi (rest := []) (av := .ref o :: [.int (xs (i + 1).toNatClampNeg)]) C dl_699 (ct_out (xs (i + 1).toNatClampNeg) M hp) cd_M_out i_M (Nat.le_of_ble_eq_true rfl) (by rw [hR]; exact Nat.le_of_ble_eq_true rfl) (by rw [hR]; exact Nat.le_of_ble_eq_true rfl) (by rw [hR]; simp only [room_1]; omega) (by rw [hR]; simp only [room_1]; omega) (inv_V C 0 dl_699 l_Lw_116 im_M_out se_M_out cd_M_out ⟨by decide, by decide⟩ ln_M_out rfl rfl rfl rfl rfl) (fun v699 M699 hp => ?_)
  refine a_istore (lo' := [some (.ref b), some (.ref (oa 0)), some (.ref o), some (.ref (oa 115)), some (.int i), some (.int v687), some (.int v699)]) C dl_702 (by decide) rfl ?_
  refine a_aload_n C dl_704 rfl rfl ?_
  refine l_callMi (rest := []) (av := .ref o :: []) C dl_705 (ct_thrown  M699 hp) cd_M_thrown i_M (Nat.le_of_ble_eq_true rfl) (by rw [hR]; exact Nat.le_of_ble_eq_true rfl) (by rw [hR]; exact Nat.le_of_ble_eq_true rfl) (by rw [hR]; simp only [room_1]; omega) (by rw [hR]; simp only [room_1]; omega) (inv_V C 0 dl_705 l_Lw_84 im_M_thrown se_M_thrown cd_M_thrown ⟨by decide, by decide⟩ ln_M_thrown rfl rfl rfl rfl rfl) (fun v705 M705 hp => ?_)
  refine a_iload C dl_708 rfl ?_
  refine a_icmp_eq (tgt := 715) C dl_710 (by decide) ⟨fun hc => ?_, fun hc => ?_⟩
  · have hp := hp.1 hc
    refine a_iload C dl_715 rfl ?_
    refine a_if_ne (tgt := 732) C dl_717 (by decide) ⟨fun hc => ?_, fun hc => ?_⟩
    · have hp := hp.1 hc
      refine a_goto (tgt := 1265) C dl_732 (by decide) ?_
      refine a_iinc (v := i + 7) (lo' := [some (.ref b), some (.ref (oa 0)), some (.ref o), some (.ref (oa 115)), some (.int (i + 7)), some (.int v687), some (.int v699)]) C dl_1265 rfl rfl (by decide) rfl ?_
      refine a_goto (tgt := 23) C dl_1268 (by decide) ?_
      refine aw_lo (lo' := [some (.ref b), some (.ref (oa 0)), some (.ref o), some (.ref (oa 115)), some (.int (i + 7)), none, none]) ⟨.inr rfl, .inr rfl, .inr rfl, .inr rfl, .inr rfl, .inl rfl, .inl rfl, trivial⟩ ?_
      refine aw_widen (nc' := 155 + (j + 1)) (ns' := 395046 + 6 * (j + 1)) (by omega) (by omega) ?_
      exact hRR _ _ _ _ (by omega) hp
    · have hp := hp.2 hc
      refine a_aload_n C dl_720 rfl rfl ?_
      refine a_iconst (v := 0) C dl_721 (by decide) ?_
      refine l_lald C 115 dl_722 hp.1 hp.2.1 ?_
      have hp := hp.2.2
      refine a_iload C dl_723 rfl ?_
      refine a_i2l C dl_725 ?_
      refine a_lcmp C dl_726 ?_
      refine a_if_eq (tgt := 732) C dl_727 (by decide) ⟨fun hc => ?_, fun hc => ?_⟩
      · have hp := hp.1 hc
        refine a_goto (tgt := 1265) C dl_732 (by decide) ?_
        refine a_iinc (v := i + 7) (lo' := [some (.ref b), some (.ref (oa 0)), some (.ref o), some (.ref (oa 115)), some (.int (i + 7)), some (.int v687), some (.int v699)]) C dl_1265 rfl rfl (by decide) rfl ?_
        refine a_goto (tgt := 23) C dl_1268 (by decide) ?_
        refine aw_lo (lo' := [some (.ref b), some (.ref (oa 0)), some (.ref o), some (.ref (oa 115)), some (.int (i + 7)), none, none]) ⟨.inr rfl, .inr rfl, .inr rfl, .inr rfl, .inr rfl, .inl rfl, .inl rfl, trivial⟩ ?_
        refine aw_widen (nc' := 155 + (j + 1)) (ns' := 395046 + 6 * (j + 1)) (by omega) (by omega) ?_
        exact hRR _ _ _ _ (by omega) hp
      · have hp := hp.2 hc
        exact hp.elim
  · have hp := hp.2 hc
    exact hp.elim
set_option maxRecDepth 100000 in
set_option maxHeartbeats 1000000 in
theorem sh_law_9 (C : fcx gG D z A X R_Lw code 7 ret) (hfl : X.2.1.flags = pinnedFlags ++ [noTraceFlag]) (hR : X.2.2.2.1 = room_1) (hX : va_X b n xs X.2.2.2.2.1 X.2.2.2.2.1.heap) (hbl : b < X.2.2.2.2.1.heap.size) (hbA : ¬ A b) (hQ : X.2.2.2.2.2.2.2.2.2.2 = eQ gG D z X.2.2.2.2.2.2.2.1 X.2.2.2.2.1 [] 600001 7302226 (fun o _ => o = .returned (some (.int 1)))) (hA : A = owA gG [] X.2.2.2.2.1.heap.size) (hu0 : c_cl U 0 = 1) {R : Nat → Int32 → cs → ms → Prop} (j : Nat) (i : Int32) (S : cs) (M : ms) (hj : j ≤ 511) (hRR : ∀ (j : Nat) (i : Int32) (S : cs) (M : ms), j ≤ 512 → R j i S M → aw gG D z A X 7 23 [some (.ref b), some (.ref (oa 0)), some (.ref o), some (.ref (oa 115)), some (.int i), none, none] [] (lW U oa S o ad M) (155 + j) (395046 + 6 * j)) (hp : h_law_9 U n xs j i S M R) : aw gG D z A X 7 735 [some (.ref b), some (.ref (oa 0)), some (.ref o), some (.ref (oa 115)), some (.int i), none, none] [] (lW U oa S o ad M) (155 + j) (395046 + 6 * j) := by
  unfold h_law_9 at hp
  refine a_aload_n C dl_735 rfl rfl ?_
  refine a_aload_n C dl_736 rfl rfl ?_
  refine a_iload C dl_737 rfl ?_
  refine a_iconst (v := 1) C dl_739 (by decide) ?_
  refine a_iadd C dl_740 ?_
  refine l_sld C hX hbl hbA dl_741 hp.1 ?_
  have hp := hp.2
  refine a_aload_n C dl_742 rfl rfl ?_
  refine a_iload C dl_743 rfl ?_
  refine a_iconst (v := 2) C dl_745 (by decide) ?_
  refine a_iadd C dl_746 ?_
  refine l_sld C hX hbl hbA dl_747 hp.1 ?_
  have hp := hp.2
  refine a_aload_n C dl_748 rfl rfl ?_
  refine a_iload C dl_749 rfl ?_
  refine a_iconst (v := 3) C dl_751 (by decide) ?_
  refine a_iadd C dl_752 ?_
  refine l_sld C hX hbl hbA dl_753 hp.1 ?_
  have hp := hp.2
  refine a_aload_n C dl_754 rfl rfl ?_
  refine a_iload C dl_755 rfl ?_
  refine a_iconst (v := 4) C dl_757 (by decide) ?_
  refine a_iadd C dl_758 ?_
  refine l_sld C hX hbl hbA dl_759 hp.1 ?_
  have hp := hp.2
  refine a_aload_n C dl_760 rfl rfl ?_
  refine a_iload C dl_761 rfl ?_
  refine a_iconst (v := 5) C dl_763 (by decide) ?_
  refine a_iadd C dl_764 ?_
  refine l_sld C hX hbl hbA dl_765 hp.1 ?_
  have hp := hp.2
  refine a_aload_n C dl_766 rfl rfl ?_
  refine l_callW (rest := []) (av := [.ref (oa 0), .int (xs (i + 1).toNatClampNeg), .int (xs (i + 2).toNatClampNeg), .int (xs (i + 3).toNatClampNeg), .int (xs (i + 4).toNatClampNeg), .int (xs (i + 5).toNatClampNeg), .ref (oa 115)]) C dl_767 (ct_Lw_feed 0 (xs (i + 1).toNatClampNeg) (xs (i + 2).toNatClampNeg) (xs (i + 3).toNatClampNeg) (xs (i + 4).toNatClampNeg) (xs (i + 5).toNatClampNeg) 115 S hfl hp) cd_C_Lw_feed i_Lw (Nat.le_of_ble_eq_true rfl) (by rw [hR]; exact Nat.le_of_ble_eq_true rfl) (by rw [hR]; exact Nat.le_of_ble_eq_true rfl) (by rw [hR]; simp only [room_1]; omega) (by rw [hR]; simp only [room_1]; omega) (inv_SW C dl_767 l_Lw_117 st_C_Lw_feed i_Lw cd_C_Lw_feed ⟨by decide, by decide⟩ ln_C_Lw_feed rfl) (fun v767 S767 hp => ?_)
  refine a_istore (lo' := [some (.ref b), some (.ref (oa 0)), some (.ref o), some (.ref (oa 115)), some (.int i), some (.int v767), none]) C dl_770 (by decide) rfl ?_
  refine a_aload_n C dl_772 rfl rfl ?_
  refine a_aload_n C dl_773 rfl rfl ?_
  refine a_iload C dl_774 rfl ?_
  refine a_iconst (v := 1) C dl_776 (by decide) ?_
  refine a_iadd C dl_777 ?_
  refine l_sld C hX hbl hbA dl_778 hp.1 ?_
  have hp := hp.2
  refine a_aload_n C dl_779 rfl rfl ?_
  refine a_iload C dl_780 rfl ?_
  refine a_iconst (v := 2) C dl_782 (by decide) ?_
  refine a_iadd C dl_783 ?_
  refine l_sld C hX hbl hbA dl_784 hp.1 ?_
  have hp := hp.2
  refine a_aload_n C dl_785 rfl rfl ?_
  refine a_iload C dl_786 rfl ?_
  refine a_iconst (v := 3) C dl_788 (by decide) ?_
  refine a_iadd C dl_789 ?_
  refine l_sld C hX hbl hbA dl_790 hp.1 ?_
  have hp := hp.2
  refine a_aload_n C dl_791 rfl rfl ?_
  refine a_iload C dl_792 rfl ?_
  refine a_iconst (v := 4) C dl_794 (by decide) ?_
  refine a_iadd C dl_795 ?_
  refine l_sld C hX hbl hbA dl_796 hp.1 ?_
  have hp := hp.2
  refine a_aload_n C dl_797 rfl rfl ?_
  refine a_iload C dl_798 rfl ?_
  refine a_iconst (v := 5) C dl_800 (by decide) ?_
  refine a_iadd C dl_801 ?_
  refine l_sld C hX hbl hbA dl_802 hp.1 ?_
  have hp := hp.2
  refine l_callMi (rest := []) (av := .ref o :: [.int (xs (i + 1).toNatClampNeg), .int (xs (i + 2).toNatClampNeg), .int (xs (i + 3).toNatClampNeg), .int (xs (i + 4).toNatClampNeg), .int (xs (i + 5).toNatClampNeg)]) C dl_803 (ct_feed (xs (i + 1).toNatClampNeg) (xs (i + 2).toNatClampNeg) (xs (i + 3).toNatClampNeg) (xs (i + 4).toNatClampNeg) (xs (i + 5).toNatClampNeg) M hp) cd_M_feed i_M (Nat.le_of_ble_eq_true rfl) (by rw [hR]; exact Nat.le_of_ble_eq_true rfl) (by rw [hR]; exact Nat.le_of_ble_eq_true rfl) (by rw [hR]; simp only [room_1]; omega) (by rw [hR]; simp only [room_1]; omega) (inv_V C 0 dl_803 l_Lw_120 im_M_feed se_M_feed cd_M_feed ⟨by decide, by decide⟩ ln_M_feed rfl rfl rfl rfl rfl) (fun v803 M803 hp => ?_)
  refine a_istore (lo' := [some (.ref b), some (.ref (oa 0)), some (.ref o), some (.ref (oa 115)), some (.int i), some (.int v767), some (.int v803)]) C dl_806 (by decide) rfl ?_
  refine a_aload_n C dl_808 rfl rfl ?_
  refine l_callMi (rest := []) (av := .ref o :: []) C dl_809 (ct_thrown  M803 hp) cd_M_thrown i_M (Nat.le_of_ble_eq_true rfl) (by rw [hR]; exact Nat.le_of_ble_eq_true rfl) (by rw [hR]; exact Nat.le_of_ble_eq_true rfl) (by rw [hR]; simp only [room_1]; omega) (by rw [hR]; simp only [room_1]; omega) (inv_V C 0 dl_809 l_Lw_84 im_M_thrown se_M_thrown cd_M_thrown ⟨by decide, by decide⟩ ln_M_thrown rfl rfl rfl rfl rfl) (fun v809 M809 hp => ?_)
  refine a_iload C dl_812 rfl ?_
  refine a_icmp_eq (tgt := 819) C dl_814 (by decide) ⟨fun hc => ?_, fun hc => ?_⟩
  · have hp := hp.1 hc
    refine a_iload C dl_819 rfl ?_
    refine a_if_ne (tgt := 836) C dl_821 (by decide) ⟨fun hc => ?_, fun hc => ?_⟩
    · have hp := hp.1 hc
      refine a_goto (tgt := 1265) C dl_836 (by decide) ?_
      refine a_iinc (v := i + 7) (lo' := [some (.ref b), some (.ref (oa 0)), some (.ref o), some (.ref (oa 115)), some (.int (i + 7)), some (.int v767), some (.int v803)]) C dl_1265 rfl rfl (by decide) rfl ?_
      refine a_goto (tgt := 23) C dl_1268 (by decide) ?_
      refine aw_lo (lo' := [some (.ref b), some (.ref (oa 0)), some (.ref o), some (.ref (oa 115)), some (.int (i + 7)), none, none]) ⟨.inr rfl, .inr rfl, .inr rfl, .inr rfl, .inr rfl, .inl rfl, .inl rfl, trivial⟩ ?_
      refine aw_widen (nc' := 155 + (j + 1)) (ns' := 395046 + 6 * (j + 1)) (by omega) (by omega) ?_
      exact hRR _ _ _ _ (by omega) hp
    · have hp := hp.2 hc
      refine a_aload_n C dl_824 rfl rfl ?_
      refine a_iconst (v := 0) C dl_825 (by decide) ?_
      refine l_lald C 115 dl_826 hp.1 hp.2.1 ?_
      have hp := hp.2.2
      refine a_iload C dl_827 rfl ?_
      refine a_i2l C dl_829 ?_
      refine a_lcmp C dl_830 ?_
      refine a_if_eq (tgt := 836) C dl_831 (by decide) ⟨fun hc => ?_, fun hc => ?_⟩
      · have hp := hp.1 hc
        refine a_goto (tgt := 1265) C dl_836 (by decide) ?_
        refine a_iinc (v := i + 7) (lo' := [some (.ref b), some (.ref (oa 0)), some (.ref o), some (.ref (oa 115)), some (.int (i + 7)), some (.int v767), some (.int v803)]) C dl_1265 rfl rfl (by decide) rfl ?_
        refine a_goto (tgt := 23) C dl_1268 (by decide) ?_
        refine aw_lo (lo' := [some (.ref b), some (.ref (oa 0)), some (.ref o), some (.ref (oa 115)), some (.int (i + 7)), none, none]) ⟨.inr rfl, .inr rfl, .inr rfl, .inr rfl, .inr rfl, .inl rfl, .inl rfl, trivial⟩ ?_
        refine aw_widen (nc' := 155 + (j + 1)) (ns' := 395046 + 6 * (j + 1)) (by omega) (by omega) ?_
        exact hRR _ _ _ _ (by omega) hp
      · have hp := hp.2 hc
        exact hp.elim
  · have hp := hp.2 hc
    exact hp.elim
set_option maxRecDepth 100000 in
set_option maxHeartbeats 1000000 in
theorem sh_law_10 (C : fcx gG D z A X R_Lw code 7 ret) (hfl : X.2.1.flags = pinnedFlags ++ [noTraceFlag]) (hR : X.2.2.2.1 = room_1) (hX : va_X b n xs X.2.2.2.2.1 X.2.2.2.2.1.heap) (hbl : b < X.2.2.2.2.1.heap.size) (hbA : ¬ A b) (hQ : X.2.2.2.2.2.2.2.2.2.2 = eQ gG D z X.2.2.2.2.2.2.2.1 X.2.2.2.2.1 [] 600001 7302226 (fun o _ => o = .returned (some (.int 1)))) (hA : A = owA gG [] X.2.2.2.2.1.heap.size) (hu0 : c_cl U 0 = 1) {R : Nat → Int32 → cs → ms → Prop} (j : Nat) (i : Int32) (S : cs) (M : ms) (hj : j ≤ 511) (hRR : ∀ (j : Nat) (i : Int32) (S : cs) (M : ms), j ≤ 512 → R j i S M → aw gG D z A X 7 23 [some (.ref b), some (.ref (oa 0)), some (.ref o), some (.ref (oa 115)), some (.int i), none, none] [] (lW U oa S o ad M) (155 + j) (395046 + 6 * j)) (hp : h_law_10 U n xs j i S M R) : aw gG D z A X 7 839 [some (.ref b), some (.ref (oa 0)), some (.ref o), some (.ref (oa 115)), some (.int i), none, none] [] (lW U oa S o ad M) (155 + j) (395046 + 6 * j) := by
  unfold h_law_10 at hp
  refine a_aload_n C dl_839 rfl rfl ?_
  refine a_aload_n C dl_840 rfl rfl ?_
  refine a_iload C dl_841 rfl ?_
  refine a_iconst (v := 1) C dl_843 (by decide) ?_
  refine a_iadd C dl_844 ?_
  refine l_sld C hX hbl hbA dl_845 hp.1 ?_
  have hp := hp.2
  refine l_callW (rest := []) (av := [.ref (oa 0), .int (xs (i + 1).toNatClampNeg)]) C dl_846 (ct_Lw_end 0 (xs (i + 1).toNatClampNeg) S hfl hp) cd_C_Lw_end i_Lw (Nat.le_of_ble_eq_true rfl) (by rw [hR]; exact Nat.le_of_ble_eq_true rfl) (by rw [hR]; exact Nat.le_of_ble_eq_true rfl) (by rw [hR]; simp only [room_1]; omega) (by rw [hR]; simp only [room_1]; omega) (inv_SW C dl_846 l_Lw_121 st_C_Lw_end i_Lw cd_C_Lw_end ⟨by decide, by decide⟩ ln_C_Lw_end rfl) (fun v846 S846 hp => ?_)
  refine a_istore (lo' := [some (.ref b), some (.ref (oa 0)), some (.ref o), some (.ref (oa 115)), some (.int i), some (.int v846), none]) C dl_849 (by decide) rfl ?_
  refine a_aload_n C dl_851 rfl rfl ?_
  refine a_aload_n C dl_852 rfl rfl ?_
  refine a_iload C dl_853 rfl ?_
  refine a_iconst (v := 1) C dl_855 (by decide) ?_
  refine a_iadd C dl_856 ?_
  refine l_sld C hX hbl hbA dl_857 hp.1 ?_
  have hp := hp.2
  refine l_callMv (rest := []) (av := .ref o :: [.int (xs (i + 1).toNatClampNeg)]) C dl_858 (ct_end (xs (i + 1).toNatClampNeg) M hp) cd_M_end i_M (Nat.le_of_ble_eq_true rfl) (by rw [hR]; exact Nat.le_of_ble_eq_true rfl) (by rw [hR]; exact Nat.le_of_ble_eq_true rfl) (by rw [hR]; simp only [room_1]; omega) (by rw [hR]; simp only [room_1]; omega) (inv_V C 0 dl_858 l_Lw_124 im_M_end se_M_end cd_M_end ⟨by decide, by decide⟩ ln_M_end rfl rfl rfl rfl rfl) (fun M858 hp => ?_)
  refine a_aload_n C dl_861 rfl rfl ?_
  refine l_callMi (rest := []) (av := .ref o :: []) C dl_862 (ct_thrown  M858 hp) cd_M_thrown i_M (Nat.le_of_ble_eq_true rfl) (by rw [hR]; exact Nat.le_of_ble_eq_true rfl) (by rw [hR]; exact Nat.le_of_ble_eq_true rfl) (by rw [hR]; simp only [room_1]; omega) (by rw [hR]; simp only [room_1]; omega) (inv_V C 0 dl_862 l_Lw_84 im_M_thrown se_M_thrown cd_M_thrown ⟨by decide, by decide⟩ ln_M_thrown rfl rfl rfl rfl rfl) (fun v862 M862 hp => ?_)
  refine a_iload C dl_865 rfl ?_
  refine a_icmp_eq (tgt := 872) C dl_867 (by decide) ⟨fun hc => ?_, fun hc => ?_⟩
  · have hp := hp.1 hc
    refine a_goto (tgt := 1265) C dl_872 (by decide) ?_
    refine a_iinc (v := i + 7) (lo' := [some (.ref b), some (.ref (oa 0)), some (.ref o), some (.ref (oa 115)), some (.int (i + 7)), some (.int v846), none]) C dl_1265 rfl rfl (by decide) rfl ?_
    refine a_goto (tgt := 23) C dl_1268 (by decide) ?_
    refine aw_lo (lo' := [some (.ref b), some (.ref (oa 0)), some (.ref o), some (.ref (oa 115)), some (.int (i + 7)), none, none]) ⟨.inr rfl, .inr rfl, .inr rfl, .inr rfl, .inr rfl, .inl rfl, .inr rfl, trivial⟩ ?_
    refine aw_widen (nc' := 155 + (j + 1)) (ns' := 395046 + 6 * (j + 1)) (by omega) (by omega) ?_
    exact hRR _ _ _ _ (by omega) hp
  · have hp := hp.2 hc
    exact hp.elim
set_option maxRecDepth 100000 in
set_option maxHeartbeats 1000000 in
theorem sh_law_11 (C : fcx gG D z A X R_Lw code 7 ret) (hfl : X.2.1.flags = pinnedFlags ++ [noTraceFlag]) (hR : X.2.2.2.1 = room_1) (hX : va_X b n xs X.2.2.2.2.1 X.2.2.2.2.1.heap) (hbl : b < X.2.2.2.2.1.heap.size) (hbA : ¬ A b) (hQ : X.2.2.2.2.2.2.2.2.2.2 = eQ gG D z X.2.2.2.2.2.2.2.1 X.2.2.2.2.1 [] 600001 7302226 (fun o _ => o = .returned (some (.int 1)))) (hA : A = owA gG [] X.2.2.2.2.1.heap.size) (hu0 : c_cl U 0 = 1) {R : Nat → Int32 → cs → ms → Prop} (j : Nat) (i : Int32) (S : cs) (M : ms) (hj : j ≤ 511) (hRR : ∀ (j : Nat) (i : Int32) (S : cs) (M : ms), j ≤ 512 → R j i S M → aw gG D z A X 7 23 [some (.ref b), some (.ref (oa 0)), some (.ref o), some (.ref (oa 115)), some (.int i), none, none] [] (lW U oa S o ad M) (155 + j) (395046 + 6 * j)) (hp : h_law_11 U n xs j i S M R) : aw gG D z A X 7 875 [some (.ref b), some (.ref (oa 0)), some (.ref o), some (.ref (oa 115)), some (.int i), none, none] [] (lW U oa S o ad M) (155 + j) (395046 + 6 * j) := by
  unfold h_law_11 at hp
  refine a_aload_n C dl_875 rfl rfl ?_
  refine a_aload_n C dl_876 rfl rfl ?_
  refine a_iload C dl_877 rfl ?_
  refine a_iconst (v := 1) C dl_879 (by decide) ?_
  refine a_iadd C dl_880 ?_
  refine l_sld C hX hbl hbA dl_881 hp.1 ?_
  have hp := hp.2
  refine a_aload_n C dl_882 rfl rfl ?_
  refine a_iload C dl_883 rfl ?_
  refine a_iconst (v := 2) C dl_885 (by decide) ?_
  refine a_iadd C dl_886 ?_
  refine l_sld C hX hbl hbA dl_887 hp.1 ?_
  have hp := hp.2
  refine a_aload_n C dl_888 rfl rfl ?_
  refine l_callW (rest := []) (av := [.ref (oa 0), .int (xs (i + 1).toNatClampNeg), .int (xs (i + 2).toNatClampNeg), .ref (oa 115)]) C dl_889 (ct_Lw_change 0 (xs (i + 1).toNatClampNeg) (xs (i + 2).toNatClampNeg) 115 S hfl hp) cd_C_Lw_change i_Lw (Nat.le_of_ble_eq_true rfl) (by rw [hR]; exact Nat.le_of_ble_eq_true rfl) (by rw [hR]; exact Nat.le_of_ble_eq_true rfl) (by rw [hR]; simp only [room_1]; omega) (by rw [hR]; simp only [room_1]; omega) (inv_SW C dl_889 l_Lw_125 st_C_Lw_change i_Lw cd_C_Lw_change ⟨by decide, by decide⟩ ln_C_Lw_change rfl) (fun v889 S889 hp => ?_)
  refine a_istore (lo' := [some (.ref b), some (.ref (oa 0)), some (.ref o), some (.ref (oa 115)), some (.int i), some (.int v889), none]) C dl_892 (by decide) rfl ?_
  refine a_aload_n C dl_894 rfl rfl ?_
  refine a_aload_n C dl_895 rfl rfl ?_
  refine a_iload C dl_896 rfl ?_
  refine a_iconst (v := 1) C dl_898 (by decide) ?_
  refine a_iadd C dl_899 ?_
  refine l_sld C hX hbl hbA dl_900 hp.1 ?_
  have hp := hp.2
  refine a_aload_n C dl_901 rfl rfl ?_
  refine a_iload C dl_902 rfl ?_
  refine a_iconst (v := 2) C dl_904 (by decide) ?_
  refine a_iadd C dl_905 ?_
  refine l_sld C hX hbl hbA dl_906 hp.1 ?_
  have hp := hp.2
  refine l_callMi (rest := []) (av := .ref o :: [.int (xs (i + 1).toNatClampNeg), .int (xs (i + 2).toNatClampNeg)]) C dl_907 (ct_change (xs (i + 1).toNatClampNeg) (xs (i + 2).toNatClampNeg) M hp) cd_M_change i_M (Nat.le_of_ble_eq_true rfl) (by rw [hR]; exact Nat.le_of_ble_eq_true rfl) (by rw [hR]; exact Nat.le_of_ble_eq_true rfl) (by rw [hR]; simp only [room_1]; omega) (by rw [hR]; simp only [room_1]; omega) (inv_V C 0 dl_907 l_Lw_128 im_M_change se_M_change cd_M_change ⟨by decide, by decide⟩ ln_M_change rfl rfl rfl rfl rfl) (fun v907 M907 hp => ?_)
  refine a_istore (lo' := [some (.ref b), some (.ref (oa 0)), some (.ref o), some (.ref (oa 115)), some (.int i), some (.int v889), some (.int v907)]) C dl_910 (by decide) rfl ?_
  refine a_aload_n C dl_912 rfl rfl ?_
  refine l_callMi (rest := []) (av := .ref o :: []) C dl_913 (ct_thrown  M907 hp) cd_M_thrown i_M (Nat.le_of_ble_eq_true rfl) (by rw [hR]; exact Nat.le_of_ble_eq_true rfl) (by rw [hR]; exact Nat.le_of_ble_eq_true rfl) (by rw [hR]; simp only [room_1]; omega) (by rw [hR]; simp only [room_1]; omega) (inv_V C 0 dl_913 l_Lw_84 im_M_thrown se_M_thrown cd_M_thrown ⟨by decide, by decide⟩ ln_M_thrown rfl rfl rfl rfl rfl) (fun v913 M913 hp => ?_)
  refine a_iload C dl_916 rfl ?_
  refine a_icmp_eq (tgt := 923) C dl_918 (by decide) ⟨fun hc => ?_, fun hc => ?_⟩
  · have hp := hp.1 hc
    refine a_iload C dl_923 rfl ?_
    refine a_if_ne (tgt := 940) C dl_925 (by decide) ⟨fun hc => ?_, fun hc => ?_⟩
    · have hp := hp.1 hc
      refine a_goto (tgt := 1265) C dl_940 (by decide) ?_
      refine a_iinc (v := i + 7) (lo' := [some (.ref b), some (.ref (oa 0)), some (.ref o), some (.ref (oa 115)), some (.int (i + 7)), some (.int v889), some (.int v907)]) C dl_1265 rfl rfl (by decide) rfl ?_
      refine a_goto (tgt := 23) C dl_1268 (by decide) ?_
      refine aw_lo (lo' := [some (.ref b), some (.ref (oa 0)), some (.ref o), some (.ref (oa 115)), some (.int (i + 7)), none, none]) ⟨.inr rfl, .inr rfl, .inr rfl, .inr rfl, .inr rfl, .inl rfl, .inl rfl, trivial⟩ ?_
      refine aw_widen (nc' := 155 + (j + 1)) (ns' := 395046 + 6 * (j + 1)) (by omega) (by omega) ?_
      exact hRR _ _ _ _ (by omega) hp
    · have hp := hp.2 hc
      refine a_aload_n C dl_928 rfl rfl ?_
      refine a_iconst (v := 0) C dl_929 (by decide) ?_
      refine l_lald C 115 dl_930 hp.1 hp.2.1 ?_
      have hp := hp.2.2
      refine a_iload C dl_931 rfl ?_
      refine a_i2l C dl_933 ?_
      refine a_lcmp C dl_934 ?_
      refine a_if_eq (tgt := 940) C dl_935 (by decide) ⟨fun hc => ?_, fun hc => ?_⟩
      · have hp := hp.1 hc
        refine a_goto (tgt := 1265) C dl_940 (by decide) ?_
        refine a_iinc (v := i + 7) (lo' := [some (.ref b), some (.ref (oa 0)), some (.ref o), some (.ref (oa 115)), some (.int (i + 7)), some (.int v889), some (.int v907)]) C dl_1265 rfl rfl (by decide) rfl ?_
        refine a_goto (tgt := 23) C dl_1268 (by decide) ?_
        refine aw_lo (lo' := [some (.ref b), some (.ref (oa 0)), some (.ref o), some (.ref (oa 115)), some (.int (i + 7)), none, none]) ⟨.inr rfl, .inr rfl, .inr rfl, .inr rfl, .inr rfl, .inl rfl, .inl rfl, trivial⟩ ?_
        refine aw_widen (nc' := 155 + (j + 1)) (ns' := 395046 + 6 * (j + 1)) (by omega) (by omega) ?_
        exact hRR _ _ _ _ (by omega) hp
      · have hp := hp.2 hc
        exact hp.elim
  · have hp := hp.2 hc
    exact hp.elim
set_option maxRecDepth 100000 in
set_option maxHeartbeats 1000000 in
theorem sh_law_12 (C : fcx gG D z A X R_Lw code 7 ret) (hfl : X.2.1.flags = pinnedFlags ++ [noTraceFlag]) (hR : X.2.2.2.1 = room_1) (hX : va_X b n xs X.2.2.2.2.1 X.2.2.2.2.1.heap) (hbl : b < X.2.2.2.2.1.heap.size) (hbA : ¬ A b) (hQ : X.2.2.2.2.2.2.2.2.2.2 = eQ gG D z X.2.2.2.2.2.2.2.1 X.2.2.2.2.1 [] 600001 7302226 (fun o _ => o = .returned (some (.int 1)))) (hA : A = owA gG [] X.2.2.2.2.1.heap.size) (hu0 : c_cl U 0 = 1) {R : Nat → Int32 → cs → ms → Prop} (j : Nat) (i : Int32) (S : cs) (M : ms) (hj : j ≤ 511) (hRR : ∀ (j : Nat) (i : Int32) (S : cs) (M : ms), j ≤ 512 → R j i S M → aw gG D z A X 7 23 [some (.ref b), some (.ref (oa 0)), some (.ref o), some (.ref (oa 115)), some (.int i), none, none] [] (lW U oa S o ad M) (155 + j) (395046 + 6 * j)) (hp : h_law_12 U n xs j i S M R) : aw gG D z A X 7 943 [some (.ref b), some (.ref (oa 0)), some (.ref o), some (.ref (oa 115)), some (.int i), none, none] [] (lW U oa S o ad M) (155 + j) (395046 + 6 * j) := by
  unfold h_law_12 at hp
  refine a_aload_n C dl_943 rfl rfl ?_
  refine a_aload_n C dl_944 rfl rfl ?_
  refine l_callW (rest := []) (av := [.ref (oa 0), .ref (oa 115)]) C dl_945 (ct_Lw_turn 0 115 S hfl hp) cd_C_Lw_turn i_Lw (Nat.le_of_ble_eq_true rfl) (by rw [hR]; exact Nat.le_of_ble_eq_true rfl) (by rw [hR]; exact Nat.le_of_ble_eq_true rfl) (by rw [hR]; simp only [room_1]; omega) (by rw [hR]; simp only [room_1]; omega) (inv_SW C dl_945 l_Lw_129 st_C_Lw_turn i_Lw cd_C_Lw_turn ⟨by decide, by decide⟩ ln_C_Lw_turn rfl) (fun v945 S945 hp => ?_)
  refine a_istore (lo' := [some (.ref b), some (.ref (oa 0)), some (.ref o), some (.ref (oa 115)), some (.int i), some (.int v945), none]) C dl_948 (by decide) rfl ?_
  refine a_aload_n C dl_950 rfl rfl ?_
  refine l_callMi (rest := []) (av := .ref o :: []) C dl_951 (ct_turn2  M hp) cd_M_turn2 i_M (Nat.le_of_ble_eq_true rfl) (by rw [hR]; exact Nat.le_of_ble_eq_true rfl) (by rw [hR]; exact Nat.le_of_ble_eq_true rfl) (by rw [hR]; simp only [room_1]; omega) (by rw [hR]; simp only [room_1]; omega) (inv_V C 0 dl_951 l_Lw_132 im_M_turn2 se_M_turn2 cd_M_turn2 ⟨by decide, by decide⟩ ln_M_turn2 rfl rfl rfl rfl rfl) (fun v951 M951 hp => ?_)
  refine a_istore (lo' := [some (.ref b), some (.ref (oa 0)), some (.ref o), some (.ref (oa 115)), some (.int i), some (.int v945), some (.int v951)]) C dl_954 (by decide) rfl ?_
  refine a_aload_n C dl_956 rfl rfl ?_
  refine l_callMi (rest := []) (av := .ref o :: []) C dl_957 (ct_thrown  M951 hp) cd_M_thrown i_M (Nat.le_of_ble_eq_true rfl) (by rw [hR]; exact Nat.le_of_ble_eq_true rfl) (by rw [hR]; exact Nat.le_of_ble_eq_true rfl) (by rw [hR]; simp only [room_1]; omega) (by rw [hR]; simp only [room_1]; omega) (inv_V C 0 dl_957 l_Lw_84 im_M_thrown se_M_thrown cd_M_thrown ⟨by decide, by decide⟩ ln_M_thrown rfl rfl rfl rfl rfl) (fun v957 M957 hp => ?_)
  refine a_iload C dl_960 rfl ?_
  refine a_icmp_eq (tgt := 967) C dl_962 (by decide) ⟨fun hc => ?_, fun hc => ?_⟩
  · have hp := hp.1 hc
    refine a_iload C dl_967 rfl ?_
    refine a_if_ne (tgt := 984) C dl_969 (by decide) ⟨fun hc => ?_, fun hc => ?_⟩
    · have hp := hp.1 hc
      refine a_goto (tgt := 1265) C dl_984 (by decide) ?_
      refine a_iinc (v := i + 7) (lo' := [some (.ref b), some (.ref (oa 0)), some (.ref o), some (.ref (oa 115)), some (.int (i + 7)), some (.int v945), some (.int v951)]) C dl_1265 rfl rfl (by decide) rfl ?_
      refine a_goto (tgt := 23) C dl_1268 (by decide) ?_
      refine aw_lo (lo' := [some (.ref b), some (.ref (oa 0)), some (.ref o), some (.ref (oa 115)), some (.int (i + 7)), none, none]) ⟨.inr rfl, .inr rfl, .inr rfl, .inr rfl, .inr rfl, .inl rfl, .inl rfl, trivial⟩ ?_
      refine aw_widen (nc' := 155 + (j + 1)) (ns' := 395046 + 6 * (j + 1)) (by omega) (by omega) ?_
      exact hRR _ _ _ _ (by omega) hp
    · have hp := hp.2 hc
      refine a_aload_n C dl_972 rfl rfl ?_
      refine a_iconst (v := 0) C dl_973 (by decide) ?_
      refine l_lald C 115 dl_974 hp.1 hp.2.1 ?_
      have hp := hp.2.2
      refine a_iload C dl_975 rfl ?_
      refine a_i2l C dl_977 ?_
      refine a_lcmp C dl_978 ?_
      refine a_if_eq (tgt := 984) C dl_979 (by decide) ⟨fun hc => ?_, fun hc => ?_⟩
      · have hp := hp.1 hc
        refine a_goto (tgt := 1265) C dl_984 (by decide) ?_
        refine a_iinc (v := i + 7) (lo' := [some (.ref b), some (.ref (oa 0)), some (.ref o), some (.ref (oa 115)), some (.int (i + 7)), some (.int v945), some (.int v951)]) C dl_1265 rfl rfl (by decide) rfl ?_
        refine a_goto (tgt := 23) C dl_1268 (by decide) ?_
        refine aw_lo (lo' := [some (.ref b), some (.ref (oa 0)), some (.ref o), some (.ref (oa 115)), some (.int (i + 7)), none, none]) ⟨.inr rfl, .inr rfl, .inr rfl, .inr rfl, .inr rfl, .inl rfl, .inl rfl, trivial⟩ ?_
        refine aw_widen (nc' := 155 + (j + 1)) (ns' := 395046 + 6 * (j + 1)) (by omega) (by omega) ?_
        exact hRR _ _ _ _ (by omega) hp
      · have hp := hp.2 hc
        exact hp.elim
  · have hp := hp.2 hc
    exact hp.elim
set_option maxRecDepth 100000 in
set_option maxHeartbeats 1000000 in
theorem sh_law_13 (C : fcx gG D z A X R_Lw code 7 ret) (hfl : X.2.1.flags = pinnedFlags ++ [noTraceFlag]) (hR : X.2.2.2.1 = room_1) (hX : va_X b n xs X.2.2.2.2.1 X.2.2.2.2.1.heap) (hbl : b < X.2.2.2.2.1.heap.size) (hbA : ¬ A b) (hQ : X.2.2.2.2.2.2.2.2.2.2 = eQ gG D z X.2.2.2.2.2.2.2.1 X.2.2.2.2.1 [] 600001 7302226 (fun o _ => o = .returned (some (.int 1)))) (hA : A = owA gG [] X.2.2.2.2.1.heap.size) (hu0 : c_cl U 0 = 1) {R : Nat → Int32 → cs → ms → Prop} (j : Nat) (i : Int32) (S : cs) (M : ms) (hj : j ≤ 511) (hRR : ∀ (j : Nat) (i : Int32) (S : cs) (M : ms), j ≤ 512 → R j i S M → aw gG D z A X 7 23 [some (.ref b), some (.ref (oa 0)), some (.ref o), some (.ref (oa 115)), some (.int i), none, none] [] (lW U oa S o ad M) (155 + j) (395046 + 6 * j)) (hp : h_law_13 U n xs j i S M R) : aw gG D z A X 7 987 [some (.ref b), some (.ref (oa 0)), some (.ref o), some (.ref (oa 115)), some (.int i), none, none] [] (lW U oa S o ad M) (155 + j) (395046 + 6 * j) := by
  unfold h_law_13 at hp
  refine a_aload_n C dl_987 rfl rfl ?_
  refine l_callW (rest := []) (av := .ref (oa 0) :: []) C dl_988 (ct_B_unpack 0 S hfl hu0 hp) cd_C_B_unpack i_B (Nat.le_of_ble_eq_true rfl) (by rw [hR]; exact Nat.le_of_ble_eq_true rfl) (by rw [hR]; exact Nat.le_of_ble_eq_true rfl) (by rw [hR]; simp only [room_1]; omega) (by rw [hR]; simp only [room_1]; omega) (inv_VW C 1 dl_988 l_Lw_133 im_C_B_unpack se_C_B_unpack cd_C_B_unpack ⟨by decide, by decide⟩ ln_C_B_unpack rfl rfl (show (lW U oa S o ad M)[1]? = _ from cw_obj hu0 rfl) rfl rfl) (fun v988 S988 hp => ?_)
  refine a_aload_n C dl_991 rfl rfl ?_
  refine l_callMi (rest := [.int v988]) (av := .ref o :: []) C dl_992 (ct_unpack  M hp) cd_M_unpack i_M (Nat.le_of_ble_eq_true rfl) (by rw [hR]; exact Nat.le_of_ble_eq_true rfl) (by rw [hR]; exact Nat.le_of_ble_eq_true rfl) (by rw [hR]; simp only [room_1]; omega) (by rw [hR]; simp only [room_1]; omega) (inv_V C 0 dl_992 l_Lw_136 im_M_unpack se_M_unpack cd_M_unpack ⟨by decide, by decide⟩ ln_M_unpack rfl rfl rfl rfl rfl) (fun v992 M992 hp => ?_)
  refine a_icmp_eq (tgt := 1265) C dl_995 (by decide) ⟨fun hc => ?_, fun hc => ?_⟩
  · have hp := hp.1 hc
    refine a_iinc (v := i + 7) (lo' := [some (.ref b), some (.ref (oa 0)), some (.ref o), some (.ref (oa 115)), some (.int (i + 7)), none, none]) C dl_1265 rfl rfl (by decide) rfl ?_
    refine a_goto (tgt := 23) C dl_1268 (by decide) ?_
    refine aw_lo (lo' := [some (.ref b), some (.ref (oa 0)), some (.ref o), some (.ref (oa 115)), some (.int (i + 7)), none, none]) ⟨.inr rfl, .inr rfl, .inr rfl, .inr rfl, .inr rfl, .inr rfl, .inr rfl, trivial⟩ ?_
    refine aw_widen (nc' := 155 + (j + 1)) (ns' := 395046 + 6 * (j + 1)) (by omega) (by omega) ?_
    exact hRR _ _ _ _ (by omega) hp
  · have hp := hp.2 hc
    exact hp.elim
set_option maxRecDepth 100000 in
set_option maxHeartbeats 1000000 in
theorem sh_law_14 (C : fcx gG D z A X R_Lw code 7 ret) (hfl : X.2.1.flags = pinnedFlags ++ [noTraceFlag]) (hR : X.2.2.2.1 = room_1) (hX : va_X b n xs X.2.2.2.2.1 X.2.2.2.2.1.heap) (hbl : b < X.2.2.2.2.1.heap.size) (hbA : ¬ A b) (hQ : X.2.2.2.2.2.2.2.2.2.2 = eQ gG D z X.2.2.2.2.2.2.2.1 X.2.2.2.2.1 [] 600001 7302226 (fun o _ => o = .returned (some (.int 1)))) (hA : A = owA gG [] X.2.2.2.2.1.heap.size) (hu0 : c_cl U 0 = 1) {R : Nat → Int32 → cs → ms → Prop} (j : Nat) (i : Int32) (S : cs) (M : ms) (hj : j ≤ 511) (hRR : ∀ (j : Nat) (i : Int32) (S : cs) (M : ms), j ≤ 512 → R j i S M → aw gG D z A X 7 23 [some (.ref b), some (.ref (oa 0)), some (.ref o), some (.ref (oa 115)), some (.int i), none, none] [] (lW U oa S o ad M) (155 + j) (395046 + 6 * j)) (hp : h_law_14 U n xs j i S M R) : aw gG D z A X 7 1000 [some (.ref b), some (.ref (oa 0)), some (.ref o), some (.ref (oa 115)), some (.int i), none, none] [] (lW U oa S o ad M) (155 + j) (395046 + 6 * j) := by
  unfold h_law_14 at hp
  refine a_aload_n C dl_1000 rfl rfl ?_
  refine l_callC (rest := []) (av := .ref (oa 0) :: []) C dl_1001 (ct_B_place 0 S hu0 hp) cd_C_B_place i_B (Nat.le_of_ble_eq_true rfl) (by rw [hR]; exact Nat.le_of_ble_eq_true rfl) (by rw [hR]; exact Nat.le_of_ble_eq_true rfl) (by rw [hR]; simp only [room_1]; omega) (by rw [hR]; simp only [room_1]; omega) (inv_V C 1 dl_1001 l_Lw_137 im_C_B_place se_C_B_place cd_C_B_place ⟨by decide, by decide⟩ ln_C_B_place rfl rfl (show (lW U oa S o ad M)[1]? = _ from cw_obj hu0 rfl) rfl rfl) (fun v1001 S1001 hp => ?_)
  refine a_aload_n C dl_1004 rfl rfl ?_
  refine l_callMi (rest := [.int v1001]) (av := .ref o :: []) C dl_1005 (ct_place  M hp) cd_M_place i_M (Nat.le_of_ble_eq_true rfl) (by rw [hR]; exact Nat.le_of_ble_eq_true rfl) (by rw [hR]; exact Nat.le_of_ble_eq_true rfl) (by rw [hR]; simp only [room_1]; omega) (by rw [hR]; simp only [room_1]; omega) (inv_V C 0 dl_1005 l_Lw_140 im_M_place se_M_place cd_M_place ⟨by decide, by decide⟩ ln_M_place rfl rfl rfl rfl rfl) (fun v1005 M1005 hp => ?_)
  refine a_icmp_eq (tgt := 1265) C dl_1008 (by decide) ⟨fun hc => ?_, fun hc => ?_⟩
  · have hp := hp.1 hc
    refine a_iinc (v := i + 7) (lo' := [some (.ref b), some (.ref (oa 0)), some (.ref o), some (.ref (oa 115)), some (.int (i + 7)), none, none]) C dl_1265 rfl rfl (by decide) rfl ?_
    refine a_goto (tgt := 23) C dl_1268 (by decide) ?_
    refine aw_lo (lo' := [some (.ref b), some (.ref (oa 0)), some (.ref o), some (.ref (oa 115)), some (.int (i + 7)), none, none]) ⟨.inr rfl, .inr rfl, .inr rfl, .inr rfl, .inr rfl, .inr rfl, .inr rfl, trivial⟩ ?_
    refine aw_widen (nc' := 155 + (j + 1)) (ns' := 395046 + 6 * (j + 1)) (by omega) (by omega) ?_
    exact hRR _ _ _ _ (by omega) hp
  · have hp := hp.2 hc
    exact hp.elim
set_option maxRecDepth 100000 in
set_option maxHeartbeats 1000000 in
theorem sh_law_15 (C : fcx gG D z A X R_Lw code 7 ret) (hfl : X.2.1.flags = pinnedFlags ++ [noTraceFlag]) (hR : X.2.2.2.1 = room_1) (hX : va_X b n xs X.2.2.2.2.1 X.2.2.2.2.1.heap) (hbl : b < X.2.2.2.2.1.heap.size) (hbA : ¬ A b) (hQ : X.2.2.2.2.2.2.2.2.2.2 = eQ gG D z X.2.2.2.2.2.2.2.1 X.2.2.2.2.1 [] 600001 7302226 (fun o _ => o = .returned (some (.int 1)))) (hA : A = owA gG [] X.2.2.2.2.1.heap.size) (hu0 : c_cl U 0 = 1) {R : Nat → Int32 → cs → ms → Prop} (j : Nat) (i : Int32) (S : cs) (M : ms) (hj : j ≤ 511) (hRR : ∀ (j : Nat) (i : Int32) (S : cs) (M : ms), j ≤ 512 → R j i S M → aw gG D z A X 7 23 [some (.ref b), some (.ref (oa 0)), some (.ref o), some (.ref (oa 115)), some (.int i), none, none] [] (lW U oa S o ad M) (155 + j) (395046 + 6 * j)) (hp : h_law_15 U n xs j i S M R) : aw gG D z A X 7 1013 [some (.ref b), some (.ref (oa 0)), some (.ref o), some (.ref (oa 115)), some (.int i), none, none] [] (lW U oa S o ad M) (155 + j) (395046 + 6 * j) := by
  unfold h_law_15 at hp
  refine a_aload_n C dl_1013 rfl rfl ?_
  refine a_aload_n C dl_1014 rfl rfl ?_
  refine a_iload C dl_1015 rfl ?_
  refine a_iconst (v := 1) C dl_1017 (by decide) ?_
  refine a_iadd C dl_1018 ?_
  refine l_sld C hX hbl hbA dl_1019 hp.1 ?_
  have hp := hp.2
  refine a_aload_n C dl_1020 rfl rfl ?_
  refine l_callW (rest := []) (av := [.ref (oa 0), .int (xs (i + 1).toNatClampNeg), .ref (oa 115)]) C dl_1021 (ct_Lw_about 0 (xs (i + 1).toNatClampNeg) 115 S hfl hp) cd_C_Lw_about i_Lw (Nat.le_of_ble_eq_true rfl) (by rw [hR]; exact Nat.le_of_ble_eq_true rfl) (by rw [hR]; exact Nat.le_of_ble_eq_true rfl) (by rw [hR]; simp only [room_1]; omega) (by rw [hR]; simp only [room_1]; omega) (inv_SW C dl_1021 l_Lw_141 st_C_Lw_about i_Lw cd_C_Lw_about ⟨by decide, by decide⟩ ln_C_Lw_about rfl) (fun v1021 S1021 hp => ?_)
  refine a_istore (lo' := [some (.ref b), some (.ref (oa 0)), some (.ref o), some (.ref (oa 115)), some (.int i), some (.int v1021), none]) C dl_1024 (by decide) rfl ?_
  refine a_aload_n C dl_1026 rfl rfl ?_
  refine a_aload_n C dl_1027 rfl rfl ?_
  refine a_iload C dl_1028 rfl ?_
  refine a_iconst (v := 1) C dl_1030 (by decide) ?_
  refine a_iadd C dl_1031 ?_
  refine l_sld C hX hbl hbA dl_1032 hp.1 ?_
  have hp := hp.2
  refine l_callMi (rest := []) (av := .ref o :: [.int (xs (i + 1).toNatClampNeg)]) C dl_1033 (ct_about (xs (i + 1).toNatClampNeg) M hp) cd_M_about i_M (Nat.le_of_ble_eq_true rfl) (by rw [hR]; exact Nat.le_of_ble_eq_true rfl) (by rw [hR]; exact Nat.le_of_ble_eq_true rfl) (by rw [hR]; simp only [room_1]; omega) (by rw [hR]; simp only [room_1]; omega) (inv_V C 0 dl_1033 l_Lw_143 im_M_about se_M_about cd_M_about ⟨by decide, by decide⟩ ln_M_about rfl rfl rfl rfl rfl) (fun v1033 M1033 hp => ?_)
  refine a_istore (lo' := [some (.ref b), some (.ref (oa 0)), some (.ref o), some (.ref (oa 115)), some (.int i), some (.int v1021), some (.int v1033)]) C dl_1036 (by decide) rfl ?_
  refine a_aload_n C dl_1038 rfl rfl ?_
  refine l_callMi (rest := []) (av := .ref o :: []) C dl_1039 (ct_thrown  M1033 hp) cd_M_thrown i_M (Nat.le_of_ble_eq_true rfl) (by rw [hR]; exact Nat.le_of_ble_eq_true rfl) (by rw [hR]; exact Nat.le_of_ble_eq_true rfl) (by rw [hR]; simp only [room_1]; omega) (by rw [hR]; simp only [room_1]; omega) (inv_V C 0 dl_1039 l_Lw_84 im_M_thrown se_M_thrown cd_M_thrown ⟨by decide, by decide⟩ ln_M_thrown rfl rfl rfl rfl rfl) (fun v1039 M1039 hp => ?_)
  refine a_iload C dl_1042 rfl ?_
  refine a_icmp_eq (tgt := 1049) C dl_1044 (by decide) ⟨fun hc => ?_, fun hc => ?_⟩
  · have hp := hp.1 hc
    refine a_iload C dl_1049 rfl ?_
    refine a_if_ne (tgt := 1066) C dl_1051 (by decide) ⟨fun hc => ?_, fun hc => ?_⟩
    · have hp := hp.1 hc
      refine a_goto (tgt := 1265) C dl_1066 (by decide) ?_
      refine a_iinc (v := i + 7) (lo' := [some (.ref b), some (.ref (oa 0)), some (.ref o), some (.ref (oa 115)), some (.int (i + 7)), some (.int v1021), some (.int v1033)]) C dl_1265 rfl rfl (by decide) rfl ?_
      refine a_goto (tgt := 23) C dl_1268 (by decide) ?_
      refine aw_lo (lo' := [some (.ref b), some (.ref (oa 0)), some (.ref o), some (.ref (oa 115)), some (.int (i + 7)), none, none]) ⟨.inr rfl, .inr rfl, .inr rfl, .inr rfl, .inr rfl, .inl rfl, .inl rfl, trivial⟩ ?_
      refine aw_widen (nc' := 155 + (j + 1)) (ns' := 395046 + 6 * (j + 1)) (by omega) (by omega) ?_
      exact hRR _ _ _ _ (by omega) hp
    · have hp := hp.2 hc
      refine a_aload_n C dl_1054 rfl rfl ?_
      refine a_iconst (v := 0) C dl_1055 (by decide) ?_
      refine l_lald C 115 dl_1056 hp.1 hp.2.1 ?_
      have hp := hp.2.2
      refine a_iload C dl_1057 rfl ?_
      refine a_i2l C dl_1059 ?_
      refine a_lcmp C dl_1060 ?_
      refine a_if_eq (tgt := 1066) C dl_1061 (by decide) ⟨fun hc => ?_, fun hc => ?_⟩
      · have hp := hp.1 hc
        refine a_goto (tgt := 1265) C dl_1066 (by decide) ?_
        refine a_iinc (v := i + 7) (lo' := [some (.ref b), some (.ref (oa 0)), some (.ref o), some (.ref (oa 115)), some (.int (i + 7)), some (.int v1021), some (.int v1033)]) C dl_1265 rfl rfl (by decide) rfl ?_
        refine a_goto (tgt := 23) C dl_1268 (by decide) ?_
        refine aw_lo (lo' := [some (.ref b), some (.ref (oa 0)), some (.ref o), some (.ref (oa 115)), some (.int (i + 7)), none, none]) ⟨.inr rfl, .inr rfl, .inr rfl, .inr rfl, .inr rfl, .inl rfl, .inl rfl, trivial⟩ ?_
        refine aw_widen (nc' := 155 + (j + 1)) (ns' := 395046 + 6 * (j + 1)) (by omega) (by omega) ?_
        exact hRR _ _ _ _ (by omega) hp
      · have hp := hp.2 hc
        exact hp.elim
  · have hp := hp.2 hc
    exact hp.elim
set_option maxRecDepth 100000 in
set_option maxHeartbeats 1000000 in
theorem sh_law_16 (C : fcx gG D z A X R_Lw code 7 ret) (hfl : X.2.1.flags = pinnedFlags ++ [noTraceFlag]) (hR : X.2.2.2.1 = room_1) (hX : va_X b n xs X.2.2.2.2.1 X.2.2.2.2.1.heap) (hbl : b < X.2.2.2.2.1.heap.size) (hbA : ¬ A b) (hQ : X.2.2.2.2.2.2.2.2.2.2 = eQ gG D z X.2.2.2.2.2.2.2.1 X.2.2.2.2.1 [] 600001 7302226 (fun o _ => o = .returned (some (.int 1)))) (hA : A = owA gG [] X.2.2.2.2.1.heap.size) (hu0 : c_cl U 0 = 1) {R : Nat → Int32 → cs → ms → Prop} (j : Nat) (i : Int32) (S : cs) (M : ms) (hj : j ≤ 511) (hRR : ∀ (j : Nat) (i : Int32) (S : cs) (M : ms), j ≤ 512 → R j i S M → aw gG D z A X 7 23 [some (.ref b), some (.ref (oa 0)), some (.ref o), some (.ref (oa 115)), some (.int i), none, none] [] (lW U oa S o ad M) (155 + j) (395046 + 6 * j)) (hp : h_law_16 U n xs j i S M R) : aw gG D z A X 7 1069 [some (.ref b), some (.ref (oa 0)), some (.ref o), some (.ref (oa 115)), some (.int i), none, none] [] (lW U oa S o ad M) (155 + j) (395046 + 6 * j) := by
  unfold h_law_16 at hp
  refine a_aload_n C dl_1069 rfl rfl ?_
  refine a_aload_n C dl_1070 rfl rfl ?_
  refine a_iload C dl_1071 rfl ?_
  refine a_iconst (v := 1) C dl_1073 (by decide) ?_
  refine a_iadd C dl_1074 ?_
  refine l_sld C hX hbl hbA dl_1075 hp.1 ?_
  have hp := hp.2
  refine a_aload_n C dl_1076 rfl rfl ?_
  refine a_iload C dl_1077 rfl ?_
  refine a_iconst (v := 2) C dl_1079 (by decide) ?_
  refine a_iadd C dl_1080 ?_
  refine l_sld C hX hbl hbA dl_1081 hp.1 ?_
  have hp := hp.2
  refine a_aload_n C dl_1082 rfl rfl ?_
  refine a_iload C dl_1083 rfl ?_
  refine a_iconst (v := 3) C dl_1085 (by decide) ?_
  refine a_iadd C dl_1086 ?_
  refine l_sld C hX hbl hbA dl_1087 hp.1 ?_
  have hp := hp.2
  refine a_aload_n C dl_1088 rfl rfl ?_
  refine l_callW (rest := []) (av := [.ref (oa 0), .int (xs (i + 1).toNatClampNeg), .int (xs (i + 2).toNatClampNeg), .int (xs (i + 3).toNatClampNeg), .ref (oa 115)]) C dl_1089 (ct_Lw_sample 0 (xs (i + 1).toNatClampNeg) (xs (i + 2).toNatClampNeg) (xs (i + 3).toNatClampNeg) 115 S hfl hp) cd_C_Lw_sample i_Lw (Nat.le_of_ble_eq_true rfl) (by rw [hR]; exact Nat.le_of_ble_eq_true rfl) (by rw [hR]; exact Nat.le_of_ble_eq_true rfl) (by rw [hR]; simp only [room_1]; omega) (by rw [hR]; simp only [room_1]; omega) (inv_SW C dl_1089 l_Lw_144 st_C_Lw_sample i_Lw cd_C_Lw_sample ⟨by decide, by decide⟩ ln_C_Lw_sample rfl) (fun v1089 S1089 hp => ?_)
  refine a_istore (lo' := [some (.ref b), some (.ref (oa 0)), some (.ref o), some (.ref (oa 115)), some (.int i), some (.int v1089), none]) C dl_1092 (by decide) rfl ?_
  refine a_aload_n C dl_1094 rfl rfl ?_
  refine a_aload_n C dl_1095 rfl rfl ?_
  refine a_iload C dl_1096 rfl ?_
  refine a_iconst (v := 1) C dl_1098 (by decide) ?_
  refine a_iadd C dl_1099 ?_
  refine l_sld C hX hbl hbA dl_1100 hp.1 ?_
  have hp := hp.2
  refine a_aload_n C dl_1101 rfl rfl ?_
  refine a_iload C dl_1102 rfl ?_
  refine a_iconst (v := 2) C dl_1104 (by decide) ?_
  refine a_iadd C dl_1105 ?_
  refine l_sld C hX hbl hbA dl_1106 hp.1 ?_
  have hp := hp.2
  refine a_aload_n C dl_1107 rfl rfl ?_
  refine a_iload C dl_1108 rfl ?_
  refine a_iconst (v := 3) C dl_1110 (by decide) ?_
  refine a_iadd C dl_1111 ?_
  refine l_sld C hX hbl hbA dl_1112 hp.1 ?_
  have hp := hp.2
  refine l_callMi (rest := []) (av := .ref o :: [.int (xs (i + 1).toNatClampNeg), .int (xs (i + 2).toNatClampNeg), .int (xs (i + 3).toNatClampNeg)]) C dl_1113 (ct_sample (xs (i + 1).toNatClampNeg) (xs (i + 2).toNatClampNeg) (xs (i + 3).toNatClampNeg) M hp) cd_M_sample i_M (Nat.le_of_ble_eq_true rfl) (by rw [hR]; exact Nat.le_of_ble_eq_true rfl) (by rw [hR]; exact Nat.le_of_ble_eq_true rfl) (by rw [hR]; simp only [room_1]; omega) (by rw [hR]; simp only [room_1]; omega) (inv_V C 0 dl_1113 l_Lw_146 im_M_sample se_M_sample cd_M_sample ⟨by decide, by decide⟩ ln_M_sample rfl rfl rfl rfl rfl) (fun v1113 M1113 hp => ?_)
  refine a_istore (lo' := [some (.ref b), some (.ref (oa 0)), some (.ref o), some (.ref (oa 115)), some (.int i), some (.int v1089), some (.int v1113)]) C dl_1116 (by decide) rfl ?_
  refine a_aload_n C dl_1118 rfl rfl ?_
  refine l_callMi (rest := []) (av := .ref o :: []) C dl_1119 (ct_thrown  M1113 hp) cd_M_thrown i_M (Nat.le_of_ble_eq_true rfl) (by rw [hR]; exact Nat.le_of_ble_eq_true rfl) (by rw [hR]; exact Nat.le_of_ble_eq_true rfl) (by rw [hR]; simp only [room_1]; omega) (by rw [hR]; simp only [room_1]; omega) (inv_V C 0 dl_1119 l_Lw_84 im_M_thrown se_M_thrown cd_M_thrown ⟨by decide, by decide⟩ ln_M_thrown rfl rfl rfl rfl rfl) (fun v1119 M1119 hp => ?_)
  refine a_iload C dl_1122 rfl ?_
  refine a_icmp_eq (tgt := 1129) C dl_1124 (by decide) ⟨fun hc => ?_, fun hc => ?_⟩
  · have hp := hp.1 hc
    refine a_iload C dl_1129 rfl ?_
    refine a_if_ne (tgt := 1146) C dl_1131 (by decide) ⟨fun hc => ?_, fun hc => ?_⟩
    · have hp := hp.1 hc
      refine a_goto (tgt := 1265) C dl_1146 (by decide) ?_
      refine a_iinc (v := i + 7) (lo' := [some (.ref b), some (.ref (oa 0)), some (.ref o), some (.ref (oa 115)), some (.int (i + 7)), some (.int v1089), some (.int v1113)]) C dl_1265 rfl rfl (by decide) rfl ?_
      refine a_goto (tgt := 23) C dl_1268 (by decide) ?_
      refine aw_lo (lo' := [some (.ref b), some (.ref (oa 0)), some (.ref o), some (.ref (oa 115)), some (.int (i + 7)), none, none]) ⟨.inr rfl, .inr rfl, .inr rfl, .inr rfl, .inr rfl, .inl rfl, .inl rfl, trivial⟩ ?_
      refine aw_widen (nc' := 155 + (j + 1)) (ns' := 395046 + 6 * (j + 1)) (by omega) (by omega) ?_
      exact hRR _ _ _ _ (by omega) hp
    · have hp := hp.2 hc
      refine a_aload_n C dl_1134 rfl rfl ?_
      refine a_iconst (v := 0) C dl_1135 (by decide) ?_
      refine l_lald C 115 dl_1136 hp.1 hp.2.1 ?_
      have hp := hp.2.2
      refine a_iload C dl_1137 rfl ?_
      refine a_i2l C dl_1139 ?_
      refine a_lcmp C dl_1140 ?_
      refine a_if_eq (tgt := 1146) C dl_1141 (by decide) ⟨fun hc => ?_, fun hc => ?_⟩
      · have hp := hp.1 hc
        refine a_goto (tgt := 1265) C dl_1146 (by decide) ?_
        refine a_iinc (v := i + 7) (lo' := [some (.ref b), some (.ref (oa 0)), some (.ref o), some (.ref (oa 115)), some (.int (i + 7)), some (.int v1089), some (.int v1113)]) C dl_1265 rfl rfl (by decide) rfl ?_
        refine a_goto (tgt := 23) C dl_1268 (by decide) ?_
        refine aw_lo (lo' := [some (.ref b), some (.ref (oa 0)), some (.ref o), some (.ref (oa 115)), some (.int (i + 7)), none, none]) ⟨.inr rfl, .inr rfl, .inr rfl, .inr rfl, .inr rfl, .inl rfl, .inl rfl, trivial⟩ ?_
        refine aw_widen (nc' := 155 + (j + 1)) (ns' := 395046 + 6 * (j + 1)) (by omega) (by omega) ?_
        exact hRR _ _ _ _ (by omega) hp
      · have hp := hp.2 hc
        exact hp.elim
  · have hp := hp.2 hc
    exact hp.elim
set_option maxRecDepth 100000 in
set_option maxHeartbeats 1000000 in
theorem sh_law_17 (C : fcx gG D z A X R_Lw code 7 ret) (hfl : X.2.1.flags = pinnedFlags ++ [noTraceFlag]) (hR : X.2.2.2.1 = room_1) (hX : va_X b n xs X.2.2.2.2.1 X.2.2.2.2.1.heap) (hbl : b < X.2.2.2.2.1.heap.size) (hbA : ¬ A b) (hQ : X.2.2.2.2.2.2.2.2.2.2 = eQ gG D z X.2.2.2.2.2.2.2.1 X.2.2.2.2.1 [] 600001 7302226 (fun o _ => o = .returned (some (.int 1)))) (hA : A = owA gG [] X.2.2.2.2.1.heap.size) (hu0 : c_cl U 0 = 1) {R : Nat → Int32 → cs → ms → Prop} (j : Nat) (i : Int32) (S : cs) (M : ms) (hj : j ≤ 511) (hRR : ∀ (j : Nat) (i : Int32) (S : cs) (M : ms), j ≤ 512 → R j i S M → aw gG D z A X 7 23 [some (.ref b), some (.ref (oa 0)), some (.ref o), some (.ref (oa 115)), some (.int i), none, none] [] (lW U oa S o ad M) (155 + j) (395046 + 6 * j)) (hp : h_law_17 U n xs j i S M R) : aw gG D z A X 7 1149 [some (.ref b), some (.ref (oa 0)), some (.ref o), some (.ref (oa 115)), some (.int i), none, none] [] (lW U oa S o ad M) (155 + j) (395046 + 6 * j) := by
  unfold h_law_17 at hp
  refine a_aload_n C dl_1149 rfl rfl ?_
  refine a_aload_n C dl_1150 rfl rfl ?_
  refine a_iload C dl_1151 rfl ?_
  refine a_iconst (v := 1) C dl_1153 (by decide) ?_
  refine a_iadd C dl_1154 ?_
  refine l_sld C hX hbl hbA dl_1155 hp.1 ?_
  have hp := hp.2
  refine a_aload_n C dl_1156 rfl rfl ?_
  refine a_iload C dl_1157 rfl ?_
  refine a_iconst (v := 2) C dl_1159 (by decide) ?_
  refine a_iadd C dl_1160 ?_
  refine l_sld C hX hbl hbA dl_1161 hp.1 ?_
  have hp := hp.2
  refine a_aload_n C dl_1162 rfl rfl ?_
  refine a_iload C dl_1163 rfl ?_
  refine a_iconst (v := 3) C dl_1165 (by decide) ?_
  refine a_iadd C dl_1166 ?_
  refine l_sld C hX hbl hbA dl_1167 hp.1 ?_
  have hp := hp.2
  refine a_aload_n C dl_1168 rfl rfl ?_
  refine a_iload C dl_1169 rfl ?_
  refine a_iconst (v := 4) C dl_1171 (by decide) ?_
  refine a_iadd C dl_1172 ?_
  refine l_sld C hX hbl hbA dl_1173 hp.1 ?_
  have hp := hp.2
  refine a_aload_n C dl_1174 rfl rfl ?_
  refine l_callW (rest := []) (av := [.ref (oa 0), .int (xs (i + 1).toNatClampNeg), .int (xs (i + 2).toNatClampNeg), .int (xs (i + 3).toNatClampNeg), .int (xs (i + 4).toNatClampNeg), .ref (oa 115)]) C dl_1175 (ct_Lw_level 0 (xs (i + 1).toNatClampNeg) (xs (i + 2).toNatClampNeg) (xs (i + 3).toNatClampNeg) (xs (i + 4).toNatClampNeg) 115 S hfl hp) cd_C_Lw_level i_Lw (Nat.le_of_ble_eq_true rfl) (by rw [hR]; exact Nat.le_of_ble_eq_true rfl) (by rw [hR]; exact Nat.le_of_ble_eq_true rfl) (by rw [hR]; simp only [room_1]; omega) (by rw [hR]; simp only [room_1]; omega) (inv_SW C dl_1175 l_Lw_147 st_C_Lw_level i_Lw cd_C_Lw_level ⟨by decide, by decide⟩ ln_C_Lw_level rfl) (fun v1175 S1175 hp => ?_)
  refine a_istore (lo' := [some (.ref b), some (.ref (oa 0)), some (.ref o), some (.ref (oa 115)), some (.int i), some (.int v1175), none]) C dl_1178 (by decide) rfl ?_
  refine a_aload_n C dl_1180 rfl rfl ?_
  refine a_aload_n C dl_1181 rfl rfl ?_
  refine a_iload C dl_1182 rfl ?_
  refine a_iconst (v := 1) C dl_1184 (by decide) ?_
  refine a_iadd C dl_1185 ?_
  refine l_sld C hX hbl hbA dl_1186 hp.1 ?_
  have hp := hp.2
  refine a_aload_n C dl_1187 rfl rfl ?_
  refine a_iload C dl_1188 rfl ?_
  refine a_iconst (v := 2) C dl_1190 (by decide) ?_
  refine a_iadd C dl_1191 ?_
  refine l_sld C hX hbl hbA dl_1192 hp.1 ?_
  have hp := hp.2
  refine a_aload_n C dl_1193 rfl rfl ?_
  refine a_iload C dl_1194 rfl ?_
  refine a_iconst (v := 3) C dl_1196 (by decide) ?_
  refine a_iadd C dl_1197 ?_
  refine l_sld C hX hbl hbA dl_1198 hp.1 ?_
  have hp := hp.2
  refine a_aload_n C dl_1199 rfl rfl ?_
  refine a_iload C dl_1200 rfl ?_
  refine a_iconst (v := 4) C dl_1202 (by decide) ?_
  refine a_iadd C dl_1203 ?_
  refine l_sld C hX hbl hbA dl_1204 hp.1 ?_
  have hp := hp.2
  refine l_callMi (rest := []) (av := .ref o :: [.int (xs (i + 1).toNatClampNeg), .int (xs (i + 2).toNatClampNeg), .int (xs (i + 3).toNatClampNeg), .int (xs (i + 4).toNatClampNeg)]) C dl_1205 (ct_level (xs (i + 1).toNatClampNeg) (xs (i + 2).toNatClampNeg) (xs (i + 3).toNatClampNeg) (xs (i + 4).toNatClampNeg) M hp) cd_M_level i_M (Nat.le_of_ble_eq_true rfl) (by rw [hR]; exact Nat.le_of_ble_eq_true rfl) (by rw [hR]; exact Nat.le_of_ble_eq_true rfl) (by rw [hR]; simp only [room_1]; omega) (by rw [hR]; simp only [room_1]; omega) (inv_V C 0 dl_1205 l_Lw_150 im_M_level se_M_level cd_M_level ⟨by decide, by decide⟩ ln_M_level rfl rfl rfl rfl rfl) (fun v1205 M1205 hp => ?_)
  refine a_istore (lo' := [some (.ref b), some (.ref (oa 0)), some (.ref o), some (.ref (oa 115)), some (.int i), some (.int v1175), some (.int v1205)]) C dl_1208 (by decide) rfl ?_
  refine a_aload_n C dl_1210 rfl rfl ?_
  refine l_callMi (rest := []) (av := .ref o :: []) C dl_1211 (ct_thrown  M1205 hp) cd_M_thrown i_M (Nat.le_of_ble_eq_true rfl) (by rw [hR]; exact Nat.le_of_ble_eq_true rfl) (by rw [hR]; exact Nat.le_of_ble_eq_true rfl) (by rw [hR]; simp only [room_1]; omega) (by rw [hR]; simp only [room_1]; omega) (inv_V C 0 dl_1211 l_Lw_84 im_M_thrown se_M_thrown cd_M_thrown ⟨by decide, by decide⟩ ln_M_thrown rfl rfl rfl rfl rfl) (fun v1211 M1211 hp => ?_)
  refine a_iload C dl_1214 rfl ?_
  refine a_icmp_eq (tgt := 1221) C dl_1216 (by decide) ⟨fun hc => ?_, fun hc => ?_⟩
  · have hp := hp.1 hc
    refine a_iload C dl_1221 rfl ?_
    refine a_if_ne (tgt := 1238) C dl_1223 (by decide) ⟨fun hc => ?_, fun hc => ?_⟩
    · have hp := hp.1 hc
      refine a_goto (tgt := 1265) C dl_1238 (by decide) ?_
      refine a_iinc (v := i + 7) (lo' := [some (.ref b), some (.ref (oa 0)), some (.ref o), some (.ref (oa 115)), some (.int (i + 7)), some (.int v1175), some (.int v1205)]) C dl_1265 rfl rfl (by decide) rfl ?_
      refine a_goto (tgt := 23) C dl_1268 (by decide) ?_
      refine aw_lo (lo' := [some (.ref b), some (.ref (oa 0)), some (.ref o), some (.ref (oa 115)), some (.int (i + 7)), none, none]) ⟨.inr rfl, .inr rfl, .inr rfl, .inr rfl, .inr rfl, .inl rfl, .inl rfl, trivial⟩ ?_
      refine aw_widen (nc' := 155 + (j + 1)) (ns' := 395046 + 6 * (j + 1)) (by omega) (by omega) ?_
      exact hRR _ _ _ _ (by omega) hp
    · have hp := hp.2 hc
      refine a_aload_n C dl_1226 rfl rfl ?_
      refine a_iconst (v := 0) C dl_1227 (by decide) ?_
      refine l_lald C 115 dl_1228 hp.1 hp.2.1 ?_
      have hp := hp.2.2
      refine a_iload C dl_1229 rfl ?_
      refine a_i2l C dl_1231 ?_
      refine a_lcmp C dl_1232 ?_
      refine a_if_eq (tgt := 1238) C dl_1233 (by decide) ⟨fun hc => ?_, fun hc => ?_⟩
      · have hp := hp.1 hc
        refine a_goto (tgt := 1265) C dl_1238 (by decide) ?_
        refine a_iinc (v := i + 7) (lo' := [some (.ref b), some (.ref (oa 0)), some (.ref o), some (.ref (oa 115)), some (.int (i + 7)), some (.int v1175), some (.int v1205)]) C dl_1265 rfl rfl (by decide) rfl ?_
        refine a_goto (tgt := 23) C dl_1268 (by decide) ?_
        refine aw_lo (lo' := [some (.ref b), some (.ref (oa 0)), some (.ref o), some (.ref (oa 115)), some (.int (i + 7)), none, none]) ⟨.inr rfl, .inr rfl, .inr rfl, .inr rfl, .inr rfl, .inl rfl, .inl rfl, trivial⟩ ?_
        refine aw_widen (nc' := 155 + (j + 1)) (ns' := 395046 + 6 * (j + 1)) (by omega) (by omega) ?_
        exact hRR _ _ _ _ (by omega) hp
      · have hp := hp.2 hc
        exact hp.elim
  · have hp := hp.2 hc
    exact hp.elim
set_option maxRecDepth 100000 in
set_option maxHeartbeats 1000000 in
theorem sh_law_18 (C : fcx gG D z A X R_Lw code 7 ret) (hfl : X.2.1.flags = pinnedFlags ++ [noTraceFlag]) (hR : X.2.2.2.1 = room_1) (hX : va_X b n xs X.2.2.2.2.1 X.2.2.2.2.1.heap) (hbl : b < X.2.2.2.2.1.heap.size) (hbA : ¬ A b) (hQ : X.2.2.2.2.2.2.2.2.2.2 = eQ gG D z X.2.2.2.2.2.2.2.1 X.2.2.2.2.1 [] 600001 7302226 (fun o _ => o = .returned (some (.int 1)))) (hA : A = owA gG [] X.2.2.2.2.1.heap.size) (hu0 : c_cl U 0 = 1) {R : Nat → Int32 → cs → ms → Prop} (j : Nat) (i : Int32) (S : cs) (M : ms) (hj : j ≤ 511) (hRR : ∀ (j : Nat) (i : Int32) (S : cs) (M : ms), j ≤ 512 → R j i S M → aw gG D z A X 7 23 [some (.ref b), some (.ref (oa 0)), some (.ref o), some (.ref (oa 115)), some (.int i), none, none] [] (lW U oa S o ad M) (155 + j) (395046 + 6 * j)) (hp : h_law_18 U n xs j i S M R) : aw gG D z A X 7 1241 [some (.ref b), some (.ref (oa 0)), some (.ref o), some (.ref (oa 115)), some (.int i), none, none] [] (lW U oa S o ad M) (155 + j) (395046 + 6 * j) := by
  unfold h_law_18 at hp
  refine a_aload_n C dl_1241 rfl rfl ?_
  refine l_callW (rest := []) (av := [.ref (oa 0)]) C dl_1242 (ct_Lw_take 0 S hfl hp) cd_C_Lw_take i_Lw (Nat.le_of_ble_eq_true rfl) (by rw [hR]; exact Nat.le_of_ble_eq_true rfl) (by rw [hR]; exact Nat.le_of_ble_eq_true rfl) (by rw [hR]; simp only [room_1]; omega) (by rw [hR]; simp only [room_1]; omega) (inv_SW C dl_1242 l_Lw_151 st_C_Lw_take i_Lw cd_C_Lw_take ⟨by decide, by decide⟩ ln_C_Lw_take rfl) (fun v1242 S1242 hp => ?_)
  refine a_istore (lo' := [some (.ref b), some (.ref (oa 0)), some (.ref o), some (.ref (oa 115)), some (.int i), some (.int v1242), none]) C dl_1245 (by decide) rfl ?_
  refine a_aload_n C dl_1247 rfl rfl ?_
  refine l_callMv (rest := []) (av := .ref o :: []) C dl_1248 (ct_take  M hp) cd_M_take i_M (Nat.le_of_ble_eq_true rfl) (by rw [hR]; exact Nat.le_of_ble_eq_true rfl) (by rw [hR]; exact Nat.le_of_ble_eq_true rfl) (by rw [hR]; simp only [room_1]; omega) (by rw [hR]; simp only [room_1]; omega) (inv_V C 0 dl_1248 l_Lw_154 im_M_take se_M_take cd_M_take ⟨by decide, by decide⟩ ln_M_take rfl rfl rfl rfl rfl) (fun M1248 hp => ?_)
  refine a_aload_n C dl_1251 rfl rfl ?_
  refine l_callMi (rest := []) (av := .ref o :: []) C dl_1252 (ct_thrown  M1248 hp) cd_M_thrown i_M (Nat.le_of_ble_eq_true rfl) (by rw [hR]; exact Nat.le_of_ble_eq_true rfl) (by rw [hR]; exact Nat.le_of_ble_eq_true rfl) (by rw [hR]; simp only [room_1]; omega) (by rw [hR]; simp only [room_1]; omega) (inv_V C 0 dl_1252 l_Lw_84 im_M_thrown se_M_thrown cd_M_thrown ⟨by decide, by decide⟩ ln_M_thrown rfl rfl rfl rfl rfl) (fun v1252 M1252 hp => ?_)
  refine a_iload C dl_1255 rfl ?_
  refine a_icmp_eq (tgt := 1262) C dl_1257 (by decide) ⟨fun hc => ?_, fun hc => ?_⟩
  · have hp := hp.1 hc
    refine a_goto (tgt := 1265) C dl_1262 (by decide) ?_
    refine a_iinc (v := i + 7) (lo' := [some (.ref b), some (.ref (oa 0)), some (.ref o), some (.ref (oa 115)), some (.int (i + 7)), some (.int v1242), none]) C dl_1265 rfl rfl (by decide) rfl ?_
    refine a_goto (tgt := 23) C dl_1268 (by decide) ?_
    refine aw_lo (lo' := [some (.ref b), some (.ref (oa 0)), some (.ref o), some (.ref (oa 115)), some (.int (i + 7)), none, none]) ⟨.inr rfl, .inr rfl, .inr rfl, .inr rfl, .inr rfl, .inl rfl, .inr rfl, trivial⟩ ?_
    refine aw_widen (nc' := 155 + (j + 1)) (ns' := 395046 + 6 * (j + 1)) (by omega) (by omega) ?_
    exact hRR _ _ _ _ (by omega) hp
  · have hp := hp.2 hc
    exact hp.elim
set_option maxRecDepth 100000 in
set_option maxHeartbeats 1000000 in
theorem sh_law_d (C : fcx gG D z A X R_Lw code 7 ret) (hfl : X.2.1.flags = pinnedFlags ++ [noTraceFlag]) (hR : X.2.2.2.1 = room_1) (hX : va_X b n xs X.2.2.2.2.1 X.2.2.2.2.1.heap) (hbl : b < X.2.2.2.2.1.heap.size) (hbA : ¬ A b) (hQ : X.2.2.2.2.2.2.2.2.2.2 = eQ gG D z X.2.2.2.2.2.2.2.1 X.2.2.2.2.1 [] 600001 7302226 (fun o _ => o = .returned (some (.int 1)))) (hA : A = owA gG [] X.2.2.2.2.1.heap.size) (hu0 : c_cl U 0 = 1) {R : Nat → Int32 → cs → ms → Prop} (j : Nat) (i : Int32) (S : cs) (M : ms) (hj : j ≤ 511) (hRR : ∀ (j : Nat) (i : Int32) (S : cs) (M : ms), j ≤ 512 → R j i S M → aw gG D z A X 7 23 [some (.ref b), some (.ref (oa 0)), some (.ref o), some (.ref (oa 115)), some (.int i), none, none] [] (lW U oa S o ad M) (155 + j) (395046 + 6 * j)) (hp : h_law_d U n xs j i S M R) : aw gG D z A X 7 1265 [some (.ref b), some (.ref (oa 0)), some (.ref o), some (.ref (oa 115)), some (.int i), none, none] [] (lW U oa S o ad M) (155 + j) (395046 + 6 * j) := by
  unfold h_law_d at hp
  refine a_iinc (v := i + 7) (lo' := [some (.ref b), some (.ref (oa 0)), some (.ref o), some (.ref (oa 115)), some (.int (i + 7)), none, none]) C dl_1265 rfl rfl (by decide) rfl ?_
  refine a_goto (tgt := 23) C dl_1268 (by decide) ?_
  refine aw_lo (lo' := [some (.ref b), some (.ref (oa 0)), some (.ref o), some (.ref (oa 115)), some (.int (i + 7)), none, none]) ⟨.inr rfl, .inr rfl, .inr rfl, .inr rfl, .inr rfl, .inr rfl, .inr rfl, trivial⟩ ?_
  refine aw_widen (nc' := 155 + (j + 1)) (ns' := 395046 + 6 * (j + 1)) (by omega) (by omega) ?_
  exact hRR _ _ _ _ (by omega) hp
set_option maxRecDepth 100000 in
set_option maxHeartbeats 1000000 in
theorem s_law_23 (C : fcx gG D z A X R_Lw code 7 ret) (hfl : X.2.1.flags = pinnedFlags ++ [noTraceFlag]) (hR : X.2.2.2.1 = room_1) (hX : va_X b n xs X.2.2.2.2.1 X.2.2.2.2.1.heap) (hbl : b < X.2.2.2.2.1.heap.size) (hbA : ¬ A b) (hQ : X.2.2.2.2.2.2.2.2.2.2 = eQ gG D z X.2.2.2.2.2.2.2.1 X.2.2.2.2.1 [] 600001 7302226 (fun o _ => o = .returned (some (.int 1)))) (hA : A = owA gG [] X.2.2.2.2.1.heap.size) (hu0 : c_cl U 0 = 1) {R : Nat → Int32 → cs → ms → Prop} (j : Nat) (i : Int32) (S : cs) (M : ms) (hj9 : j ≤ 512) (hRR : ∀ (j : Nat) (i : Int32) (S : cs) (M : ms), j ≤ 512 → R j i S M → aw gG D z A X 7 23 [some (.ref b), some (.ref (oa 0)), some (.ref o), some (.ref (oa 115)), some (.int i), none, none] [] (lW U oa S o ad M) (155 + j) (395046 + 6 * j)) (hp : b_law U n xs j i S M R) : aw gG D z A X 7 23 [some (.ref b), some (.ref (oa 0)), some (.ref o), some (.ref (oa 115)), some (.int i), none, none] [] (lW U oa S o ad M) (155 + j) (395046 + 6 * j) := by
  unfold b_law at hp
  refine a_iload C dl_23 rfl ?_
  refine a_aload_n C dl_25 rfl rfl ?_
  refine l_slen C hX hbl hbA dl_26 ?_
  refine a_bipush (v := 7) C dl_27 (by decide) ?_
  refine a_isub C dl_29 ?_
  refine a_icmp_gt (tgt := 1271) C dl_30 (by decide) ⟨fun hc => ?_, fun hc => ?_⟩
  · refine aw_widen (nc' := 600001) (ns' := 7302226) (by omega) (by omega) ?_
    refine a_iconst (v := 1) C dl_1271 (by decide) ?_
    exact a_iret (ty := .boolean) C hQ hA dl_1272 rfl rfl rfl
  · obtain ⟨hj, hin, hp⟩ := hp hc
    refine a_aload_n C dl_33 rfl rfl ?_
    refine a_iload C dl_34 rfl ?_
    refine l_sld C hX hbl hbA dl_36 hin ?_
    refine a_bipush (v := 31) C dl_37 (by decide) ?_
    refine a_iand C dl_39 ?_
    refine (Classical.em ((xs i.toNatClampNeg &&& 31) = 0)).elim (fun hc => l_tabIn (off := 92) (tgt := 132) C dl_40 (by rw [hc]; decide) (by rw [hc]; decide) (by rw [hc]; decide) (by decide) (sh_law_0 C hfl hR hX hbl hbA hQ hA hu0 j i S M hj hRR (hp.1 hc))) (fun hk0 => ?_)
    refine (Classical.em ((xs i.toNatClampNeg &&& 31) = 1)).elim (fun hc => l_tabIn (off := 152) (tgt := 192) C dl_40 (by rw [hc]; decide) (by rw [hc]; decide) (by rw [hc]; decide) (by decide) (sh_law_1 C hfl hR hX hbl hbA hQ hA hu0 j i S M hj hRR (hp.2.1 hc))) (fun hk1 => ?_)
    refine (Classical.em ((xs i.toNatClampNeg &&& 31) = 2)).elim (fun hc => l_tabIn (off := 236) (tgt := 276) C dl_40 (by rw [hc]; decide) (by rw [hc]; decide) (by rw [hc]; decide) (by decide) (sh_law_2 C hfl hR hX hbl hbA hQ hA hu0 j i S M hj hRR (hp.2.2.1 hc))) (fun hk2 => ?_)
    refine (Classical.em ((xs i.toNatClampNeg &&& 31) = 3)).elim (fun hc => l_tabIn (off := 334) (tgt := 374) C dl_40 (by rw [hc]; decide) (by rw [hc]; decide) (by rw [hc]; decide) (by decide) (sh_law_3 C hfl hR hX hbl hbA hQ hA hu0 j i S M hj hRR (hp.2.2.2.1 hc))) (fun hk3 => ?_)
    refine (Classical.em ((xs i.toNatClampNeg &&& 31) = 4)).elim (fun hc => l_tabIn (off := 414) (tgt := 454) C dl_40 (by rw [hc]; decide) (by rw [hc]; decide) (by rw [hc]; decide) (by decide) (sh_law_4 C hfl hR hX hbl hbA hQ hA hu0 j i S M hj hRR (hp.2.2.2.2.1 hc))) (fun hk4 => ?_)
    refine (Classical.em ((xs i.toNatClampNeg &&& 31) = 5)).elim (fun hc => l_tabIn (off := 474) (tgt := 514) C dl_40 (by rw [hc]; decide) (by rw [hc]; decide) (by rw [hc]; decide) (by decide) (sh_law_5 C hfl hR hX hbl hbA hQ hA hu0 j i S M hj hRR (hp.2.2.2.2.2.1 hc))) (fun hk5 => ?_)
    refine (Classical.em ((xs i.toNatClampNeg &&& 31) = 6)).elim (fun hc => l_tabIn (off := 546) (tgt := 586) C dl_40 (by rw [hc]; decide) (by rw [hc]; decide) (by rw [hc]; decide) (by decide) (sh_law_6 C hfl hR hX hbl hbA hQ hA hu0 j i S M hj hRR (hp.2.2.2.2.2.2.1 hc))) (fun hk6 => ?_)
    refine (Classical.em ((xs i.toNatClampNeg &&& 31) = 7)).elim (fun hc => l_tabIn (off := 626) (tgt := 666) C dl_40 (by rw [hc]; decide) (by rw [hc]; decide) (by rw [hc]; decide) (by decide) (sh_law_7 C hfl hR hX hbl hbA hQ hA hu0 j i S M hj hRR (hp.2.2.2.2.2.2.2.1 hc))) (fun hk7 => ?_)
    refine (Classical.em ((xs i.toNatClampNeg &&& 31) = 8)).elim (fun hc => l_tabIn (off := 639) (tgt := 679) C dl_40 (by rw [hc]; decide) (by rw [hc]; decide) (by rw [hc]; decide) (by decide) (sh_law_8 C hfl hR hX hbl hbA hQ hA hu0 j i S M hj hRR (hp.2.2.2.2.2.2.2.2.1 hc))) (fun hk8 => ?_)
    refine (Classical.em ((xs i.toNatClampNeg &&& 31) = 9)).elim (fun hc => l_tabIn (off := 695) (tgt := 735) C dl_40 (by rw [hc]; decide) (by rw [hc]; decide) (by rw [hc]; decide) (by decide) (sh_law_9 C hfl hR hX hbl hbA hQ hA hu0 j i S M hj hRR (hp.2.2.2.2.2.2.2.2.2.1 hc))) (fun hk9 => ?_)
    refine (Classical.em ((xs i.toNatClampNeg &&& 31) = 10)).elim (fun hc => l_tabIn (off := 799) (tgt := 839) C dl_40 (by rw [hc]; decide) (by rw [hc]; decide) (by rw [hc]; decide) (by decide) (sh_law_10 C hfl hR hX hbl hbA hQ hA hu0 j i S M hj hRR (hp.2.2.2.2.2.2.2.2.2.2.1 hc))) (fun hk10 => ?_)
    refine (Classical.em ((xs i.toNatClampNeg &&& 31) = 11)).elim (fun hc => l_tabIn (off := 835) (tgt := 875) C dl_40 (by rw [hc]; decide) (by rw [hc]; decide) (by rw [hc]; decide) (by decide) (sh_law_11 C hfl hR hX hbl hbA hQ hA hu0 j i S M hj hRR (hp.2.2.2.2.2.2.2.2.2.2.2.1 hc))) (fun hk11 => ?_)
    refine (Classical.em ((xs i.toNatClampNeg &&& 31) = 12)).elim (fun hc => l_tabIn (off := 903) (tgt := 943) C dl_40 (by rw [hc]; decide) (by rw [hc]; decide) (by rw [hc]; decide) (by decide) (sh_law_12 C hfl hR hX hbl hbA hQ hA hu0 j i S M hj hRR (hp.2.2.2.2.2.2.2.2.2.2.2.2.1 hc))) (fun hk12 => ?_)
    refine (Classical.em ((xs i.toNatClampNeg &&& 31) = 13)).elim (fun hc => l_tabIn (off := 947) (tgt := 987) C dl_40 (by rw [hc]; decide) (by rw [hc]; decide) (by rw [hc]; decide) (by decide) (sh_law_13 C hfl hR hX hbl hbA hQ hA hu0 j i S M hj hRR (hp.2.2.2.2.2.2.2.2.2.2.2.2.2.1 hc))) (fun hk13 => ?_)
    refine (Classical.em ((xs i.toNatClampNeg &&& 31) = 14)).elim (fun hc => l_tabIn (off := 960) (tgt := 1000) C dl_40 (by rw [hc]; decide) (by rw [hc]; decide) (by rw [hc]; decide) (by decide) (sh_law_14 C hfl hR hX hbl hbA hQ hA hu0 j i S M hj hRR (hp.2.2.2.2.2.2.2.2.2.2.2.2.2.2.1 hc))) (fun hk14 => ?_)
    refine (Classical.em ((xs i.toNatClampNeg &&& 31) = 15)).elim (fun hc => l_tabIn (off := 973) (tgt := 1013) C dl_40 (by rw [hc]; decide) (by rw [hc]; decide) (by rw [hc]; decide) (by decide) (sh_law_15 C hfl hR hX hbl hbA hQ hA hu0 j i S M hj hRR (hp.2.2.2.2.2.2.2.2.2.2.2.2.2.2.2.1 hc))) (fun hk15 => ?_)
    refine (Classical.em ((xs i.toNatClampNeg &&& 31) = 16)).elim (fun hc => l_tabIn (off := 1029) (tgt := 1069) C dl_40 (by rw [hc]; decide) (by rw [hc]; decide) (by rw [hc]; decide) (by decide) (sh_law_16 C hfl hR hX hbl hbA hQ hA hu0 j i S M hj hRR (hp.2.2.2.2.2.2.2.2.2.2.2.2.2.2.2.2.1 hc))) (fun hk16 => ?_)
    refine (Classical.em ((xs i.toNatClampNeg &&& 31) = 17)).elim (fun hc => l_tabIn (off := 1109) (tgt := 1149) C dl_40 (by rw [hc]; decide) (by rw [hc]; decide) (by rw [hc]; decide) (by decide) (sh_law_17 C hfl hR hX hbl hbA hQ hA hu0 j i S M hj hRR (hp.2.2.2.2.2.2.2.2.2.2.2.2.2.2.2.2.2.1 hc))) (fun hk17 => ?_)
    refine (Classical.em ((xs i.toNatClampNeg &&& 31) = 18)).elim (fun hc => l_tabIn (off := 1201) (tgt := 1241) C dl_40 (by rw [hc]; decide) (by rw [hc]; decide) (by rw [hc]; decide) (by decide) (sh_law_18 C hfl hR hX hbl hbA hQ hA hu0 j i S M hj hRR (hp.2.2.2.2.2.2.2.2.2.2.2.2.2.2.2.2.2.2.1 hc))) (fun hk18 => ?_)
    have hall : ∀ k : Fin 19, ¬ (xs i.toNatClampNeg &&& 31) = Int32.ofNat k.val := fun k => match k with
      | ⟨0, _⟩ => hk0
      | ⟨1, _⟩ => hk1
      | ⟨2, _⟩ => hk2
      | ⟨3, _⟩ => hk3
      | ⟨4, _⟩ => hk4
      | ⟨5, _⟩ => hk5
      | ⟨6, _⟩ => hk6
      | ⟨7, _⟩ => hk7
      | ⟨8, _⟩ => hk8
      | ⟨9, _⟩ => hk9
      | ⟨10, _⟩ => hk10
      | ⟨11, _⟩ => hk11
      | ⟨12, _⟩ => hk12
      | ⟨13, _⟩ => hk13
      | ⟨14, _⟩ => hk14
      | ⟨15, _⟩ => hk15
      | ⟨16, _⟩ => hk16
      | ⟨17, _⟩ => hk17
      | ⟨18, _⟩ => hk18
      | ⟨_ + 19, h⟩ => absurd h (by omega)
    exact l_tabOut (tgt := 1265) C dl_40 (tab_out hall) (by decide) (sh_law_d C hfl hR hX hbl hbA hQ hA hu0 j i S M hj hRR (hp.2.2.2.2.2.2.2.2.2.2.2.2.2.2.2.2.2.2.2 hall))
set_option maxRecDepth 100000 in
theorem se_law_23 (C : fcx gG D z A X R_Lw code 7 ret) (hfl : X.2.1.flags = pinnedFlags ++ [noTraceFlag]) (hR : X.2.2.2.1 = room_1) (hX : va_X b n xs X.2.2.2.2.1 X.2.2.2.2.1.heap) (hbl : b < X.2.2.2.2.1.heap.size) (hbA : ¬ A b) (hQ : X.2.2.2.2.2.2.2.2.2.2 = eQ gG D z X.2.2.2.2.2.2.2.1 X.2.2.2.2.1 [] 600001 7302226 (fun o _ => o = .returned (some (.int 1)))) (hA : A = owA gG [] X.2.2.2.2.1.heap.size) (hu0 : c_cl U 0 = 1) (j : Nat) (i : Int32) (S : cs) (M : ms) (hj9 : j ≤ 512) (hp : e_law U n xs j i S M) : aw gG D z A X 7 23 [some (.ref b), some (.ref (oa 0)), some (.ref o), some (.ref (oa 115)), some (.int i), none, none] [] (lW U oa S o ad M) (155 + j) (395046 + 6 * j) := by
  obtain ⟨I, μ, h0, hs⟩ := hp
  have key : ∀ (m : Nat) (j : Nat) (i : Int32) (S : cs) (M : ms), μ j i S M < m → j ≤ 512 → I j i S M → aw gG D z A X 7 23 [some (.ref b), some (.ref (oa 0)), some (.ref o), some (.ref (oa 115)), some (.int i), none, none] [] (lW U oa S o ad M) (155 + j) (395046 + 6 * j) := by
    intro m
    induction m with
    | zero => intro j i S M h; omega
    | succ m ih =>
      intro j i S M hn hj9 hI
      exact s_law_23 C hfl hR hX hbl hbA hQ hA hu0 (R := fun j' i' S' M' => I j' i' S' M' ∧ μ j' i' S' M' < μ j i S M) j i S M hj9 (fun j' i' S' M' h9 hw => ih j' i' S' M' (by omega) h9 hw.1) (hs j i S M hI)
  exact key (μ j i S M + 1) j i S M (Nat.lt_succ_self _) hj9 h0
end LAWW
def S_0 : cs := (fun _ _ => 0, fun _ _ => 0, fun _ _ => NU)
def M_0 : ms := ((upd (upd (upd (upd (fun _ => 0) 1 8) 2 8) 3 1) 10 (-1)), fun _ _ => 0, fun _ _ => 0)
def U1 : ut := [(1, 0)] ++ ext_B_init
def UL : ut := U1 ++ [(904, 1)]
def p_law (n : Nat) (xs : Nat → Int32) : Prop :=
  p_B_init [(1, 0)] 0 S_0 (fun S => fresh S 115 ∧ p_init M_0 (fun M => e_law UL n xs 0 0 S M))
theorem S_0_fresh (n : Nat) (h : n < NU) : fresh S_0 n := ⟨fun _ _ e => Nat.lt_irrefl _ (Nat.lt_of_lt_of_eq h e), fun _ => rfl, fun _ => rfl, fun _ => rfl⟩
theorem df_M : ∀ j, j < 58 → (fo_kd ly_M_0 j ≤ 1 ∧ defaultValue (y_M j) = .int 0) ∨ (fo_kd ly_M_0 j = 6 ∧ defaultValue (y_M j) = .null) := by decide +kernel
theorem df_M0 (q j : Nat) (hj : j < 58) : defaultValue (y_M j) = fo_v ly_M_0 (q, (fun _ => 0), (fun _ => 0), z_r, z_l) j := by
  unfold fo_v
  rcases df_M j hj with ⟨h1, h2⟩ | ⟨h1, h2⟩
  · rw [if_pos h1, h2]
  · rw [h1, h2]
    rfl
theorem k0_M (t : Nat) : ¬ (2 ≤ fo_kd ly_M_0 t ∧ fo_kd ly_M_0 t ≤ 4) := by
  unfold fo_kd
  rw [List.getD_eq_getElem?_getD]
  cases hx : ly_M_0[t]? with
  | none => simp
  | some x =>
    have h0 : ly_M_0.all (fun x => Nat.ble x.1 1 || Nat.beq x.1 6) = true := by decide +kernel
    have h1 := List.all_eq_true.mp h0 x (List.mem_of_getElem? hx)
    simp only [Option.getD_some]
    rcases (Bool.or_eq_true _ _).mp h1 with h2 | h2
    · have := Nat.le_of_ble_eq_true h2; omega
    · have := Nat.eq_of_beq_eq_true h2; omega
theorem app_L (L : fw) (u : Nat × fl × fo) : (List.range L.length).map (fun i => (L ++ [u])[i]?) = L.map some := by
  rw [← rg_map L]
  refine List.map_congr_left fun i hi => ?_
  rw [List.getElem?_append_left (List.mem_range.mp hi)]
theorem app_u (L : fw) (u : Nat × fl × fo) : [L.length].map (fun i => (L ++ [u])[i]?) = [u].map some := by
  show [(L ++ [u])[L.length]?] = [some u]
  rw [List.getElem?_append_right (Nat.le_refl _), Nat.sub_self]
  rfl
theorem app_2 (L : fw) (a c : Nat × fl × fo) : (L.length :: (List.range L.length ++ [L.length + 1])).map (fun i => ((L ++ [a]) ++ [c])[i]?) = (a :: (L ++ [c])).map some := by
  show ((L ++ [a]) ++ [c])[L.length]? :: (List.range L.length ++ [L.length + 1]).map (fun i => ((L ++ [a]) ++ [c])[i]?) = some a :: (L ++ [c]).map some
  rw [List.map_append, List.map_append]
  congr 1
  · rw [List.append_assoc, List.getElem?_append_right (Nat.le_refl _), Nat.sub_self]
    rfl
  · congr 1
    · rw [← rg_map L]
      refine List.map_congr_left fun i hi => ?_
      rw [List.append_assoc, List.getElem?_append_left (List.mem_range.mp hi)]
    · show [((L ++ [a]) ++ [c])[L.length + 1]?] = [some c]
      rw [List.append_assoc, List.getElem?_append_right (Nat.le_add_right _ _), show L.length + 1 - L.length = 1 by omega]
      rfl
theorem nd_2 (n : Nat) : (n :: (List.range n ++ [n + 1])).Nodup := by
  refine List.nodup_cons.mpr ⟨fun h => ?_, ?_⟩
  · rcases List.mem_append.mp h with h | h
    · exact Nat.lt_irrefl _ (List.mem_range.mp h)
    · exact absurd (List.mem_singleton.mp h) (by omega)
  · refine List.pairwise_append.mpr ⟨List.nodup_range, List.pairwise_singleton _ _, fun a ha b hb e => ?_⟩
    have := List.mem_range.mp ha
    have := List.mem_singleton.mp hb
    omega
theorem cw_prow {lt : Nat → fl} {U : ut} {oa : Nat → Nat} {S : cs} {n q N kd : Nat} (hk : kd < 50) (hn : U.length = n) (hf : fresh S n) : cw lt U oa S ++ [fz kd N q] = cw lt (U ++ [(900 + kd, N)]) (va_up oa n q) S := by
  rw [cw_push (c := (900 + kd, N)) (q := q) hn hf (x := fz kd N q) (by
    have e1 : va_up z_r 0 (S.1 n) = fun _ _ => 0 := by
      funext a b
      unfold va_up
      split
      · exact hf.2.1 b
      · rfl
    have e2 : va_up z_l 0 (S.2.1 n) = fun _ _ => 0 := by
      funext a b
      unfold va_up
      split
      · exact hf.2.2.1 b
      · rfl
    rw [c_u, c_clN hn, c_lnN hn, if_neg (by intro x; have := Nat.le_of_ble_eq_true x; simp only at this; omega), if_neg (by intro x; have := Nat.le_of_ble_eq_true x; simp only at this; omega), up_at, e1, e2]
    show (900, [(900 + kd - 900, N)], _) = _
    rw [show 900 + kd - 900 = kd by omega])]
set_option maxRecDepth 100000 in
set_option maxHeartbeats 1000000 in
theorem s_law_0 {D : va_G} {z : Nat → ClassId} {A : Nat → Prop} {X : cx} {b n : Nat} {xs : Nat → Int32} (C : fcx gG D z A X R_Lw code 7 ret) (hfl : X.2.1.flags = pinnedFlags ++ [noTraceFlag]) (hR : X.2.2.2.1 = room_1) (hX : va_X b n xs X.2.2.2.2.1 X.2.2.2.2.1.heap) (hbl : b < X.2.2.2.2.1.heap.size) (hbA : ¬ A b) (hQ : X.2.2.2.2.2.2.2.2.2.2 = eQ gG D z X.2.2.2.2.2.2.2.1 X.2.2.2.2.1 [] 600001 7302226 (fun o _ => o = .returned (some (.int 1)))) (hA : A = owA gG [] X.2.2.2.2.1.heap.size) (hp : p_law n xs) : aw gG D z A X 7 0 [some (.ref b), none, none, none, none, none, none] [] [] 0 0 := by
  unfold p_law at hp
  refine aw_eq (lo' := _) (st' := []) (L' := cw lt_C [] (fun _ => 0) S_0) rfl rfl rfl ?_
  refine c_new (ci := 1) (n := 0) C y_B g_ty_B dl_0 rfl rfl x_Lw_8 nn_B i_B df_B (by decide) rfl (S_0_fresh 0 (by decide)) (by rw [hR]; exact Nat.le_of_ble_eq_true rfl) (by rw [hR]; exact Nat.le_of_ble_eq_true rfl) (fun q0 => ?_)
  generalize hoa : va_up (fun _ => 0) 0 q0 = oa0
  have hq : oa0 0 = q0 := by rw [← hoa]; exact up_at
  rw [← hq]
  have hcn : c_cl [(1, 0)] 0 = 1 := rfl
  refine a_dup C dl_3 rfl ?_
  refine c_call (rest := [.ref (oa0 0)]) (av := .ref (oa0 0) :: []) C dl_4 (ct_B_init 0 S_0 hcn hp) cd_C_B_init i_B (Nat.le_of_ble_eq_true rfl) (by rw [hR]; exact Nat.le_of_ble_eq_true rfl) (by rw [hR]; exact Nat.le_of_ble_eq_true rfl) (by rw [hR]; exact Nat.le_of_ble_eq_true rfl) (by rw [hR]; exact Nat.le_of_ble_eq_true rfl) (inv_I C dl_4 l_Lw_74 rfl im_C_B_init cd_C_B_init ⟨by decide, by decide⟩ ln_C_B_init rfl) (fun oc L1 hL => ?_)
  obtain ⟨oa1, S1, hp, hb1, rfl, rfl⟩ := hL
  refine ⟨_, rfl, ?_⟩
  have h10 : oa1 0 = oa0 0 := hb1 0 (by decide)
  rw [← h10]
  have hlen : (cw lt_C U1 oa1 S1).length = 115 := by rw [cw_len]; rfl
  refine aw_eq (lo' := _) (st' := [.ref (oa1 0)]) (L' := cw lt_C U1 oa1 S1) rfl rfl rfl ?_
  refine a_astore_n (lo' := [some (.ref b), some (.ref (oa1 0)), none, none, none, none, none]) C dl_7 rfl (by decide) rfl ?_
  refine a_new2 (ci := 0) C ly_M_0 (fun _ _ => 0) (fun _ => 0) y_M g_ty dl_8 rfl rfl x_Lw_75 nn_M i_M df_M0 k0_M (by rw [hR]; exact Nat.le_of_ble_eq_true rfl) (by rw [hR]; exact Nat.le_of_ble_eq_true rfl) (fun o => ?_)
  refine a_dup C dl_11 rfl ?_
  refine a_call (Lr := cw lt_C U1 oa1 S1) (rest := [.ref o]) (av := .ref o :: []) C [(cw lt_C U1 oa1 S1).length] (List.range (cw lt_C U1 oa1 S1).length) dl_12 (ct_init hp.2) cd_M_init i_M (Nat.le_of_ble_eq_true rfl) (by rw [hR]; exact Nat.le_of_ble_eq_true rfl) (by rw [hR]; exact Nat.le_of_ble_eq_true rfl) (by rw [hR]; exact Nat.le_of_ble_eq_true rfl) (by rw [hR]; exact Nat.le_of_ble_eq_true rfl) (app_u _ _) (app_L _ _) (List.pairwise_singleton _ _) List.nodup_range (fun i h h' => Nat.lt_irrefl _ (Nat.lt_of_lt_of_eq (List.mem_range.mp h) (List.mem_singleton.mp h').symm)) (inv_I C dl_12 l_Lw_77 rfl im_M_init cd_M_init ⟨by decide, by decide⟩ ln_M_init rfl) (fun oc L1 hL => ?_)
  obtain ⟨ad, M, hpM, rfl, rfl⟩ := hL
  refine ⟨_, rfl, ?_⟩
  refine aw_eq (lo' := _) (st' := [.ref o]) (L' := cw lt_C U1 oa1 S1 ++ [mu o ad M]) rfl rfl rfl ?_
  refine a_astore_n (lo' := [some (.ref b), some (.ref (oa1 0)), some (.ref o), none, none, none, none]) C dl_15 rfl (by decide) rfl ?_
  refine a_iconst (v := 1) C dl_16 (by decide) ?_
  refine a_newa (ty := .long) (N := 1) C 4 dl_17 ac_long rfl (C.kn.2 2 _ rfl).2 (fun _ => rfl) (by decide) (by decide) (by decide) (by rw [hR]; exact Nat.le_of_ble_eq_true rfl) (by rw [hR]; exact Nat.le_of_ble_eq_true rfl) (fun qa => ?_)
  refine aw_pick _ (app_2 _ _ _) (nd_2 _) ?_
  rw [cw_prow (n := 115) (by decide) rfl hp.1]
  generalize hoa2 : va_up oa1 115 qa = oa2
  have hq2 : oa2 115 = qa := by rw [← hoa2]; exact up_at
  have h20 : oa2 0 = oa1 0 := by rw [← hoa2]; exact up_ne (by decide)
  rw [← hq2, ← h20]
  refine a_astore_n (lo' := [some (.ref b), some (.ref (oa2 0)), some (.ref o), some (.ref (oa2 115)), none, none, none]) C dl_19 rfl (by decide) rfl ?_
  refine a_iconst (v := 0) C dl_20 (by decide) ?_
  refine a_istore (lo' := [some (.ref b), some (.ref (oa2 0)), some (.ref o), some (.ref (oa2 115)), some (.int 0), none, none]) C dl_21 (by decide) rfl ?_
  exact se_law_23 C hfl hR hX hbl hbA hQ hA (U := UL) (by decide) 0 0 S1 M (by decide) hpM
