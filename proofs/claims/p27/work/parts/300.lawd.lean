theorem dL_law_0 : decode cL_law 0 = .ok (.new 7, 3) := by decide +kernel
theorem dL_law_3 : decode cL_law 3 = .ok (.dup, 1) := by decide +kernel
theorem dL_law_4 : decode cL_law 4 = .ok (.invokespecial 9, 3) := by decide +kernel
theorem dL_law_7 : decode cL_law 7 = .ok (.astore_n 1, 1) := by decide +kernel
theorem dL_law_8 : decode cL_law 8 = .ok (.new 10, 3) := by decide +kernel
theorem dL_law_11 : decode cL_law 11 = .ok (.dup, 1) := by decide +kernel
theorem dL_law_12 : decode cL_law 12 = .ok (.invokespecial 12, 3) := by decide +kernel
theorem dL_law_15 : decode cL_law 15 = .ok (.astore_n 2, 1) := by decide +kernel
theorem dL_law_16 : decode cL_law 16 = .ok (.iconst 0, 1) := by decide +kernel
theorem dL_law_17 : decode cL_law 17 = .ok (.istore_n 3, 1) := by decide +kernel
theorem dL_law_18 : decode cL_law 18 = .ok (.iload_n 3, 1) := by decide +kernel
theorem dL_law_19 : decode cL_law 19 = .ok (.aload_n 0, 1) := by decide +kernel
theorem dL_law_20 : decode cL_law 20 = .ok (.arraylength, 1) := by decide +kernel
theorem dL_law_21 : decode cL_law 21 = .ok (.iconst 4, 1) := by decide +kernel
theorem dL_law_22 : decode cL_law 22 = .ok (.isub, 1) := by decide +kernel
theorem dL_law_23 : decode cL_law 23 = .ok (.if_icmp .gt 827, 3) := by decide +kernel
theorem dL_law_26 : decode cL_law 26 = .ok (.aload_n 0, 1) := by decide +kernel
theorem dL_law_27 : decode cL_law 27 = .ok (.iload_n 3, 1) := by decide +kernel
theorem dL_law_28 : decode cL_law 28 = .ok (.iaload, 1) := by decide +kernel
theorem dL_law_29 : decode cL_law 29 = .ok (.bipush 31, 2) := by decide +kernel
theorem dL_law_31 : decode cL_law 31 = .ok (.iand, 1) := by decide +kernel
theorem dL_law_32 : decode cL_law 32 = .ok (.tableswitch 812 0 27 #[128, 151, 164, 177, 190, 223, 256, 289, 302, 315, 348, 381, 414, 447, 480, 493, 526, 559, 572, 615, 628, 651, 694, 707, 750, 763, 776, 799], 128) := by decide +kernel
theorem dL_law_160 : decode cL_law 160 = .ok (.aload_n 1, 1) := by decide +kernel
theorem dL_law_161 : decode cL_law 161 = .ok (.aload_n 0, 1) := by decide +kernel
theorem dL_law_162 : decode cL_law 162 = .ok (.iload_n 3, 1) := by decide +kernel
theorem dL_law_163 : decode cL_law 163 = .ok (.iconst 1, 1) := by decide +kernel
theorem dL_law_164 : decode cL_law 164 = .ok (.iadd, 1) := by decide +kernel
theorem dL_law_165 : decode cL_law 165 = .ok (.iaload, 1) := by decide +kernel
theorem dL_law_166 : decode cL_law 166 = .ok (.invokevirtual 13, 3) := by decide +kernel
theorem dL_law_169 : decode cL_law 169 = .ok (.pop, 1) := by decide +kernel
theorem dL_law_170 : decode cL_law 170 = .ok (.aload_n 2, 1) := by decide +kernel
theorem dL_law_171 : decode cL_law 171 = .ok (.aload_n 0, 1) := by decide +kernel
theorem dL_law_172 : decode cL_law 172 = .ok (.iload_n 3, 1) := by decide +kernel
theorem dL_law_173 : decode cL_law 173 = .ok (.iconst 1, 1) := by decide +kernel
theorem dL_law_174 : decode cL_law 174 = .ok (.iadd, 1) := by decide +kernel
theorem dL_law_175 : decode cL_law 175 = .ok (.iaload, 1) := by decide +kernel
theorem dL_law_176 : decode cL_law 176 = .ok (.invokevirtual 17, 3) := by decide +kernel
theorem dL_law_179 : decode cL_law 179 = .ok (.pop, 1) := by decide +kernel
theorem dL_law_180 : decode cL_law 180 = .ok (.goto 664, 3) := by decide +kernel
theorem dL_law_183 : decode cL_law 183 = .ok (.aload_n 1, 1) := by decide +kernel
theorem dL_law_184 : decode cL_law 184 = .ok (.invokevirtual 18, 3) := by decide +kernel
theorem dL_law_187 : decode cL_law 187 = .ok (.pop, 1) := by decide +kernel
theorem dL_law_188 : decode cL_law 188 = .ok (.aload_n 2, 1) := by decide +kernel
theorem dL_law_189 : decode cL_law 189 = .ok (.invokevirtual 22, 3) := by decide +kernel
theorem dL_law_192 : decode cL_law 192 = .ok (.pop, 1) := by decide +kernel
theorem dL_law_193 : decode cL_law 193 = .ok (.goto 651, 3) := by decide +kernel
theorem dL_law_196 : decode cL_law 196 = .ok (.aload_n 1, 1) := by decide +kernel
theorem dL_law_197 : decode cL_law 197 = .ok (.invokevirtual 23, 3) := by decide +kernel
theorem dL_law_200 : decode cL_law 200 = .ok (.pop, 1) := by decide +kernel
theorem dL_law_201 : decode cL_law 201 = .ok (.aload_n 2, 1) := by decide +kernel
theorem dL_law_202 : decode cL_law 202 = .ok (.invokevirtual 26, 3) := by decide +kernel
theorem dL_law_205 : decode cL_law 205 = .ok (.pop, 1) := by decide +kernel
theorem dL_law_206 : decode cL_law 206 = .ok (.goto 638, 3) := by decide +kernel
theorem dL_law_209 : decode cL_law 209 = .ok (.aload_n 1, 1) := by decide +kernel
theorem dL_law_210 : decode cL_law 210 = .ok (.invokevirtual 27, 3) := by decide +kernel
theorem dL_law_213 : decode cL_law 213 = .ok (.pop, 1) := by decide +kernel
theorem dL_law_214 : decode cL_law 214 = .ok (.aload_n 2, 1) := by decide +kernel
theorem dL_law_215 : decode cL_law 215 = .ok (.invokevirtual 30, 3) := by decide +kernel
theorem dL_law_218 : decode cL_law 218 = .ok (.pop, 1) := by decide +kernel
theorem dL_law_219 : decode cL_law 219 = .ok (.goto 625, 3) := by decide +kernel
theorem dL_law_222 : decode cL_law 222 = .ok (.aload_n 1, 1) := by decide +kernel
theorem dL_law_223 : decode cL_law 223 = .ok (.aload_n 0, 1) := by decide +kernel
theorem dL_law_224 : decode cL_law 224 = .ok (.iload_n 3, 1) := by decide +kernel
theorem dL_law_225 : decode cL_law 225 = .ok (.iconst 1, 1) := by decide +kernel
theorem dL_law_226 : decode cL_law 226 = .ok (.iadd, 1) := by decide +kernel
theorem dL_law_227 : decode cL_law 227 = .ok (.iaload, 1) := by decide +kernel
theorem dL_law_228 : decode cL_law 228 = .ok (.aload_n 0, 1) := by decide +kernel
theorem dL_law_229 : decode cL_law 229 = .ok (.iload_n 3, 1) := by decide +kernel
theorem dL_law_230 : decode cL_law 230 = .ok (.iconst 2, 1) := by decide +kernel
theorem dL_law_231 : decode cL_law 231 = .ok (.iadd, 1) := by decide +kernel
theorem dL_law_232 : decode cL_law 232 = .ok (.iaload, 1) := by decide +kernel
theorem dL_law_233 : decode cL_law 233 = .ok (.invokevirtual 31, 3) := by decide +kernel
theorem dL_law_236 : decode cL_law 236 = .ok (.pop, 1) := by decide +kernel
theorem dL_law_237 : decode cL_law 237 = .ok (.aload_n 2, 1) := by decide +kernel
theorem dL_law_238 : decode cL_law 238 = .ok (.aload_n 0, 1) := by decide +kernel
theorem dL_law_239 : decode cL_law 239 = .ok (.iload_n 3, 1) := by decide +kernel
theorem dL_law_240 : decode cL_law 240 = .ok (.iconst 1, 1) := by decide +kernel
theorem dL_law_241 : decode cL_law 241 = .ok (.iadd, 1) := by decide +kernel
theorem dL_law_242 : decode cL_law 242 = .ok (.iaload, 1) := by decide +kernel
theorem dL_law_243 : decode cL_law 243 = .ok (.aload_n 0, 1) := by decide +kernel
theorem dL_law_244 : decode cL_law 244 = .ok (.iload_n 3, 1) := by decide +kernel
theorem dL_law_245 : decode cL_law 245 = .ok (.iconst 2, 1) := by decide +kernel
theorem dL_law_246 : decode cL_law 246 = .ok (.iadd, 1) := by decide +kernel
theorem dL_law_247 : decode cL_law 247 = .ok (.iaload, 1) := by decide +kernel
theorem dL_law_248 : decode cL_law 248 = .ok (.invokevirtual 35, 3) := by decide +kernel
theorem dL_law_251 : decode cL_law 251 = .ok (.pop, 1) := by decide +kernel
theorem dL_law_252 : decode cL_law 252 = .ok (.goto 592, 3) := by decide +kernel
theorem dL_law_255 : decode cL_law 255 = .ok (.aload_n 1, 1) := by decide +kernel
theorem dL_law_256 : decode cL_law 256 = .ok (.aload_n 0, 1) := by decide +kernel
theorem dL_law_257 : decode cL_law 257 = .ok (.iload_n 3, 1) := by decide +kernel
theorem dL_law_258 : decode cL_law 258 = .ok (.iconst 1, 1) := by decide +kernel
theorem dL_law_259 : decode cL_law 259 = .ok (.iadd, 1) := by decide +kernel
theorem dL_law_260 : decode cL_law 260 = .ok (.iaload, 1) := by decide +kernel
theorem dL_law_261 : decode cL_law 261 = .ok (.aload_n 0, 1) := by decide +kernel
theorem dL_law_262 : decode cL_law 262 = .ok (.iload_n 3, 1) := by decide +kernel
theorem dL_law_263 : decode cL_law 263 = .ok (.iconst 2, 1) := by decide +kernel
theorem dL_law_264 : decode cL_law 264 = .ok (.iadd, 1) := by decide +kernel
theorem dL_law_265 : decode cL_law 265 = .ok (.iaload, 1) := by decide +kernel
theorem dL_law_266 : decode cL_law 266 = .ok (.invokevirtual 36, 3) := by decide +kernel
theorem dL_law_269 : decode cL_law 269 = .ok (.pop, 1) := by decide +kernel
theorem dL_law_270 : decode cL_law 270 = .ok (.aload_n 2, 1) := by decide +kernel
theorem dL_law_271 : decode cL_law 271 = .ok (.aload_n 0, 1) := by decide +kernel
theorem dL_law_272 : decode cL_law 272 = .ok (.iload_n 3, 1) := by decide +kernel
theorem dL_law_273 : decode cL_law 273 = .ok (.iconst 1, 1) := by decide +kernel
theorem dL_law_274 : decode cL_law 274 = .ok (.iadd, 1) := by decide +kernel
theorem dL_law_275 : decode cL_law 275 = .ok (.iaload, 1) := by decide +kernel
theorem dL_law_276 : decode cL_law 276 = .ok (.aload_n 0, 1) := by decide +kernel
theorem dL_law_277 : decode cL_law 277 = .ok (.iload_n 3, 1) := by decide +kernel
theorem dL_law_278 : decode cL_law 278 = .ok (.iconst 2, 1) := by decide +kernel
theorem dL_law_279 : decode cL_law 279 = .ok (.iadd, 1) := by decide +kernel
theorem dL_law_280 : decode cL_law 280 = .ok (.iaload, 1) := by decide +kernel
theorem dL_law_281 : decode cL_law 281 = .ok (.invokevirtual 39, 3) := by decide +kernel
theorem dL_law_284 : decode cL_law 284 = .ok (.pop, 1) := by decide +kernel
theorem dL_law_285 : decode cL_law 285 = .ok (.goto 559, 3) := by decide +kernel
theorem dL_law_288 : decode cL_law 288 = .ok (.aload_n 1, 1) := by decide +kernel
theorem dL_law_289 : decode cL_law 289 = .ok (.aload_n 0, 1) := by decide +kernel
theorem dL_law_290 : decode cL_law 290 = .ok (.iload_n 3, 1) := by decide +kernel
theorem dL_law_291 : decode cL_law 291 = .ok (.iconst 1, 1) := by decide +kernel
theorem dL_law_292 : decode cL_law 292 = .ok (.iadd, 1) := by decide +kernel
theorem dL_law_293 : decode cL_law 293 = .ok (.iaload, 1) := by decide +kernel
theorem dL_law_294 : decode cL_law 294 = .ok (.aload_n 0, 1) := by decide +kernel
theorem dL_law_295 : decode cL_law 295 = .ok (.iload_n 3, 1) := by decide +kernel
theorem dL_law_296 : decode cL_law 296 = .ok (.iconst 2, 1) := by decide +kernel
theorem dL_law_297 : decode cL_law 297 = .ok (.iadd, 1) := by decide +kernel
theorem dL_law_298 : decode cL_law 298 = .ok (.iaload, 1) := by decide +kernel
theorem dL_law_299 : decode cL_law 299 = .ok (.invokevirtual 40, 3) := by decide +kernel
theorem dL_law_302 : decode cL_law 302 = .ok (.pop, 1) := by decide +kernel
theorem dL_law_303 : decode cL_law 303 = .ok (.aload_n 2, 1) := by decide +kernel
theorem dL_law_304 : decode cL_law 304 = .ok (.aload_n 0, 1) := by decide +kernel
theorem dL_law_305 : decode cL_law 305 = .ok (.iload_n 3, 1) := by decide +kernel
theorem dL_law_306 : decode cL_law 306 = .ok (.iconst 1, 1) := by decide +kernel
theorem dL_law_307 : decode cL_law 307 = .ok (.iadd, 1) := by decide +kernel
theorem dL_law_308 : decode cL_law 308 = .ok (.iaload, 1) := by decide +kernel
theorem dL_law_309 : decode cL_law 309 = .ok (.aload_n 0, 1) := by decide +kernel
theorem dL_law_310 : decode cL_law 310 = .ok (.iload_n 3, 1) := by decide +kernel
theorem dL_law_311 : decode cL_law 311 = .ok (.iconst 2, 1) := by decide +kernel
theorem dL_law_312 : decode cL_law 312 = .ok (.iadd, 1) := by decide +kernel
theorem dL_law_313 : decode cL_law 313 = .ok (.iaload, 1) := by decide +kernel
theorem dL_law_314 : decode cL_law 314 = .ok (.invokevirtual 43, 3) := by decide +kernel
theorem dL_law_317 : decode cL_law 317 = .ok (.pop, 1) := by decide +kernel
theorem dL_law_318 : decode cL_law 318 = .ok (.goto 526, 3) := by decide +kernel
theorem dL_law_321 : decode cL_law 321 = .ok (.aload_n 1, 1) := by decide +kernel
theorem dL_law_322 : decode cL_law 322 = .ok (.invokevirtual 44, 3) := by decide +kernel
theorem dL_law_325 : decode cL_law 325 = .ok (.pop, 1) := by decide +kernel
theorem dL_law_326 : decode cL_law 326 = .ok (.aload_n 2, 1) := by decide +kernel
theorem dL_law_327 : decode cL_law 327 = .ok (.invokevirtual 47, 3) := by decide +kernel
theorem dL_law_330 : decode cL_law 330 = .ok (.pop, 1) := by decide +kernel
theorem dL_law_331 : decode cL_law 331 = .ok (.goto 513, 3) := by decide +kernel
theorem dL_law_334 : decode cL_law 334 = .ok (.aload_n 1, 1) := by decide +kernel
theorem dL_law_335 : decode cL_law 335 = .ok (.invokevirtual 48, 3) := by decide +kernel
theorem dL_law_338 : decode cL_law 338 = .ok (.pop, 1) := by decide +kernel
theorem dL_law_339 : decode cL_law 339 = .ok (.aload_n 2, 1) := by decide +kernel
theorem dL_law_340 : decode cL_law 340 = .ok (.invokevirtual 51, 3) := by decide +kernel
theorem dL_law_343 : decode cL_law 343 = .ok (.pop, 1) := by decide +kernel
theorem dL_law_344 : decode cL_law 344 = .ok (.goto 500, 3) := by decide +kernel
theorem dL_law_347 : decode cL_law 347 = .ok (.aload_n 1, 1) := by decide +kernel
theorem dL_law_348 : decode cL_law 348 = .ok (.aload_n 0, 1) := by decide +kernel
theorem dL_law_349 : decode cL_law 349 = .ok (.iload_n 3, 1) := by decide +kernel
theorem dL_law_350 : decode cL_law 350 = .ok (.iconst 1, 1) := by decide +kernel
theorem dL_law_351 : decode cL_law 351 = .ok (.iadd, 1) := by decide +kernel
theorem dL_law_352 : decode cL_law 352 = .ok (.iaload, 1) := by decide +kernel
theorem dL_law_353 : decode cL_law 353 = .ok (.aload_n 0, 1) := by decide +kernel
theorem dL_law_354 : decode cL_law 354 = .ok (.iload_n 3, 1) := by decide +kernel
theorem dL_law_355 : decode cL_law 355 = .ok (.iconst 2, 1) := by decide +kernel
theorem dL_law_356 : decode cL_law 356 = .ok (.iadd, 1) := by decide +kernel
theorem dL_law_357 : decode cL_law 357 = .ok (.iaload, 1) := by decide +kernel
theorem dL_law_358 : decode cL_law 358 = .ok (.invokevirtual 52, 3) := by decide +kernel
theorem dL_law_361 : decode cL_law 361 = .ok (.pop, 1) := by decide +kernel
theorem dL_law_362 : decode cL_law 362 = .ok (.aload_n 2, 1) := by decide +kernel
theorem dL_law_363 : decode cL_law 363 = .ok (.aload_n 0, 1) := by decide +kernel
theorem dL_law_364 : decode cL_law 364 = .ok (.iload_n 3, 1) := by decide +kernel
theorem dL_law_365 : decode cL_law 365 = .ok (.iconst 1, 1) := by decide +kernel
theorem dL_law_366 : decode cL_law 366 = .ok (.iadd, 1) := by decide +kernel
theorem dL_law_367 : decode cL_law 367 = .ok (.iaload, 1) := by decide +kernel
theorem dL_law_368 : decode cL_law 368 = .ok (.aload_n 0, 1) := by decide +kernel
theorem dL_law_369 : decode cL_law 369 = .ok (.iload_n 3, 1) := by decide +kernel
theorem dL_law_370 : decode cL_law 370 = .ok (.iconst 2, 1) := by decide +kernel
theorem dL_law_371 : decode cL_law 371 = .ok (.iadd, 1) := by decide +kernel
theorem dL_law_372 : decode cL_law 372 = .ok (.iaload, 1) := by decide +kernel
theorem dL_law_373 : decode cL_law 373 = .ok (.invokevirtual 55, 3) := by decide +kernel
theorem dL_law_376 : decode cL_law 376 = .ok (.pop, 1) := by decide +kernel
theorem dL_law_377 : decode cL_law 377 = .ok (.goto 467, 3) := by decide +kernel
theorem dL_law_380 : decode cL_law 380 = .ok (.aload_n 1, 1) := by decide +kernel
theorem dL_law_381 : decode cL_law 381 = .ok (.aload_n 0, 1) := by decide +kernel
theorem dL_law_382 : decode cL_law 382 = .ok (.iload_n 3, 1) := by decide +kernel
theorem dL_law_383 : decode cL_law 383 = .ok (.iconst 1, 1) := by decide +kernel
theorem dL_law_384 : decode cL_law 384 = .ok (.iadd, 1) := by decide +kernel
theorem dL_law_385 : decode cL_law 385 = .ok (.iaload, 1) := by decide +kernel
theorem dL_law_386 : decode cL_law 386 = .ok (.aload_n 0, 1) := by decide +kernel
theorem dL_law_387 : decode cL_law 387 = .ok (.iload_n 3, 1) := by decide +kernel
theorem dL_law_388 : decode cL_law 388 = .ok (.iconst 2, 1) := by decide +kernel
theorem dL_law_389 : decode cL_law 389 = .ok (.iadd, 1) := by decide +kernel
theorem dL_law_390 : decode cL_law 390 = .ok (.iaload, 1) := by decide +kernel
theorem dL_law_391 : decode cL_law 391 = .ok (.invokevirtual 56, 3) := by decide +kernel
theorem dL_law_394 : decode cL_law 394 = .ok (.pop, 1) := by decide +kernel
theorem dL_law_395 : decode cL_law 395 = .ok (.aload_n 2, 1) := by decide +kernel
theorem dL_law_396 : decode cL_law 396 = .ok (.aload_n 0, 1) := by decide +kernel
theorem dL_law_397 : decode cL_law 397 = .ok (.iload_n 3, 1) := by decide +kernel
theorem dL_law_398 : decode cL_law 398 = .ok (.iconst 1, 1) := by decide +kernel
theorem dL_law_399 : decode cL_law 399 = .ok (.iadd, 1) := by decide +kernel
theorem dL_law_400 : decode cL_law 400 = .ok (.iaload, 1) := by decide +kernel
theorem dL_law_401 : decode cL_law 401 = .ok (.aload_n 0, 1) := by decide +kernel
theorem dL_law_402 : decode cL_law 402 = .ok (.iload_n 3, 1) := by decide +kernel
theorem dL_law_403 : decode cL_law 403 = .ok (.iconst 2, 1) := by decide +kernel
theorem dL_law_404 : decode cL_law 404 = .ok (.iadd, 1) := by decide +kernel
theorem dL_law_405 : decode cL_law 405 = .ok (.iaload, 1) := by decide +kernel
theorem dL_law_406 : decode cL_law 406 = .ok (.invokevirtual 59, 3) := by decide +kernel
theorem dL_law_409 : decode cL_law 409 = .ok (.pop, 1) := by decide +kernel
theorem dL_law_410 : decode cL_law 410 = .ok (.goto 434, 3) := by decide +kernel
theorem dL_law_413 : decode cL_law 413 = .ok (.aload_n 1, 1) := by decide +kernel
theorem dL_law_414 : decode cL_law 414 = .ok (.aload_n 0, 1) := by decide +kernel
theorem dL_law_415 : decode cL_law 415 = .ok (.iload_n 3, 1) := by decide +kernel
theorem dL_law_416 : decode cL_law 416 = .ok (.iconst 1, 1) := by decide +kernel
theorem dL_law_417 : decode cL_law 417 = .ok (.iadd, 1) := by decide +kernel
theorem dL_law_418 : decode cL_law 418 = .ok (.iaload, 1) := by decide +kernel
theorem dL_law_419 : decode cL_law 419 = .ok (.aload_n 0, 1) := by decide +kernel
theorem dL_law_420 : decode cL_law 420 = .ok (.iload_n 3, 1) := by decide +kernel
theorem dL_law_421 : decode cL_law 421 = .ok (.iconst 2, 1) := by decide +kernel
theorem dL_law_422 : decode cL_law 422 = .ok (.iadd, 1) := by decide +kernel
theorem dL_law_423 : decode cL_law 423 = .ok (.iaload, 1) := by decide +kernel
theorem dL_law_424 : decode cL_law 424 = .ok (.invokevirtual 60, 3) := by decide +kernel
theorem dL_law_427 : decode cL_law 427 = .ok (.pop, 1) := by decide +kernel
theorem dL_law_428 : decode cL_law 428 = .ok (.aload_n 2, 1) := by decide +kernel
theorem dL_law_429 : decode cL_law 429 = .ok (.aload_n 0, 1) := by decide +kernel
theorem dL_law_430 : decode cL_law 430 = .ok (.iload_n 3, 1) := by decide +kernel
theorem dL_law_431 : decode cL_law 431 = .ok (.iconst 1, 1) := by decide +kernel
theorem dL_law_432 : decode cL_law 432 = .ok (.iadd, 1) := by decide +kernel
theorem dL_law_433 : decode cL_law 433 = .ok (.iaload, 1) := by decide +kernel
theorem dL_law_434 : decode cL_law 434 = .ok (.aload_n 0, 1) := by decide +kernel
theorem dL_law_435 : decode cL_law 435 = .ok (.iload_n 3, 1) := by decide +kernel
theorem dL_law_436 : decode cL_law 436 = .ok (.iconst 2, 1) := by decide +kernel
theorem dL_law_437 : decode cL_law 437 = .ok (.iadd, 1) := by decide +kernel
theorem dL_law_438 : decode cL_law 438 = .ok (.iaload, 1) := by decide +kernel
theorem dL_law_439 : decode cL_law 439 = .ok (.invokevirtual 63, 3) := by decide +kernel
theorem dL_law_442 : decode cL_law 442 = .ok (.pop, 1) := by decide +kernel
theorem dL_law_443 : decode cL_law 443 = .ok (.goto 401, 3) := by decide +kernel
theorem dL_law_446 : decode cL_law 446 = .ok (.aload_n 1, 1) := by decide +kernel
theorem dL_law_447 : decode cL_law 447 = .ok (.aload_n 0, 1) := by decide +kernel
theorem dL_law_448 : decode cL_law 448 = .ok (.iload_n 3, 1) := by decide +kernel
theorem dL_law_449 : decode cL_law 449 = .ok (.iconst 1, 1) := by decide +kernel
theorem dL_law_450 : decode cL_law 450 = .ok (.iadd, 1) := by decide +kernel
theorem dL_law_451 : decode cL_law 451 = .ok (.iaload, 1) := by decide +kernel
theorem dL_law_452 : decode cL_law 452 = .ok (.aload_n 0, 1) := by decide +kernel
theorem dL_law_453 : decode cL_law 453 = .ok (.iload_n 3, 1) := by decide +kernel
theorem dL_law_454 : decode cL_law 454 = .ok (.iconst 2, 1) := by decide +kernel
theorem dL_law_455 : decode cL_law 455 = .ok (.iadd, 1) := by decide +kernel
theorem dL_law_456 : decode cL_law 456 = .ok (.iaload, 1) := by decide +kernel
theorem dL_law_457 : decode cL_law 457 = .ok (.invokevirtual 64, 3) := by decide +kernel
theorem dL_law_460 : decode cL_law 460 = .ok (.pop, 1) := by decide +kernel
theorem dL_law_461 : decode cL_law 461 = .ok (.aload_n 2, 1) := by decide +kernel
theorem dL_law_462 : decode cL_law 462 = .ok (.aload_n 0, 1) := by decide +kernel
theorem dL_law_463 : decode cL_law 463 = .ok (.iload_n 3, 1) := by decide +kernel
theorem dL_law_464 : decode cL_law 464 = .ok (.iconst 1, 1) := by decide +kernel
theorem dL_law_465 : decode cL_law 465 = .ok (.iadd, 1) := by decide +kernel
theorem dL_law_466 : decode cL_law 466 = .ok (.iaload, 1) := by decide +kernel
theorem dL_law_467 : decode cL_law 467 = .ok (.aload_n 0, 1) := by decide +kernel
theorem dL_law_468 : decode cL_law 468 = .ok (.iload_n 3, 1) := by decide +kernel
theorem dL_law_469 : decode cL_law 469 = .ok (.iconst 2, 1) := by decide +kernel
theorem dL_law_470 : decode cL_law 470 = .ok (.iadd, 1) := by decide +kernel
theorem dL_law_471 : decode cL_law 471 = .ok (.iaload, 1) := by decide +kernel
theorem dL_law_472 : decode cL_law 472 = .ok (.invokevirtual 67, 3) := by decide +kernel
theorem dL_law_475 : decode cL_law 475 = .ok (.pop, 1) := by decide +kernel
theorem dL_law_476 : decode cL_law 476 = .ok (.goto 368, 3) := by decide +kernel
theorem dL_law_479 : decode cL_law 479 = .ok (.aload_n 1, 1) := by decide +kernel
theorem dL_law_480 : decode cL_law 480 = .ok (.aload_n 0, 1) := by decide +kernel
theorem dL_law_481 : decode cL_law 481 = .ok (.iload_n 3, 1) := by decide +kernel
theorem dL_law_482 : decode cL_law 482 = .ok (.iconst 1, 1) := by decide +kernel
theorem dL_law_483 : decode cL_law 483 = .ok (.iadd, 1) := by decide +kernel
theorem dL_law_484 : decode cL_law 484 = .ok (.iaload, 1) := by decide +kernel
theorem dL_law_485 : decode cL_law 485 = .ok (.aload_n 0, 1) := by decide +kernel
theorem dL_law_486 : decode cL_law 486 = .ok (.iload_n 3, 1) := by decide +kernel
theorem dL_law_487 : decode cL_law 487 = .ok (.iconst 2, 1) := by decide +kernel
theorem dL_law_488 : decode cL_law 488 = .ok (.iadd, 1) := by decide +kernel
theorem dL_law_489 : decode cL_law 489 = .ok (.iaload, 1) := by decide +kernel
theorem dL_law_490 : decode cL_law 490 = .ok (.invokevirtual 68, 3) := by decide +kernel
theorem dL_law_493 : decode cL_law 493 = .ok (.pop, 1) := by decide +kernel
theorem dL_law_494 : decode cL_law 494 = .ok (.aload_n 2, 1) := by decide +kernel
theorem dL_law_495 : decode cL_law 495 = .ok (.aload_n 0, 1) := by decide +kernel
theorem dL_law_496 : decode cL_law 496 = .ok (.iload_n 3, 1) := by decide +kernel
theorem dL_law_497 : decode cL_law 497 = .ok (.iconst 1, 1) := by decide +kernel
theorem dL_law_498 : decode cL_law 498 = .ok (.iadd, 1) := by decide +kernel
theorem dL_law_499 : decode cL_law 499 = .ok (.iaload, 1) := by decide +kernel
theorem dL_law_500 : decode cL_law 500 = .ok (.aload_n 0, 1) := by decide +kernel
theorem dL_law_501 : decode cL_law 501 = .ok (.iload_n 3, 1) := by decide +kernel
theorem dL_law_502 : decode cL_law 502 = .ok (.iconst 2, 1) := by decide +kernel
theorem dL_law_503 : decode cL_law 503 = .ok (.iadd, 1) := by decide +kernel
theorem dL_law_504 : decode cL_law 504 = .ok (.iaload, 1) := by decide +kernel
theorem dL_law_505 : decode cL_law 505 = .ok (.invokevirtual 71, 3) := by decide +kernel
theorem dL_law_508 : decode cL_law 508 = .ok (.pop, 1) := by decide +kernel
theorem dL_law_509 : decode cL_law 509 = .ok (.goto 335, 3) := by decide +kernel
theorem dL_law_512 : decode cL_law 512 = .ok (.aload_n 1, 1) := by decide +kernel
theorem dL_law_513 : decode cL_law 513 = .ok (.invokevirtual 72, 3) := by decide +kernel
theorem dL_law_516 : decode cL_law 516 = .ok (.pop, 1) := by decide +kernel
theorem dL_law_517 : decode cL_law 517 = .ok (.aload_n 2, 1) := by decide +kernel
theorem dL_law_518 : decode cL_law 518 = .ok (.invokevirtual 75, 3) := by decide +kernel
theorem dL_law_521 : decode cL_law 521 = .ok (.pop, 1) := by decide +kernel
theorem dL_law_522 : decode cL_law 522 = .ok (.goto 322, 3) := by decide +kernel
theorem dL_law_525 : decode cL_law 525 = .ok (.aload_n 1, 1) := by decide +kernel
theorem dL_law_526 : decode cL_law 526 = .ok (.aload_n 0, 1) := by decide +kernel
theorem dL_law_527 : decode cL_law 527 = .ok (.iload_n 3, 1) := by decide +kernel
theorem dL_law_528 : decode cL_law 528 = .ok (.iconst 1, 1) := by decide +kernel
theorem dL_law_529 : decode cL_law 529 = .ok (.iadd, 1) := by decide +kernel
theorem dL_law_530 : decode cL_law 530 = .ok (.iaload, 1) := by decide +kernel
theorem dL_law_531 : decode cL_law 531 = .ok (.aload_n 0, 1) := by decide +kernel
theorem dL_law_532 : decode cL_law 532 = .ok (.iload_n 3, 1) := by decide +kernel
theorem dL_law_533 : decode cL_law 533 = .ok (.iconst 2, 1) := by decide +kernel
theorem dL_law_534 : decode cL_law 534 = .ok (.iadd, 1) := by decide +kernel
theorem dL_law_535 : decode cL_law 535 = .ok (.iaload, 1) := by decide +kernel
theorem dL_law_536 : decode cL_law 536 = .ok (.invokevirtual 76, 3) := by decide +kernel
theorem dL_law_539 : decode cL_law 539 = .ok (.pop, 1) := by decide +kernel
theorem dL_law_540 : decode cL_law 540 = .ok (.aload_n 2, 1) := by decide +kernel
theorem dL_law_541 : decode cL_law 541 = .ok (.aload_n 0, 1) := by decide +kernel
theorem dL_law_542 : decode cL_law 542 = .ok (.iload_n 3, 1) := by decide +kernel
theorem dL_law_543 : decode cL_law 543 = .ok (.iconst 1, 1) := by decide +kernel
theorem dL_law_544 : decode cL_law 544 = .ok (.iadd, 1) := by decide +kernel
theorem dL_law_545 : decode cL_law 545 = .ok (.iaload, 1) := by decide +kernel
theorem dL_law_546 : decode cL_law 546 = .ok (.aload_n 0, 1) := by decide +kernel
theorem dL_law_547 : decode cL_law 547 = .ok (.iload_n 3, 1) := by decide +kernel
theorem dL_law_548 : decode cL_law 548 = .ok (.iconst 2, 1) := by decide +kernel
theorem dL_law_549 : decode cL_law 549 = .ok (.iadd, 1) := by decide +kernel
theorem dL_law_550 : decode cL_law 550 = .ok (.iaload, 1) := by decide +kernel
theorem dL_law_551 : decode cL_law 551 = .ok (.invokevirtual 79, 3) := by decide +kernel
theorem dL_law_554 : decode cL_law 554 = .ok (.pop, 1) := by decide +kernel
theorem dL_law_555 : decode cL_law 555 = .ok (.goto 289, 3) := by decide +kernel
theorem dL_law_558 : decode cL_law 558 = .ok (.aload_n 1, 1) := by decide +kernel
theorem dL_law_559 : decode cL_law 559 = .ok (.aload_n 0, 1) := by decide +kernel
theorem dL_law_560 : decode cL_law 560 = .ok (.iload_n 3, 1) := by decide +kernel
theorem dL_law_561 : decode cL_law 561 = .ok (.iconst 1, 1) := by decide +kernel
theorem dL_law_562 : decode cL_law 562 = .ok (.iadd, 1) := by decide +kernel
theorem dL_law_563 : decode cL_law 563 = .ok (.iaload, 1) := by decide +kernel
theorem dL_law_564 : decode cL_law 564 = .ok (.aload_n 0, 1) := by decide +kernel
theorem dL_law_565 : decode cL_law 565 = .ok (.iload_n 3, 1) := by decide +kernel
theorem dL_law_566 : decode cL_law 566 = .ok (.iconst 2, 1) := by decide +kernel
theorem dL_law_567 : decode cL_law 567 = .ok (.iadd, 1) := by decide +kernel
theorem dL_law_568 : decode cL_law 568 = .ok (.iaload, 1) := by decide +kernel
theorem dL_law_569 : decode cL_law 569 = .ok (.invokevirtual 80, 3) := by decide +kernel
theorem dL_law_572 : decode cL_law 572 = .ok (.pop, 1) := by decide +kernel
theorem dL_law_573 : decode cL_law 573 = .ok (.aload_n 2, 1) := by decide +kernel
theorem dL_law_574 : decode cL_law 574 = .ok (.aload_n 0, 1) := by decide +kernel
theorem dL_law_575 : decode cL_law 575 = .ok (.iload_n 3, 1) := by decide +kernel
theorem dL_law_576 : decode cL_law 576 = .ok (.iconst 1, 1) := by decide +kernel
theorem dL_law_577 : decode cL_law 577 = .ok (.iadd, 1) := by decide +kernel
theorem dL_law_578 : decode cL_law 578 = .ok (.iaload, 1) := by decide +kernel
theorem dL_law_579 : decode cL_law 579 = .ok (.aload_n 0, 1) := by decide +kernel
theorem dL_law_580 : decode cL_law 580 = .ok (.iload_n 3, 1) := by decide +kernel
theorem dL_law_581 : decode cL_law 581 = .ok (.iconst 2, 1) := by decide +kernel
theorem dL_law_582 : decode cL_law 582 = .ok (.iadd, 1) := by decide +kernel
theorem dL_law_583 : decode cL_law 583 = .ok (.iaload, 1) := by decide +kernel
theorem dL_law_584 : decode cL_law 584 = .ok (.invokevirtual 83, 3) := by decide +kernel
theorem dL_law_587 : decode cL_law 587 = .ok (.pop, 1) := by decide +kernel
theorem dL_law_588 : decode cL_law 588 = .ok (.goto 256, 3) := by decide +kernel
theorem dL_law_591 : decode cL_law 591 = .ok (.aload_n 1, 1) := by decide +kernel
theorem dL_law_592 : decode cL_law 592 = .ok (.invokevirtual 84, 3) := by decide +kernel
theorem dL_law_595 : decode cL_law 595 = .ok (.pop, 1) := by decide +kernel
theorem dL_law_596 : decode cL_law 596 = .ok (.aload_n 2, 1) := by decide +kernel
theorem dL_law_597 : decode cL_law 597 = .ok (.invokevirtual 87, 3) := by decide +kernel
theorem dL_law_600 : decode cL_law 600 = .ok (.pop, 1) := by decide +kernel
theorem dL_law_601 : decode cL_law 601 = .ok (.goto 243, 3) := by decide +kernel
theorem dL_law_604 : decode cL_law 604 = .ok (.aload_n 1, 1) := by decide +kernel
theorem dL_law_605 : decode cL_law 605 = .ok (.aload_n 0, 1) := by decide +kernel
theorem dL_law_606 : decode cL_law 606 = .ok (.iload_n 3, 1) := by decide +kernel
theorem dL_law_607 : decode cL_law 607 = .ok (.iconst 1, 1) := by decide +kernel
theorem dL_law_608 : decode cL_law 608 = .ok (.iadd, 1) := by decide +kernel
theorem dL_law_609 : decode cL_law 609 = .ok (.iaload, 1) := by decide +kernel
theorem dL_law_610 : decode cL_law 610 = .ok (.aload_n 0, 1) := by decide +kernel
theorem dL_law_611 : decode cL_law 611 = .ok (.iload_n 3, 1) := by decide +kernel
theorem dL_law_612 : decode cL_law 612 = .ok (.iconst 2, 1) := by decide +kernel
theorem dL_law_613 : decode cL_law 613 = .ok (.iadd, 1) := by decide +kernel
theorem dL_law_614 : decode cL_law 614 = .ok (.iaload, 1) := by decide +kernel
theorem dL_law_615 : decode cL_law 615 = .ok (.aload_n 0, 1) := by decide +kernel
theorem dL_law_616 : decode cL_law 616 = .ok (.iload_n 3, 1) := by decide +kernel
theorem dL_law_617 : decode cL_law 617 = .ok (.iconst 3, 1) := by decide +kernel
theorem dL_law_618 : decode cL_law 618 = .ok (.iadd, 1) := by decide +kernel
theorem dL_law_619 : decode cL_law 619 = .ok (.iaload, 1) := by decide +kernel
theorem dL_law_620 : decode cL_law 620 = .ok (.invokevirtual 88, 3) := by decide +kernel
theorem dL_law_623 : decode cL_law 623 = .ok (.pop, 1) := by decide +kernel
theorem dL_law_624 : decode cL_law 624 = .ok (.aload_n 2, 1) := by decide +kernel
theorem dL_law_625 : decode cL_law 625 = .ok (.aload_n 0, 1) := by decide +kernel
theorem dL_law_626 : decode cL_law 626 = .ok (.iload_n 3, 1) := by decide +kernel
theorem dL_law_627 : decode cL_law 627 = .ok (.iconst 1, 1) := by decide +kernel
theorem dL_law_628 : decode cL_law 628 = .ok (.iadd, 1) := by decide +kernel
theorem dL_law_629 : decode cL_law 629 = .ok (.iaload, 1) := by decide +kernel
theorem dL_law_630 : decode cL_law 630 = .ok (.aload_n 0, 1) := by decide +kernel
theorem dL_law_631 : decode cL_law 631 = .ok (.iload_n 3, 1) := by decide +kernel
theorem dL_law_632 : decode cL_law 632 = .ok (.iconst 2, 1) := by decide +kernel
theorem dL_law_633 : decode cL_law 633 = .ok (.iadd, 1) := by decide +kernel
theorem dL_law_634 : decode cL_law 634 = .ok (.iaload, 1) := by decide +kernel
theorem dL_law_635 : decode cL_law 635 = .ok (.aload_n 0, 1) := by decide +kernel
theorem dL_law_636 : decode cL_law 636 = .ok (.iload_n 3, 1) := by decide +kernel
theorem dL_law_637 : decode cL_law 637 = .ok (.iconst 3, 1) := by decide +kernel
theorem dL_law_638 : decode cL_law 638 = .ok (.iadd, 1) := by decide +kernel
theorem dL_law_639 : decode cL_law 639 = .ok (.iaload, 1) := by decide +kernel
theorem dL_law_640 : decode cL_law 640 = .ok (.invokevirtual 92, 3) := by decide +kernel
theorem dL_law_643 : decode cL_law 643 = .ok (.pop, 1) := by decide +kernel
theorem dL_law_644 : decode cL_law 644 = .ok (.goto 200, 3) := by decide +kernel
theorem dL_law_647 : decode cL_law 647 = .ok (.aload_n 1, 1) := by decide +kernel
theorem dL_law_648 : decode cL_law 648 = .ok (.invokevirtual 93, 3) := by decide +kernel
theorem dL_law_651 : decode cL_law 651 = .ok (.pop, 1) := by decide +kernel
theorem dL_law_652 : decode cL_law 652 = .ok (.aload_n 2, 1) := by decide +kernel
theorem dL_law_653 : decode cL_law 653 = .ok (.invokevirtual 96, 3) := by decide +kernel
theorem dL_law_656 : decode cL_law 656 = .ok (.pop, 1) := by decide +kernel
theorem dL_law_657 : decode cL_law 657 = .ok (.goto 187, 3) := by decide +kernel
theorem dL_law_660 : decode cL_law 660 = .ok (.aload_n 1, 1) := by decide +kernel
theorem dL_law_661 : decode cL_law 661 = .ok (.aload_n 0, 1) := by decide +kernel
theorem dL_law_662 : decode cL_law 662 = .ok (.iload_n 3, 1) := by decide +kernel
theorem dL_law_663 : decode cL_law 663 = .ok (.iconst 1, 1) := by decide +kernel
theorem dL_law_664 : decode cL_law 664 = .ok (.iadd, 1) := by decide +kernel
theorem dL_law_665 : decode cL_law 665 = .ok (.iaload, 1) := by decide +kernel
theorem dL_law_666 : decode cL_law 666 = .ok (.invokevirtual 97, 3) := by decide +kernel
theorem dL_law_669 : decode cL_law 669 = .ok (.pop, 1) := by decide +kernel
theorem dL_law_670 : decode cL_law 670 = .ok (.aload_n 2, 1) := by decide +kernel
theorem dL_law_671 : decode cL_law 671 = .ok (.aload_n 0, 1) := by decide +kernel
theorem dL_law_672 : decode cL_law 672 = .ok (.iload_n 3, 1) := by decide +kernel
theorem dL_law_673 : decode cL_law 673 = .ok (.iconst 1, 1) := by decide +kernel
theorem dL_law_674 : decode cL_law 674 = .ok (.iadd, 1) := by decide +kernel
theorem dL_law_675 : decode cL_law 675 = .ok (.iaload, 1) := by decide +kernel
theorem dL_law_676 : decode cL_law 676 = .ok (.invokevirtual 100, 3) := by decide +kernel
theorem dL_law_679 : decode cL_law 679 = .ok (.pop, 1) := by decide +kernel
theorem dL_law_680 : decode cL_law 680 = .ok (.goto 164, 3) := by decide +kernel
theorem dL_law_683 : decode cL_law 683 = .ok (.aload_n 1, 1) := by decide +kernel
theorem dL_law_684 : decode cL_law 684 = .ok (.aload_n 0, 1) := by decide +kernel
theorem dL_law_685 : decode cL_law 685 = .ok (.iload_n 3, 1) := by decide +kernel
theorem dL_law_686 : decode cL_law 686 = .ok (.iconst 1, 1) := by decide +kernel
theorem dL_law_687 : decode cL_law 687 = .ok (.iadd, 1) := by decide +kernel
theorem dL_law_688 : decode cL_law 688 = .ok (.iaload, 1) := by decide +kernel
theorem dL_law_689 : decode cL_law 689 = .ok (.aload_n 0, 1) := by decide +kernel
theorem dL_law_690 : decode cL_law 690 = .ok (.iload_n 3, 1) := by decide +kernel
theorem dL_law_691 : decode cL_law 691 = .ok (.iconst 2, 1) := by decide +kernel
theorem dL_law_692 : decode cL_law 692 = .ok (.iadd, 1) := by decide +kernel
theorem dL_law_693 : decode cL_law 693 = .ok (.iaload, 1) := by decide +kernel
theorem dL_law_694 : decode cL_law 694 = .ok (.aload_n 0, 1) := by decide +kernel
theorem dL_law_695 : decode cL_law 695 = .ok (.iload_n 3, 1) := by decide +kernel
theorem dL_law_696 : decode cL_law 696 = .ok (.iconst 3, 1) := by decide +kernel
theorem dL_law_697 : decode cL_law 697 = .ok (.iadd, 1) := by decide +kernel
theorem dL_law_698 : decode cL_law 698 = .ok (.iaload, 1) := by decide +kernel
theorem dL_law_699 : decode cL_law 699 = .ok (.invokevirtual 101, 3) := by decide +kernel
theorem dL_law_702 : decode cL_law 702 = .ok (.pop, 1) := by decide +kernel
theorem dL_law_703 : decode cL_law 703 = .ok (.aload_n 2, 1) := by decide +kernel
theorem dL_law_704 : decode cL_law 704 = .ok (.aload_n 0, 1) := by decide +kernel
theorem dL_law_705 : decode cL_law 705 = .ok (.iload_n 3, 1) := by decide +kernel
theorem dL_law_706 : decode cL_law 706 = .ok (.iconst 1, 1) := by decide +kernel
theorem dL_law_707 : decode cL_law 707 = .ok (.iadd, 1) := by decide +kernel
theorem dL_law_708 : decode cL_law 708 = .ok (.iaload, 1) := by decide +kernel
theorem dL_law_709 : decode cL_law 709 = .ok (.aload_n 0, 1) := by decide +kernel
theorem dL_law_710 : decode cL_law 710 = .ok (.iload_n 3, 1) := by decide +kernel
theorem dL_law_711 : decode cL_law 711 = .ok (.iconst 2, 1) := by decide +kernel
theorem dL_law_712 : decode cL_law 712 = .ok (.iadd, 1) := by decide +kernel
theorem dL_law_713 : decode cL_law 713 = .ok (.iaload, 1) := by decide +kernel
theorem dL_law_714 : decode cL_law 714 = .ok (.aload_n 0, 1) := by decide +kernel
theorem dL_law_715 : decode cL_law 715 = .ok (.iload_n 3, 1) := by decide +kernel
theorem dL_law_716 : decode cL_law 716 = .ok (.iconst 3, 1) := by decide +kernel
theorem dL_law_717 : decode cL_law 717 = .ok (.iadd, 1) := by decide +kernel
theorem dL_law_718 : decode cL_law 718 = .ok (.iaload, 1) := by decide +kernel
theorem dL_law_719 : decode cL_law 719 = .ok (.invokevirtual 104, 3) := by decide +kernel
theorem dL_law_722 : decode cL_law 722 = .ok (.pop, 1) := by decide +kernel
theorem dL_law_723 : decode cL_law 723 = .ok (.goto 121, 3) := by decide +kernel
theorem dL_law_726 : decode cL_law 726 = .ok (.aload_n 1, 1) := by decide +kernel
theorem dL_law_727 : decode cL_law 727 = .ok (.invokevirtual 105, 3) := by decide +kernel
theorem dL_law_730 : decode cL_law 730 = .ok (.pop, 1) := by decide +kernel
theorem dL_law_731 : decode cL_law 731 = .ok (.aload_n 2, 1) := by decide +kernel
theorem dL_law_732 : decode cL_law 732 = .ok (.invokevirtual 108, 3) := by decide +kernel
theorem dL_law_735 : decode cL_law 735 = .ok (.pop, 1) := by decide +kernel
theorem dL_law_736 : decode cL_law 736 = .ok (.goto 108, 3) := by decide +kernel
theorem dL_law_739 : decode cL_law 739 = .ok (.aload_n 1, 1) := by decide +kernel
theorem dL_law_740 : decode cL_law 740 = .ok (.aload_n 0, 1) := by decide +kernel
theorem dL_law_741 : decode cL_law 741 = .ok (.iload_n 3, 1) := by decide +kernel
theorem dL_law_742 : decode cL_law 742 = .ok (.iconst 1, 1) := by decide +kernel
theorem dL_law_743 : decode cL_law 743 = .ok (.iadd, 1) := by decide +kernel
theorem dL_law_744 : decode cL_law 744 = .ok (.iaload, 1) := by decide +kernel
theorem dL_law_745 : decode cL_law 745 = .ok (.aload_n 0, 1) := by decide +kernel
theorem dL_law_746 : decode cL_law 746 = .ok (.iload_n 3, 1) := by decide +kernel
theorem dL_law_747 : decode cL_law 747 = .ok (.iconst 2, 1) := by decide +kernel
theorem dL_law_748 : decode cL_law 748 = .ok (.iadd, 1) := by decide +kernel
theorem dL_law_749 : decode cL_law 749 = .ok (.iaload, 1) := by decide +kernel
theorem dL_law_750 : decode cL_law 750 = .ok (.aload_n 0, 1) := by decide +kernel
theorem dL_law_751 : decode cL_law 751 = .ok (.iload_n 3, 1) := by decide +kernel
theorem dL_law_752 : decode cL_law 752 = .ok (.iconst 3, 1) := by decide +kernel
theorem dL_law_753 : decode cL_law 753 = .ok (.iadd, 1) := by decide +kernel
theorem dL_law_754 : decode cL_law 754 = .ok (.iaload, 1) := by decide +kernel
theorem dL_law_755 : decode cL_law 755 = .ok (.invokevirtual 109, 3) := by decide +kernel
theorem dL_law_758 : decode cL_law 758 = .ok (.pop, 1) := by decide +kernel
theorem dL_law_759 : decode cL_law 759 = .ok (.aload_n 2, 1) := by decide +kernel
theorem dL_law_760 : decode cL_law 760 = .ok (.aload_n 0, 1) := by decide +kernel
theorem dL_law_761 : decode cL_law 761 = .ok (.iload_n 3, 1) := by decide +kernel
theorem dL_law_762 : decode cL_law 762 = .ok (.iconst 1, 1) := by decide +kernel
theorem dL_law_763 : decode cL_law 763 = .ok (.iadd, 1) := by decide +kernel
theorem dL_law_764 : decode cL_law 764 = .ok (.iaload, 1) := by decide +kernel
theorem dL_law_765 : decode cL_law 765 = .ok (.aload_n 0, 1) := by decide +kernel
theorem dL_law_766 : decode cL_law 766 = .ok (.iload_n 3, 1) := by decide +kernel
theorem dL_law_767 : decode cL_law 767 = .ok (.iconst 2, 1) := by decide +kernel
theorem dL_law_768 : decode cL_law 768 = .ok (.iadd, 1) := by decide +kernel
theorem dL_law_769 : decode cL_law 769 = .ok (.iaload, 1) := by decide +kernel
theorem dL_law_770 : decode cL_law 770 = .ok (.aload_n 0, 1) := by decide +kernel
theorem dL_law_771 : decode cL_law 771 = .ok (.iload_n 3, 1) := by decide +kernel
theorem dL_law_772 : decode cL_law 772 = .ok (.iconst 3, 1) := by decide +kernel
theorem dL_law_773 : decode cL_law 773 = .ok (.iadd, 1) := by decide +kernel
theorem dL_law_774 : decode cL_law 774 = .ok (.iaload, 1) := by decide +kernel
theorem dL_law_775 : decode cL_law 775 = .ok (.invokevirtual 112, 3) := by decide +kernel
theorem dL_law_778 : decode cL_law 778 = .ok (.pop, 1) := by decide +kernel
theorem dL_law_779 : decode cL_law 779 = .ok (.goto 65, 3) := by decide +kernel
theorem dL_law_782 : decode cL_law 782 = .ok (.aload_n 1, 1) := by decide +kernel
theorem dL_law_783 : decode cL_law 783 = .ok (.invokevirtual 113, 3) := by decide +kernel
theorem dL_law_786 : decode cL_law 786 = .ok (.pop, 1) := by decide +kernel
theorem dL_law_787 : decode cL_law 787 = .ok (.aload_n 2, 1) := by decide +kernel
theorem dL_law_788 : decode cL_law 788 = .ok (.invokevirtual 116, 3) := by decide +kernel
theorem dL_law_791 : decode cL_law 791 = .ok (.pop, 1) := by decide +kernel
theorem dL_law_792 : decode cL_law 792 = .ok (.goto 52, 3) := by decide +kernel
theorem dL_law_795 : decode cL_law 795 = .ok (.aload_n 1, 1) := by decide +kernel
theorem dL_law_796 : decode cL_law 796 = .ok (.invokevirtual 117, 3) := by decide +kernel
theorem dL_law_799 : decode cL_law 799 = .ok (.aload_n 2, 1) := by decide +kernel
theorem dL_law_800 : decode cL_law 800 = .ok (.invokevirtual 120, 3) := by decide +kernel
theorem dL_law_803 : decode cL_law 803 = .ok (.if_icmp .eq 41, 3) := by decide +kernel
theorem dL_law_806 : decode cL_law 806 = .ok (.iconst 0, 1) := by decide +kernel
theorem dL_law_807 : decode cL_law 807 = .ok (.ireturn, 1) := by decide +kernel
theorem dL_law_808 : decode cL_law 808 = .ok (.aload_n 1, 1) := by decide +kernel
theorem dL_law_809 : decode cL_law 809 = .ok (.aload_n 0, 1) := by decide +kernel
theorem dL_law_810 : decode cL_law 810 = .ok (.iload_n 3, 1) := by decide +kernel
theorem dL_law_811 : decode cL_law 811 = .ok (.iconst 1, 1) := by decide +kernel
theorem dL_law_812 : decode cL_law 812 = .ok (.iadd, 1) := by decide +kernel
theorem dL_law_813 : decode cL_law 813 = .ok (.iaload, 1) := by decide +kernel
theorem dL_law_814 : decode cL_law 814 = .ok (.invokevirtual 121, 3) := by decide +kernel
theorem dL_law_817 : decode cL_law 817 = .ok (.pop, 1) := by decide +kernel
theorem dL_law_818 : decode cL_law 818 = .ok (.aload_n 2, 1) := by decide +kernel
theorem dL_law_819 : decode cL_law 819 = .ok (.aload_n 0, 1) := by decide +kernel
theorem dL_law_820 : decode cL_law 820 = .ok (.iload_n 3, 1) := by decide +kernel
theorem dL_law_821 : decode cL_law 821 = .ok (.iconst 1, 1) := by decide +kernel
theorem dL_law_822 : decode cL_law 822 = .ok (.iadd, 1) := by decide +kernel
theorem dL_law_823 : decode cL_law 823 = .ok (.iaload, 1) := by decide +kernel
theorem dL_law_824 : decode cL_law 824 = .ok (.invokevirtual 124, 3) := by decide +kernel
theorem dL_law_827 : decode cL_law 827 = .ok (.pop, 1) := by decide +kernel
theorem dL_law_828 : decode cL_law 828 = .ok (.goto 16, 3) := by decide +kernel
theorem dL_law_831 : decode cL_law 831 = .ok (.aload_n 1, 1) := by decide +kernel
theorem dL_law_832 : decode cL_law 832 = .ok (.invokevirtual 125, 3) := by decide +kernel
theorem dL_law_835 : decode cL_law 835 = .ok (.pop2, 1) := by decide +kernel
theorem dL_law_836 : decode cL_law 836 = .ok (.aload_n 2, 1) := by decide +kernel
theorem dL_law_837 : decode cL_law 837 = .ok (.invokevirtual 129, 3) := by decide +kernel
theorem dL_law_840 : decode cL_law 840 = .ok (.pop2, 1) := by decide +kernel
theorem dL_law_841 : decode cL_law 841 = .ok (.goto 3, 3) := by decide +kernel
theorem dL_law_844 : decode cL_law 844 = .ok (.iinc 3 4, 3) := by decide +kernel
theorem dL_law_847 : decode cL_law 847 = .ok (.goto (-829), 3) := by decide +kernel
theorem dL_law_850 : decode cL_law 850 = .ok (.iconst 1, 1) := by decide +kernel
theorem dL_law_851 : decode cL_law 851 = .ok (.ireturn, 1) := by decide +kernel
abbrev kwL_law (cI cZ cG : ClassId) (qx qx_page qx_ground qx_now qx_kept qx_ahead qx_trade qx_plan qx_guess qx_page_letters qx_ground_worth qx_ground_liked qx_now_town qx_now_had qx_now_wishes qx_now_seen qx_now_town_kindOf qx_now_town_plotOf qx_now_town_row qx_now_town_standsOn qx_now_wishes_house qx_now_wishes_plot qx_now_wishes_night qx_now_seen_house qx_now_seen_plot qx_now_seen_night qx_kept_town qx_kept_had qx_kept_wishes qx_kept_seen qx_kept_town_kindOf qx_kept_town_plotOf qx_kept_town_row qx_kept_town_standsOn qx_kept_wishes_house qx_kept_wishes_plot qx_kept_wishes_night qx_kept_seen_house qx_kept_seen_plot qx_kept_seen_night qx_ahead_kindOf qx_ahead_plotOf qx_ahead_row qx_ahead_standsOn qx_trade_gets qx_trade_pointsTo qx_trade_isLeft qx_plan_best qx_plan_trial qx_plan_town qx_plan_town_kindOf qx_plan_town_plotOf qx_plan_town_row qx_plan_town_standsOn qx_guess_track qx_guess_town qx_guess_track_0 qx_guess_track_1 qx_guess_track_2 qx_guess_track_3 qx_guess_track_4 qx_guess_town_kindOf qx_guess_town_plotOf qx_guess_town_row qx_guess_town_standsOn qm qm_page qm_worths qm_kinds qm_likes qm_had qm_plots qm_row qm_plotsThen qm_rowThen qm_traded qm_points qm_ringLong qm_wishes qm_order qm_bestOrder qm_sights qm_ways qm_keptKinds qm_keptPlots qm_keptRow qm_keptHad qm_keptWishes qm_keptSights : Nat) (wx_isKept : Int32) (wx_squaresRead : Int32) (wx_ordersDone : Int32) (wx_page_size : Int32) (wx_page_letters : (Nat → Int32)) (wx_ground_houses : Int32) (wx_ground_worth : (Nat → Int32)) (wx_ground_liked : (Nat → Int32)) (wx_now_nights : Int32) (wx_now_town_houses : Int32) (wx_now_town_front : Int32) (wx_now_town_downFor : Int32) (wx_now_town_kindOf : (Nat → Int32)) (wx_now_town_plotOf : (Nat → Int32)) (wx_now_town_row : (Nat → Int32)) (wx_now_town_standsOn : (Nat → Int32)) (wx_now_had : (Nat → Int32)) (wx_now_wishes_size : Int32) (wx_now_wishes_house : (Nat → Int32)) (wx_now_wishes_plot : (Nat → Int32)) (wx_now_wishes_night : (Nat → Int32)) (wx_now_seen_size : Int32) (wx_now_seen_house : (Nat → Int32)) (wx_now_seen_plot : (Nat → Int32)) (wx_now_seen_night : (Nat → Int32)) (wx_kept_nights : Int32) (wx_kept_town_houses : Int32) (wx_kept_town_front : Int32) (wx_kept_town_downFor : Int32) (wx_kept_town_kindOf : (Nat → Int32)) (wx_kept_town_plotOf : (Nat → Int32)) (wx_kept_town_row : (Nat → Int32)) (wx_kept_town_standsOn : (Nat → Int32)) (wx_kept_had : (Nat → Int32)) (wx_kept_wishes_size : Int32) (wx_kept_wishes_house : (Nat → Int32)) (wx_kept_wishes_plot : (Nat → Int32)) (wx_kept_wishes_night : (Nat → Int32)) (wx_kept_seen_size : Int32) (wx_kept_seen_house : (Nat → Int32)) (wx_kept_seen_plot : (Nat → Int32)) (wx_kept_seen_night : (Nat → Int32)) (wx_ahead_houses : Int32) (wx_ahead_front : Int32) (wx_ahead_downFor : Int32) (wx_ahead_kindOf : (Nat → Int32)) (wx_ahead_plotOf : (Nat → Int32)) (wx_ahead_row : (Nat → Int32)) (wx_ahead_standsOn : (Nat → Int32)) (wx_trade_rings : Int32) (wx_trade_gets : (Nat → Int32)) (wx_trade_pointsTo : (Nat → Int32)) (wx_trade_isLeft : (Nat → Int32)) (wx_plan_most : Int32) (wx_plan_best : (Nat → Int32)) (wx_plan_trial : (Nat → Int32)) (wx_plan_town_houses : Int32) (wx_plan_town_front : Int32) (wx_plan_town_downFor : Int32) (wx_plan_town_kindOf : (Nat → Int32)) (wx_plan_town_plotOf : (Nat → Int32)) (wx_plan_town_row : (Nat → Int32)) (wx_plan_town_standsOn : (Nat → Int32)) (wx_guess_track_0 : (Nat → Int32)) (wx_guess_track_1 : (Nat → Int32)) (wx_guess_track_2 : (Nat → Int32)) (wx_guess_track_3 : (Nat → Int32)) (wx_guess_track_4 : (Nat → Int32)) (wx_guess_town_houses : Int32) (wx_guess_town_front : Int32) (wx_guess_town_downFor : Int32) (wx_guess_town_kindOf : (Nat → Int32)) (wx_guess_town_plotOf : (Nat → Int32)) (wx_guess_town_row : (Nat → Int32)) (wx_guess_town_standsOn : (Nat → Int32)) (wm_pageMany : Int32) (wm_houses : Int32) (wm_nights : Int32) (wm_squaresRead : Int32) (wm_front : Int32) (wm_down : Int32) (wm_frontThen : Int32) (wm_downThen : Int32) (wm_ringsMany : Int32) (wm_wishesMany : Int32) (wm_ordersDone : Int32) (wm_seenMany : Int32) (wm_seedNow : Int32) (wm_keptSquare : Int32) (wm_keptFront : Int32) (wm_keptDown : Int32) (wm_keptNights : Int32) (wm_keptWishesMany : Int32) (wm_keptSeen : Int32) (wm_hash : Int64) (wm_page : (Nat → Int32)) (wm_worths : (Nat → Int32)) (wm_kinds : (Nat → Int32)) (wm_likes : (Nat → Int32)) (wm_had : (Nat → Int32)) (wm_plots : (Nat → Int32)) (wm_row : (Nat → Int32)) (wm_plotsThen : (Nat → Int32)) (wm_rowThen : (Nat → Int32)) (wm_traded : (Nat → Int32)) (wm_points : (Nat → Int32)) (wm_ringLong : (Nat → Int32)) (wm_wishes : (Nat → Int32)) (wm_order : (Nat → Int32)) (wm_bestOrder : (Nat → Int32)) (wm_sights : (Nat → Int32)) (wm_ways : (Nat → Int32)) (wm_keptKinds : (Nat → Int32)) (wm_keptPlots : (Nat → Int32)) (wm_keptRow : (Nat → Int32)) (wm_keptHad : (Nat → Int32)) (wm_keptWishes : (Nat → Int32)) (wm_keptSights : (Nat → Int32)) : va_W := [(qx, .inr (8, [.ref qx_page, .ref qx_ground, .ref qx_now, .ref qx_kept, .ref qx_ahead, .ref qx_trade, .ref qx_plan, .ref qx_guess, .int wx_isKept, .int wx_squaresRead, .int wx_ordersDone])), (qx_page, .inr (3, [.ref qx_page_letters, .int wx_page_size])), (qx_page_letters, .inl (cI, 32, .inl wx_page_letters)), (qx_ground, .inr (0, [.ref qx_ground_worth, .ref qx_ground_liked, .int wx_ground_houses])), (qx_ground_worth, .inl (cI, 12, .inl wx_ground_worth)), (qx_ground_liked, .inl (cI, 6, .inl wx_ground_liked)), (qx_now, .inr (5, [.ref qx_now_town, .ref qx_now_had, .ref qx_now_wishes, .ref qx_now_seen, .int wx_now_nights])), (qx_now_town, .inr (6, [.ref qx_now_town_kindOf, .ref qx_now_town_plotOf, .ref qx_now_town_row, .ref qx_now_town_standsOn, .int wx_now_town_houses, .int wx_now_town_front, .int wx_now_town_downFor])), (qx_now_town_kindOf, .inl (cI, 6, .inl wx_now_town_kindOf)), (qx_now_town_plotOf, .inl (cI, 6, .inl wx_now_town_plotOf)), (qx_now_town_row, .inl (cI, 6, .inl wx_now_town_row)), (qx_now_town_standsOn, .inl (cI, 12, .inl wx_now_town_standsOn)), (qx_now_had, .inl (cI, 6, .inl wx_now_had)), (qx_now_wishes, .inr (2, [.ref qx_now_wishes_house, .ref qx_now_wishes_plot, .ref qx_now_wishes_night, .int wx_now_wishes_size])), (qx_now_wishes_house, .inl (cI, 5, .inl wx_now_wishes_house)), (qx_now_wishes_plot, .inl (cI, 5, .inl wx_now_wishes_plot)), (qx_now_wishes_night, .inl (cI, 5, .inl wx_now_wishes_night)), (qx_now_seen, .inr (2, [.ref qx_now_seen_house, .ref qx_now_seen_plot, .ref qx_now_seen_night, .int wx_now_seen_size])), (qx_now_seen_house, .inl (cI, 6, .inl wx_now_seen_house)), (qx_now_seen_plot, .inl (cI, 6, .inl wx_now_seen_plot)), (qx_now_seen_night, .inl (cI, 6, .inl wx_now_seen_night)), (qx_kept, .inr (5, [.ref qx_kept_town, .ref qx_kept_had, .ref qx_kept_wishes, .ref qx_kept_seen, .int wx_kept_nights])), (qx_kept_town, .inr (6, [.ref qx_kept_town_kindOf, .ref qx_kept_town_plotOf, .ref qx_kept_town_row, .ref qx_kept_town_standsOn, .int wx_kept_town_houses, .int wx_kept_town_front, .int wx_kept_town_downFor])), (qx_kept_town_kindOf, .inl (cI, 6, .inl wx_kept_town_kindOf)), (qx_kept_town_plotOf, .inl (cI, 6, .inl wx_kept_town_plotOf)), (qx_kept_town_row, .inl (cI, 6, .inl wx_kept_town_row)), (qx_kept_town_standsOn, .inl (cI, 12, .inl wx_kept_town_standsOn)), (qx_kept_had, .inl (cI, 6, .inl wx_kept_had)), (qx_kept_wishes, .inr (2, [.ref qx_kept_wishes_house, .ref qx_kept_wishes_plot, .ref qx_kept_wishes_night, .int wx_kept_wishes_size])), (qx_kept_wishes_house, .inl (cI, 5, .inl wx_kept_wishes_house)), (qx_kept_wishes_plot, .inl (cI, 5, .inl wx_kept_wishes_plot)), (qx_kept_wishes_night, .inl (cI, 5, .inl wx_kept_wishes_night)), (qx_kept_seen, .inr (2, [.ref qx_kept_seen_house, .ref qx_kept_seen_plot, .ref qx_kept_seen_night, .int wx_kept_seen_size])), (qx_kept_seen_house, .inl (cI, 6, .inl wx_kept_seen_house)), (qx_kept_seen_plot, .inl (cI, 6, .inl wx_kept_seen_plot)), (qx_kept_seen_night, .inl (cI, 6, .inl wx_kept_seen_night)), (qx_ahead, .inr (6, [.ref qx_ahead_kindOf, .ref qx_ahead_plotOf, .ref qx_ahead_row, .ref qx_ahead_standsOn, .int wx_ahead_houses, .int wx_ahead_front, .int wx_ahead_downFor])), (qx_ahead_kindOf, .inl (cI, 6, .inl wx_ahead_kindOf)), (qx_ahead_plotOf, .inl (cI, 6, .inl wx_ahead_plotOf)), (qx_ahead_row, .inl (cI, 6, .inl wx_ahead_row)), (qx_ahead_standsOn, .inl (cI, 12, .inl wx_ahead_standsOn)), (qx_trade, .inr (7, [.ref qx_trade_gets, .ref qx_trade_pointsTo, .ref qx_trade_isLeft, .int wx_trade_rings])), (qx_trade_gets, .inl (cI, 6, .inl wx_trade_gets)), (qx_trade_pointsTo, .inl (cI, 6, .inl wx_trade_pointsTo)), (qx_trade_isLeft, .inl (cZ, 6, .inl wx_trade_isLeft)), (qx_plan, .inr (4, [.ref qx_plan_best, .ref qx_plan_trial, .ref qx_plan_town, .int wx_plan_most])), (qx_plan_best, .inl (cI, 6, .inl wx_plan_best)), (qx_plan_trial, .inl (cI, 6, .inl wx_plan_trial)), (qx_plan_town, .inr (6, [.ref qx_plan_town_kindOf, .ref qx_plan_town_plotOf, .ref qx_plan_town_row, .ref qx_plan_town_standsOn, .int wx_plan_town_houses, .int wx_plan_town_front, .int wx_plan_town_downFor])), (qx_plan_town_kindOf, .inl (cI, 6, .inl wx_plan_town_kindOf)), (qx_plan_town_plotOf, .inl (cI, 6, .inl wx_plan_town_plotOf)), (qx_plan_town_row, .inl (cI, 6, .inl wx_plan_town_row)), (qx_plan_town_standsOn, .inl (cI, 12, .inl wx_plan_town_standsOn)), (qx_guess, .inr (1, [.ref qx_guess_track, .ref qx_guess_town])), (qx_guess_track, .inl (cG, 5, .inr (.inr (.inr (.inr (fun i => if i = 0 then some qx_guess_track_0 else if i = 1 then some qx_guess_track_1 else if i = 2 then some qx_guess_track_2 else if i = 3 then some qx_guess_track_3 else if i = 4 then some qx_guess_track_4 else none)))))), (qx_guess_track_0, .inl (cI, 41, .inl wx_guess_track_0)), (qx_guess_track_1, .inl (cI, 41, .inl wx_guess_track_1)), (qx_guess_track_2, .inl (cI, 41, .inl wx_guess_track_2)), (qx_guess_track_3, .inl (cI, 41, .inl wx_guess_track_3)), (qx_guess_track_4, .inl (cI, 41, .inl wx_guess_track_4)), (qx_guess_town, .inr (6, [.ref qx_guess_town_kindOf, .ref qx_guess_town_plotOf, .ref qx_guess_town_row, .ref qx_guess_town_standsOn, .int wx_guess_town_houses, .int wx_guess_town_front, .int wx_guess_town_downFor])), (qx_guess_town_kindOf, .inl (cI, 6, .inl wx_guess_town_kindOf)), (qx_guess_town_plotOf, .inl (cI, 6, .inl wx_guess_town_plotOf)), (qx_guess_town_row, .inl (cI, 6, .inl wx_guess_town_row)), (qx_guess_town_standsOn, .inl (cI, 12, .inl wx_guess_town_standsOn)), (qm, .inr (9, [.ref qm_page, .int wm_pageMany, .int wm_houses, .int wm_nights, .int wm_squaresRead, .ref qm_worths, .ref qm_kinds, .ref qm_likes, .ref qm_had, .ref qm_plots, .ref qm_row, .int wm_front, .int wm_down, .ref qm_plotsThen, .ref qm_rowThen, .int wm_frontThen, .int wm_downThen, .ref qm_traded, .ref qm_points, .int wm_ringsMany, .ref qm_ringLong, .int wm_wishesMany, .ref qm_wishes, .int wm_ordersDone, .ref qm_order, .ref qm_bestOrder, .int wm_seenMany, .ref qm_sights, .ref qm_ways, .int wm_seedNow, .int wm_keptSquare, .int wm_keptFront, .int wm_keptDown, .int wm_keptNights, .int wm_keptWishesMany, .int wm_keptSeen, .ref qm_keptKinds, .ref qm_keptPlots, .ref qm_keptRow, .ref qm_keptHad, .ref qm_keptWishes, .ref qm_keptSights, .long wm_hash])), (qm_page, .inl (cI, 32, .inl wm_page)), (qm_worths, .inl (cI, 12, .inl wm_worths)), (qm_kinds, .inl (cI, 6, .inl wm_kinds)), (qm_likes, .inl (cI, 6, .inl wm_likes)), (qm_had, .inl (cI, 6, .inl wm_had)), (qm_plots, .inl (cI, 6, .inl wm_plots)), (qm_row, .inl (cI, 6, .inl wm_row)), (qm_plotsThen, .inl (cI, 6, .inl wm_plotsThen)), (qm_rowThen, .inl (cI, 6, .inl wm_rowThen)), (qm_traded, .inl (cI, 6, .inl wm_traded)), (qm_points, .inl (cI, 6, .inl wm_points)), (qm_ringLong, .inl (cI, 6, .inl wm_ringLong)), (qm_wishes, .inl (cI, 15, .inl wm_wishes)), (qm_order, .inl (cI, 6, .inl wm_order)), (qm_bestOrder, .inl (cI, 6, .inl wm_bestOrder)), (qm_sights, .inl (cI, 18, .inl wm_sights)), (qm_ways, .inl (cI, 200, .inl wm_ways)), (qm_keptKinds, .inl (cI, 6, .inl wm_keptKinds)), (qm_keptPlots, .inl (cI, 6, .inl wm_keptPlots)), (qm_keptRow, .inl (cI, 6, .inl wm_keptRow)), (qm_keptHad, .inl (cI, 6, .inl wm_keptHad)), (qm_keptWishes, .inl (cI, 15, .inl wm_keptWishes)), (qm_keptSights, .inl (cI, 18, .inl wm_keptSights))]
noncomputable def fL_law_160 (N : Nat) (L : Nat) (xs : Nat → Int32) (K_18 : Int32 → (Nat → Int32) → (Nat → Nat → Int32) → Int64 → Option Int32) (l3 : Int32) (σ : Nat → Int32) (α : Nat → Nat → Int32) (hh : Int64) : Option Int32 := if (l3 + (1 : Int32)) < 0 ∨ L ≤ ((l3 + (1 : Int32))).toNatClampNeg then none else ((fX8_letter N (xs ((l3 + (1 : Int32))).toNatClampNeg) (σ 3) (α 0)).bind (fun x_166 => if (l3 + (1 : Int32)) < 0 ∨ L ≤ ((l3 + (1 : Int32))).toNatClampNeg then none else ((fX9_letter N (xs ((l3 + (1 : Int32))).toNatClampNeg) (σ 28) (α 47)).bind (fun x_176 => K_18 (l3 + (4 : Int32)) (va_up (va_up σ 3 x_166.2.1) 28 x_176.2.1) (va_up (va_up α 0 x_166.2.2) 47 x_176.2.2) hh))))
noncomputable def fL_law_183 (N : Nat) (L : Nat) (xs : Nat → Int32) (K_18 : Int32 → (Nat → Int32) → (Nat → Nat → Int32) → Int64 → Option Int32) (l3 : Int32) (σ : Nat → Int32) (α : Nat → Nat → Int32) (hh : Int64) : Option Int32 := (fX8_blank N (σ 3)).bind (fun x_184 => (fX9_blank N (σ 28)).bind (fun x_189 => K_18 (l3 + (4 : Int32)) (va_up (va_up σ 3 x_184.2) 28 x_189.2) α hh))
noncomputable def fL_law_196 (N : Nat) (L : Nat) (xs : Nat → Int32) (K_18 : Int32 → (Nat → Int32) → (Nat → Nat → Int32) → Int64 → Option Int32) (l3 : Int32) (σ : Nat → Int32) (α : Nat → Nat → Int32) (hh : Int64) : Option Int32 := (fX8_fault N (σ 3) (α 0)).bind (fun x_197 => (fX9_fault N (σ 28) (α 47)).bind (fun x_202 => K_18 (l3 + (4 : Int32)) σ α hh))
noncomputable def fL_law_209 (N : Nat) (L : Nat) (xs : Nat → Int32) (K_18 : Int32 → (Nat → Int32) → (Nat → Nat → Int32) → Int64 → Option Int32) (l3 : Int32) (σ : Nat → Int32) (α : Nat → Nat → Int32) (hh : Int64) : Option Int32 := (fX8_square N (α 0) (σ 0) (σ 1) (σ 3) (σ 4) (α 1) (α 2) (σ 5) (α 7) (σ 6) (σ 7) (σ 8) (α 3) (α 6) (α 5) (α 4) (σ 9) (σ 10)).bind (fun x_210 => (fX9_square N (α 47) (σ 28) (σ 29) (σ 30) (σ 31) (σ 32) (σ 33) (σ 37) (σ 39) (α 48) (α 49) (α 50) (α 51) (α 52) (α 53)).bind (fun x_215 => K_18 (l3 + (4 : Int32)) (va_up (va_up (va_up (va_up (va_up (va_up (va_up (va_up (va_up (va_up (va_up (va_up (va_up (va_up (va_up (va_up (va_up (va_up σ 0 x_210.2.1) 1 x_210.2.2.1) 3 x_210.2.2.2.1) 4 x_210.2.2.2.2.1) 5 x_210.2.2.2.2.2.2.2.1) 6 x_210.2.2.2.2.2.2.2.2.2.1) 7 x_210.2.2.2.2.2.2.2.2.2.2.1) 8 x_210.2.2.2.2.2.2.2.2.2.2.2.1) 9 x_210.2.2.2.2.2.2.2.2.2.2.2.2.2.2.2.2.1) 10 x_210.2.2.2.2.2.2.2.2.2.2.2.2.2.2.2.2.2) 28 x_215.2.1) 29 x_215.2.2.1) 30 x_215.2.2.2.1) 31 x_215.2.2.2.2.1) 32 x_215.2.2.2.2.2.1) 33 x_215.2.2.2.2.2.2.1) 37 x_215.2.2.2.2.2.2.2.1) 39 x_215.2.2.2.2.2.2.2.2.1) (va_up (va_up (va_up (va_up (va_up (va_up (va_up (va_up (va_up (va_up (va_up (va_up (va_up α 1 x_210.2.2.2.2.2.1) 2 x_210.2.2.2.2.2.2.1) 3 x_210.2.2.2.2.2.2.2.2.2.2.2.2.1) 4 x_210.2.2.2.2.2.2.2.2.2.2.2.2.2.2.2.1) 5 x_210.2.2.2.2.2.2.2.2.2.2.2.2.2.2.1) 6 x_210.2.2.2.2.2.2.2.2.2.2.2.2.2.1) 7 x_210.2.2.2.2.2.2.2.2.1) 48 x_215.2.2.2.2.2.2.2.2.2.1) 49 x_215.2.2.2.2.2.2.2.2.2.2.1) 50 x_215.2.2.2.2.2.2.2.2.2.2.2.1) 51 x_215.2.2.2.2.2.2.2.2.2.2.2.2.1) 52 x_215.2.2.2.2.2.2.2.2.2.2.2.2.2.1) 53 x_215.2.2.2.2.2.2.2.2.2.2.2.2.2.2) hh))
noncomputable def fL_law_222 (N : Nat) (L : Nat) (xs : Nat → Int32) (K_18 : Int32 → (Nat → Int32) → (Nat → Nat → Int32) → Int64 → Option Int32) (l3 : Int32) (σ : Nat → Int32) (α : Nat → Nat → Int32) (hh : Int64) : Option Int32 := if (l3 + (1 : Int32)) < 0 ∨ L ≤ ((l3 + (1 : Int32))).toNatClampNeg then none else (if (l3 + (2 : Int32)) < 0 ∨ L ≤ ((l3 + (2 : Int32))).toNatClampNeg then none else ((fX8_house N (σ 4) (σ 6) (σ 7) (σ 8) (α 4) (α 2) (α 6) (α 3) (α 5) (σ 10) (α 11) (α 13) (α 12) (α 7) (xs ((l3 + (1 : Int32))).toNatClampNeg) (xs ((l3 + (2 : Int32))).toNatClampNeg) (σ 20) (α 29) (α 31) (α 30) (σ 25) (σ 26) (σ 27) (α 43) (α 44) (α 45) (α 46) (α 38) (α 39) (α 40) (α 41) (α 42)).bind (fun x_233 => if (l3 + (1 : Int32)) < 0 ∨ L ≤ ((l3 + (1 : Int32))).toNatClampNeg then none else (if (l3 + (2 : Int32)) < 0 ∨ L ≤ ((l3 + (2 : Int32))).toNatClampNeg then none else ((fX9_house N (σ 29) (σ 32) (σ 33) (σ 39) (α 52) (α 50) (α 53) (α 62) (α 51) (xs ((l3 + (1 : Int32))).toNatClampNeg) (xs ((l3 + (2 : Int32))).toNatClampNeg) (σ 34) (σ 35) (σ 36) (α 56) (α 57) (α 58) (α 49) (α 54) (α 55) (α 63)).bind (fun x_248 => K_18 (l3 + (4 : Int32)) (va_up (va_up (va_up (va_up (va_up (va_up (va_up σ 20 x_233.2.1) 25 x_233.2.2.2.2.2.1) 26 x_233.2.2.2.2.2.2.1) 27 x_233.2.2.2.2.2.2.2.1) 34 x_248.2.1) 35 x_248.2.2.1) 36 x_248.2.2.2.1) (va_up (va_up (va_up (va_up (va_up (va_up (va_up (va_up (va_up (va_up (va_up (va_up (va_up (va_up (va_up (va_up (va_up (va_up (va_up α 29 x_233.2.2.1) 30 x_233.2.2.2.2.1) 31 x_233.2.2.2.1) 38 x_233.2.2.2.2.2.2.2.2.2.2.2.2.1) 39 x_233.2.2.2.2.2.2.2.2.2.2.2.2.2.1) 40 x_233.2.2.2.2.2.2.2.2.2.2.2.2.2.2.1) 41 x_233.2.2.2.2.2.2.2.2.2.2.2.2.2.2.2.1) 42 x_233.2.2.2.2.2.2.2.2.2.2.2.2.2.2.2.2) 43 x_233.2.2.2.2.2.2.2.2.1) 44 x_233.2.2.2.2.2.2.2.2.2.1) 45 x_233.2.2.2.2.2.2.2.2.2.2.1) 46 x_233.2.2.2.2.2.2.2.2.2.2.2.1) 49 x_248.2.2.2.2.2.2.2.1) 54 x_248.2.2.2.2.2.2.2.2.1) 55 x_248.2.2.2.2.2.2.2.2.2.1) 56 x_248.2.2.2.2.1) 57 x_248.2.2.2.2.2.1) 58 x_248.2.2.2.2.2.2.1) 63 x_248.2.2.2.2.2.2.2.2.2.2) hh))))))
noncomputable def fL_law_255 (N : Nat) (L : Nat) (xs : Nat → Int32) (K_18 : Int32 → (Nat → Int32) → (Nat → Nat → Int32) → Int64 → Option Int32) (l3 : Int32) (σ : Nat → Int32) (α : Nat → Nat → Int32) (hh : Int64) : Option Int32 := if (l3 + (1 : Int32)) < 0 ∨ L ≤ ((l3 + (1 : Int32))).toNatClampNeg then none else (if (l3 + (2 : Int32)) < 0 ∨ L ≤ ((l3 + (2 : Int32))).toNatClampNeg then none else ((fX8_as N (σ 4) (α 3) (xs ((l3 + (1 : Int32))).toNatClampNeg) (xs ((l3 + (2 : Int32))).toNatClampNeg)).bind (fun x_266 => if (l3 + (1 : Int32)) < 0 ∨ L ≤ ((l3 + (1 : Int32))).toNatClampNeg then none else (if (l3 + (2 : Int32)) < 0 ∨ L ≤ ((l3 + (2 : Int32))).toNatClampNeg then none else ((fX9_as N (σ 29) (α 49) (xs ((l3 + (1 : Int32))).toNatClampNeg) (xs ((l3 + (2 : Int32))).toNatClampNeg)).bind (fun x_281 => K_18 (l3 + (4 : Int32)) σ α hh))))))
noncomputable def fL_law_288 (N : Nat) (L : Nat) (xs : Nat → Int32) (K_18 : Int32 → (Nat → Int32) → (Nat → Nat → Int32) → Int64 → Option Int32) (l3 : Int32) (σ : Nat → Int32) (α : Nat → Nat → Int32) (hh : Int64) : Option Int32 := if (l3 + (1 : Int32)) < 0 ∨ L ≤ ((l3 + (1 : Int32))).toNatClampNeg then none else (if (l3 + (2 : Int32)) < 0 ∨ L ≤ ((l3 + (2 : Int32))).toNatClampNeg then none else ((fX8_plot N (σ 4) (α 2) (α 6) (α 1) (xs ((l3 + (1 : Int32))).toNatClampNeg) (xs ((l3 + (2 : Int32))).toNatClampNeg)).bind (fun x_299 => if (l3 + (1 : Int32)) < 0 ∨ L ≤ ((l3 + (1 : Int32))).toNatClampNeg then none else (if (l3 + (2 : Int32)) < 0 ∨ L ≤ ((l3 + (2 : Int32))).toNatClampNeg then none else ((fX9_plot N (σ 29) (α 50) (α 52) (α 48) (xs ((l3 + (1 : Int32))).toNatClampNeg) (xs ((l3 + (2 : Int32))).toNatClampNeg)).bind (fun x_314 => K_18 (l3 + (4 : Int32)) σ α hh))))))
noncomputable def fL_law_321 (N : Nat) (L : Nat) (xs : Nat → Int32) (K_18 : Int32 → (Nat → Int32) → (Nat → Nat → Int32) → Int64 → Option Int32) (l3 : Int32) (σ : Nat → Int32) (α : Nat → Nat → Int32) (hh : Int64) : Option Int32 := (fX8_night N (σ 4) (σ 6) (α 3) (α 1) (σ 5) (σ 7) (σ 8) (α 5) (α 4) (α 6) (α 7)).bind (fun x_322 => (fX9_night N (σ 29) (α 49) (α 48) (σ 30) (σ 32) (σ 33) (σ 34) (σ 35) (α 52) (α 54) (α 53) (α 55) (α 51)).bind (fun x_327 => K_18 (l3 + (4 : Int32)) (va_up (va_up (va_up (va_up (va_up (va_up (va_up (va_up σ 5 x_322.2.1) 7 x_322.2.2.1) 8 x_322.2.2.2.1) 30 x_327.2.1) 32 x_327.2.2.1) 33 x_327.2.2.2.1) 34 x_327.2.2.2.2.1) 35 x_327.2.2.2.2.2.1) (va_up (va_up (va_up (va_up (va_up (va_up (va_up (va_up (va_up α 4 x_322.2.2.2.2.2.1) 5 x_322.2.2.2.2.1) 6 x_322.2.2.2.2.2.2.1) 7 x_322.2.2.2.2.2.2.2) 51 x_327.2.2.2.2.2.2.2.2.2.2) 52 x_327.2.2.2.2.2.2.1) 53 x_327.2.2.2.2.2.2.2.2.1) 54 x_327.2.2.2.2.2.2.2.1) 55 x_327.2.2.2.2.2.2.2.2.2.1) hh))
noncomputable def fL_law_334 (N : Nat) (L : Nat) (xs : Nat → Int32) (K_18 : Int32 → (Nat → Int32) → (Nat → Nat → Int32) → Int64 → Option Int32) (l3 : Int32) (σ : Nat → Int32) (α : Nat → Nat → Int32) (hh : Int64) : Option Int32 := (fX8_snow N (σ 4) (σ 6) (α 4) (α 1) (σ 5) (α 7)).bind (fun x_335 => (fX9_snow N (σ 29) (α 52) (α 48) (σ 30) (α 51)).bind (fun x_340 => K_18 (l3 + (4 : Int32)) (va_up (va_up σ 5 x_335.2.1) 30 x_340.2.1) (va_up (va_up α 7 x_335.2.2) 51 x_340.2.2) hh))
noncomputable def fL_law_347 (N : Nat) (L : Nat) (xs : Nat → Int32) (K_18 : Int32 → (Nat → Int32) → (Nat → Nat → Int32) → Int64 → Option Int32) (l3 : Int32) (σ : Nat → Int32) (α : Nat → Nat → Int32) (hh : Int64) : Option Int32 := if (l3 + (1 : Int32)) < 0 ∨ L ≤ ((l3 + (1 : Int32))).toNatClampNeg then none else (if (l3 + (2 : Int32)) < 0 ∨ L ≤ ((l3 + (2 : Int32))).toNatClampNeg then none else ((fX8_build N (σ 4) (α 4) (xs ((l3 + (1 : Int32))).toNatClampNeg) (xs ((l3 + (2 : Int32))).toNatClampNeg) (α 3)).bind (fun x_358 => if (l3 + (1 : Int32)) < 0 ∨ L ≤ ((l3 + (1 : Int32))).toNatClampNeg then none else (if (l3 + (2 : Int32)) < 0 ∨ L ≤ ((l3 + (2 : Int32))).toNatClampNeg then none else ((fX9_build N (σ 29) (α 52) (xs ((l3 + (1 : Int32))).toNatClampNeg) (xs ((l3 + (2 : Int32))).toNatClampNeg) (α 49)).bind (fun x_373 => K_18 (l3 + (4 : Int32)) σ (va_up (va_up α 3 x_358.2) 49 x_373.2) hh))))))
noncomputable def fL_law_380 (N : Nat) (L : Nat) (xs : Nat → Int32) (K_18 : Int32 → (Nat → Int32) → (Nat → Nat → Int32) → Int64 → Option Int32) (l3 : Int32) (σ : Nat → Int32) (α : Nat → Nat → Int32) (hh : Int64) : Option Int32 := if (l3 + (1 : Int32)) < 0 ∨ L ≤ ((l3 + (1 : Int32))).toNatClampNeg then none else (if (l3 + (2 : Int32)) < 0 ∨ L ≤ ((l3 + (2 : Int32))).toNatClampNeg then none else ((fX8_swap N (σ 4) (xs ((l3 + (1 : Int32))).toNatClampNeg) (xs ((l3 + (2 : Int32))).toNatClampNeg) (α 4) (α 6)).bind (fun x_391 => if (l3 + (1 : Int32)) < 0 ∨ L ≤ ((l3 + (1 : Int32))).toNatClampNeg then none else (if (l3 + (2 : Int32)) < 0 ∨ L ≤ ((l3 + (2 : Int32))).toNatClampNeg then none else ((fX9_swap N (σ 29) (xs ((l3 + (1 : Int32))).toNatClampNeg) (xs ((l3 + (2 : Int32))).toNatClampNeg) (α 52)).bind (fun x_406 => K_18 (l3 + (4 : Int32)) σ (va_up (va_up (va_up α 4 x_391.2.1) 6 x_391.2.2) 52 x_406.2) hh))))))
noncomputable def fL_law_413 (N : Nat) (L : Nat) (xs : Nat → Int32) (K_18 : Int32 → (Nat → Int32) → (Nat → Nat → Int32) → Int64 → Option Int32) (l3 : Int32) (σ : Nat → Int32) (α : Nat → Nat → Int32) (hh : Int64) : Option Int32 := if (l3 + (1 : Int32)) < 0 ∨ L ≤ ((l3 + (1 : Int32))).toNatClampNeg then none else (if (l3 + (2 : Int32)) < 0 ∨ L ≤ ((l3 + (2 : Int32))).toNatClampNeg then none else ((fX8_where N (σ 4) (σ 6) (σ 7) (σ 8) (α 3) (α 4) (α 5) (α 6) (xs ((l3 + (1 : Int32))).toNatClampNeg) (xs ((l3 + (2 : Int32))).toNatClampNeg) (σ 17) (σ 18) (σ 19) (α 25) (α 26) (α 27) (α 28)).bind (fun x_424 => if (l3 + (1 : Int32)) < 0 ∨ L ≤ ((l3 + (1 : Int32))).toNatClampNeg then none else (if (l3 + (2 : Int32)) < 0 ∨ L ≤ ((l3 + (2 : Int32))).toNatClampNeg then none else ((fX9_where N (σ 29) (σ 32) (σ 33) (α 52) (α 53) (α 49) (xs ((l3 + (1 : Int32))).toNatClampNeg) (xs ((l3 + (2 : Int32))).toNatClampNeg) (σ 34) (σ 35) (α 54) (α 55)).bind (fun x_439 => K_18 (l3 + (4 : Int32)) (va_up (va_up (va_up (va_up (va_up σ 17 x_424.2.1) 18 x_424.2.2.1) 19 x_424.2.2.2.1) 34 x_439.2.1) 35 x_439.2.2.1) (va_up (va_up (va_up (va_up (va_up (va_up α 25 x_424.2.2.2.2.1) 26 x_424.2.2.2.2.2.1) 27 x_424.2.2.2.2.2.2.1) 28 x_424.2.2.2.2.2.2.2) 54 x_439.2.2.2.1) 55 x_439.2.2.2.2) hh))))))
noncomputable def fL_law_446 (N : Nat) (L : Nat) (xs : Nat → Int32) (K_18 : Int32 → (Nat → Int32) → (Nat → Nat → Int32) → Int64 → Option Int32) (l3 : Int32) (σ : Nat → Int32) (α : Nat → Nat → Int32) (hh : Int64) : Option Int32 := if (l3 + (1 : Int32)) < 0 ∨ L ≤ ((l3 + (1 : Int32))).toNatClampNeg then none else (if (l3 + (2 : Int32)) < 0 ∨ L ≤ ((l3 + (2 : Int32))).toNatClampNeg then none else ((fX8_when N (σ 4) (σ 6) (σ 7) (σ 8) (α 3) (α 4) (α 5) (α 6) (xs ((l3 + (1 : Int32))).toNatClampNeg) (xs ((l3 + (2 : Int32))).toNatClampNeg) (σ 17) (σ 18) (σ 19) (α 25) (α 26) (α 27) (α 28)).bind (fun x_457 => if (l3 + (1 : Int32)) < 0 ∨ L ≤ ((l3 + (1 : Int32))).toNatClampNeg then none else (if (l3 + (2 : Int32)) < 0 ∨ L ≤ ((l3 + (2 : Int32))).toNatClampNeg then none else ((fX9_when N (σ 29) (σ 32) (σ 33) (α 52) (α 53) (α 49) (xs ((l3 + (1 : Int32))).toNatClampNeg) (xs ((l3 + (2 : Int32))).toNatClampNeg) (σ 34) (σ 35) (α 54) (α 55)).bind (fun x_472 => K_18 (l3 + (4 : Int32)) (va_up (va_up (va_up (va_up (va_up σ 17 x_457.2.1) 18 x_457.2.2.1) 19 x_457.2.2.2.1) 34 x_472.2.1) 35 x_472.2.2.1) (va_up (va_up (va_up (va_up (va_up (va_up α 25 x_457.2.2.2.2.1) 26 x_457.2.2.2.2.2.1) 27 x_457.2.2.2.2.2.2.1) 28 x_457.2.2.2.2.2.2.2) 54 x_472.2.2.2.1) 55 x_472.2.2.2.2) hh))))))
noncomputable def fL_law_479 (N : Nat) (L : Nat) (xs : Nat → Int32) (K_18 : Int32 → (Nat → Int32) → (Nat → Nat → Int32) → Int64 → Option Int32) (l3 : Int32) (σ : Nat → Int32) (α : Nat → Nat → Int32) (hh : Int64) : Option Int32 := if (l3 + (1 : Int32)) < 0 ∨ L ≤ ((l3 + (1 : Int32))).toNatClampNeg then none else (if (l3 + (2 : Int32)) < 0 ∨ L ≤ ((l3 + (2 : Int32))).toNatClampNeg then none else ((fX8_neighbours N (σ 4) (σ 6) (σ 7) (σ 8) (α 3) (α 4) (α 5) (α 6) (xs ((l3 + (1 : Int32))).toNatClampNeg) (xs ((l3 + (2 : Int32))).toNatClampNeg) (σ 17) (σ 18) (σ 19) (α 25) (α 26) (α 27) (α 28)).bind (fun x_490 => if (l3 + (1 : Int32)) < 0 ∨ L ≤ ((l3 + (1 : Int32))).toNatClampNeg then none else (if (l3 + (2 : Int32)) < 0 ∨ L ≤ ((l3 + (2 : Int32))).toNatClampNeg then none else ((fX9_neighbours N (σ 29) (σ 32) (σ 33) (α 52) (α 53) (α 49) (xs ((l3 + (1 : Int32))).toNatClampNeg) (xs ((l3 + (2 : Int32))).toNatClampNeg) (σ 34) (σ 35) (α 54) (α 55)).bind (fun x_505 => K_18 (l3 + (4 : Int32)) (va_up (va_up (va_up (va_up (va_up σ 17 x_490.2.1) 18 x_490.2.2.1) 19 x_490.2.2.2.1) 34 x_505.2.1) 35 x_505.2.2.1) (va_up (va_up (va_up (va_up (va_up (va_up α 25 x_490.2.2.2.2.1) 26 x_490.2.2.2.2.2.1) 27 x_490.2.2.2.2.2.2.1) 28 x_490.2.2.2.2.2.2.2) 54 x_505.2.2.2.1) 55 x_505.2.2.2.2) hh))))))
noncomputable def fL_law_512 (N : Nat) (L : Nat) (xs : Nat → Int32) (K_18 : Int32 → (Nat → Int32) → (Nat → Nat → Int32) → Int64 → Option Int32) (l3 : Int32) (σ : Nat → Int32) (α : Nat → Nat → Int32) (hh : Int64) : Option Int32 := (fX8_again N (σ 4) (σ 6) (σ 7) (σ 8) (α 3) (α 4) (α 5) (α 6) (σ 17) (σ 18) (σ 19) (α 25) (α 26) (α 27) (α 28)).bind (fun x_513 => (fX9_again N (σ 29) (σ 32) (σ 33) (α 52) (α 53) (α 49) (σ 34) (σ 35) (α 54) (α 55)).bind (fun x_518 => K_18 (l3 + (4 : Int32)) (va_up (va_up (va_up (va_up (va_up σ 17 x_513.2.1) 18 x_513.2.2.1) 19 x_513.2.2.2.1) 34 x_518.2.1) 35 x_518.2.2.1) (va_up (va_up (va_up (va_up (va_up (va_up α 25 x_513.2.2.2.2.1) 26 x_513.2.2.2.2.2.1) 27 x_513.2.2.2.2.2.2.1) 28 x_513.2.2.2.2.2.2.2) 54 x_518.2.2.2.1) 55 x_518.2.2.2.2) hh))
noncomputable def fL_law_525 (N : Nat) (L : Nat) (xs : Nat → Int32) (K_18 : Int32 → (Nat → Int32) → (Nat → Nat → Int32) → Int64 → Option Int32) (l3 : Int32) (σ : Nat → Int32) (α : Nat → Nat → Int32) (hh : Int64) : Option Int32 := if (l3 + (1 : Int32)) < 0 ∨ L ≤ ((l3 + (1 : Int32))).toNatClampNeg then none else (if (l3 + (2 : Int32)) < 0 ∨ L ≤ ((l3 + (2 : Int32))).toNatClampNeg then none else ((fX8_post N (σ 4) (σ 6) (σ 7) (σ 8) (α 3) (α 4) (α 5) (α 6) (xs ((l3 + (1 : Int32))).toNatClampNeg) (xs ((l3 + (2 : Int32))).toNatClampNeg) (σ 17) (σ 18) (σ 19) (α 25) (α 26) (α 27) (α 28)).bind (fun x_536 => if (l3 + (1 : Int32)) < 0 ∨ L ≤ ((l3 + (1 : Int32))).toNatClampNeg then none else (if (l3 + (2 : Int32)) < 0 ∨ L ≤ ((l3 + (2 : Int32))).toNatClampNeg then none else ((fX9_post N (σ 29) (σ 32) (σ 33) (α 52) (α 53) (α 49) (xs ((l3 + (1 : Int32))).toNatClampNeg) (xs ((l3 + (2 : Int32))).toNatClampNeg) (σ 34) (σ 35) (α 54) (α 55)).bind (fun x_551 => K_18 (l3 + (4 : Int32)) (va_up (va_up (va_up (va_up (va_up σ 17 x_536.2.1) 18 x_536.2.2.1) 19 x_536.2.2.2.1) 34 x_551.2.1) 35 x_551.2.2.1) (va_up (va_up (va_up (va_up (va_up (va_up α 25 x_536.2.2.2.2.1) 26 x_536.2.2.2.2.2.1) 27 x_536.2.2.2.2.2.2.1) 28 x_536.2.2.2.2.2.2.2) 54 x_551.2.2.2.1) 55 x_551.2.2.2.2) hh))))))
noncomputable def fL_law_558 (N : Nat) (L : Nat) (xs : Nat → Int32) (K_18 : Int32 → (Nat → Int32) → (Nat → Nat → Int32) → Int64 → Option Int32) (l3 : Int32) (σ : Nat → Int32) (α : Nat → Nat → Int32) (hh : Int64) : Option Int32 := if (l3 + (1 : Int32)) < 0 ∨ L ≤ ((l3 + (1 : Int32))).toNatClampNeg then none else (if (l3 + (2 : Int32)) < 0 ∨ L ≤ ((l3 + (2 : Int32))).toNatClampNeg then none else ((fX8_will N (σ 4) (σ 6) (σ 7) (σ 8) (α 3) (α 4) (α 5) (α 6) (α 1) (xs ((l3 + (1 : Int32))).toNatClampNeg) (xs ((l3 + (2 : Int32))).toNatClampNeg) (σ 17) (σ 18) (σ 19) (α 25) (α 26) (α 27) (α 28)).bind (fun x_569 => if (l3 + (1 : Int32)) < 0 ∨ L ≤ ((l3 + (1 : Int32))).toNatClampNeg then none else (if (l3 + (2 : Int32)) < 0 ∨ L ≤ ((l3 + (2 : Int32))).toNatClampNeg then none else ((fX9_will N (σ 29) (σ 32) (σ 33) (α 52) (α 53) (α 49) (α 48) (xs ((l3 + (1 : Int32))).toNatClampNeg) (xs ((l3 + (2 : Int32))).toNatClampNeg) (σ 34) (σ 35) (α 54) (α 55)).bind (fun x_584 => K_18 (l3 + (4 : Int32)) (va_up (va_up (va_up (va_up (va_up σ 17 x_569.2.1) 18 x_569.2.2.1) 19 x_569.2.2.2.1) 34 x_584.2.1) 35 x_584.2.2.1) (va_up (va_up (va_up (va_up (va_up (va_up α 25 x_569.2.2.2.2.1) 26 x_569.2.2.2.2.2.1) 27 x_569.2.2.2.2.2.2.1) 28 x_569.2.2.2.2.2.2.2) 54 x_584.2.2.2.1) 55 x_584.2.2.2.2) hh))))))
noncomputable def fL_law_591 (N : Nat) (L : Nat) (xs : Nat → Int32) (K_18 : Int32 → (Nat → Int32) → (Nat → Nat → Int32) → Int64 → Option Int32) (l3 : Int32) (σ : Nat → Int32) (α : Nat → Nat → Int32) (hh : Int64) : Option Int32 := (fX8_rings N (σ 4) (σ 6) (α 4) (α 2) (α 6) (σ 20) (α 29) (α 31) (α 30)).bind (fun x_592 => (fX9_rings N (σ 29) (α 52) (α 50) (σ 36) (α 56) (α 57) (α 58)).bind (fun x_597 => K_18 (l3 + (4 : Int32)) (va_up (va_up σ 20 x_592.2.1) 36 x_597.2.1) (va_up (va_up (va_up (va_up (va_up (va_up α 29 x_592.2.2.1) 30 x_592.2.2.2.2) 31 x_592.2.2.2.1) 56 x_597.2.2.1) 57 x_597.2.2.2.1) 58 x_597.2.2.2.2) hh))
noncomputable def fL_law_604 (N : Nat) (L : Nat) (xs : Nat → Int32) (K_18 : Int32 → (Nat → Int32) → (Nat → Nat → Int32) → Int64 → Option Int32) (l3 : Int32) (σ : Nat → Int32) (α : Nat → Nat → Int32) (hh : Int64) : Option Int32 := if (l3 + (1 : Int32)) < 0 ∨ L ≤ ((l3 + (1 : Int32))).toNatClampNeg then none else (if (l3 + (2 : Int32)) < 0 ∨ L ≤ ((l3 + (2 : Int32))).toNatClampNeg then none else (if (l3 + (3 : Int32)) < 0 ∨ L ≤ ((l3 + (3 : Int32))).toNatClampNeg then none else ((fX8_wish N (σ 4) (xs ((l3 + (1 : Int32))).toNatClampNeg) (xs ((l3 + (2 : Int32))).toNatClampNeg) (xs ((l3 + (3 : Int32))).toNatClampNeg) (σ 9) (α 8) (α 9) (α 10)).bind (fun x_620 => if (l3 + (1 : Int32)) < 0 ∨ L ≤ ((l3 + (1 : Int32))).toNatClampNeg then none else (if (l3 + (2 : Int32)) < 0 ∨ L ≤ ((l3 + (2 : Int32))).toNatClampNeg then none else (if (l3 + (3 : Int32)) < 0 ∨ L ≤ ((l3 + (3 : Int32))).toNatClampNeg then none else ((fX9_wish N (σ 29) (xs ((l3 + (1 : Int32))).toNatClampNeg) (xs ((l3 + (2 : Int32))).toNatClampNeg) (xs ((l3 + (3 : Int32))).toNatClampNeg) (σ 37) (α 59)).bind (fun x_640 => K_18 (l3 + (4 : Int32)) (va_up (va_up σ 9 x_620.2.1) 37 x_640.2.1) (va_up (va_up (va_up (va_up α 8 x_620.2.2.1) 9 x_620.2.2.2.1) 10 x_620.2.2.2.2) 59 x_640.2.2) hh))))))))
noncomputable def fL_law_647 (N : Nat) (L : Nat) (xs : Nat → Int32) (K_18 : Int32 → (Nat → Int32) → (Nat → Nat → Int32) → Int64 → Option Int32) (l3 : Int32) (σ : Nat → Int32) (α : Nat → Nat → Int32) (hh : Int64) : Option Int32 := (fX8_give N (σ 9)).bind (fun x_648 => (fX9_give N (σ 37)).bind (fun x_653 => K_18 (l3 + (4 : Int32)) (va_up (va_up σ 9 x_648.2) 37 x_653.2) α hh))
noncomputable def fL_law_660 (N : Nat) (L : Nat) (xs : Nat → Int32) (K_18 : Int32 → (Nat → Int32) → (Nat → Nat → Int32) → Int64 → Option Int32) (l3 : Int32) (σ : Nat → Int32) (α : Nat → Nat → Int32) (hh : Int64) : Option Int32 := if (l3 + (1 : Int32)) < 0 ∨ L ≤ ((l3 + (1 : Int32))).toNatClampNeg then none else ((fX8_order N (σ 4) (σ 6) (σ 7) (σ 8) (α 3) (α 4) (α 5) (α 6) (σ 9) (α 10) (α 8) (α 9) (xs ((l3 + (1 : Int32))).toNatClampNeg) (σ 2) (σ 21) (α 33) (σ 22) (σ 23) (σ 24) (α 34) (α 35) (α 36) (α 37) (α 32)).bind (fun x_666 => if (l3 + (1 : Int32)) < 0 ∨ L ≤ ((l3 + (1 : Int32))).toNatClampNeg then none else ((fX9_order N (σ 29) (σ 37) (α 49) (α 59) (xs ((l3 + (1 : Int32))).toNatClampNeg) (σ 34) (σ 35) (σ 38) (α 60) (α 54) (α 55) (α 61)).bind (fun x_676 => K_18 (l3 + (4 : Int32)) (va_up (va_up (va_up (va_up (va_up (va_up (va_up (va_up σ 2 x_666.2.1) 21 x_666.2.2.1) 22 x_666.2.2.2.2.1) 23 x_666.2.2.2.2.2.1) 24 x_666.2.2.2.2.2.2.1) 34 x_676.2.1) 35 x_676.2.2.1) 38 x_676.2.2.2.1) (va_up (va_up (va_up (va_up (va_up (va_up (va_up (va_up (va_up (va_up α 32 x_666.2.2.2.2.2.2.2.2.2.2.2) 33 x_666.2.2.2.1) 34 x_666.2.2.2.2.2.2.2.1) 35 x_666.2.2.2.2.2.2.2.2.1) 36 x_666.2.2.2.2.2.2.2.2.2.1) 37 x_666.2.2.2.2.2.2.2.2.2.2.1) 54 x_676.2.2.2.2.2.1) 55 x_676.2.2.2.2.2.2.1) 60 x_676.2.2.2.2.1) 61 x_676.2.2.2.2.2.2.2) hh))))
noncomputable def fL_law_683 (N : Nat) (L : Nat) (xs : Nat → Int32) (K_18 : Int32 → (Nat → Int32) → (Nat → Nat → Int32) → Int64 → Option Int32) (l3 : Int32) (σ : Nat → Int32) (α : Nat → Nat → Int32) (hh : Int64) : Option Int32 := if (l3 + (1 : Int32)) < 0 ∨ L ≤ ((l3 + (1 : Int32))).toNatClampNeg then none else (if (l3 + (2 : Int32)) < 0 ∨ L ≤ ((l3 + (2 : Int32))).toNatClampNeg then none else (if (l3 + (3 : Int32)) < 0 ∨ L ≤ ((l3 + (3 : Int32))).toNatClampNeg then none else ((fX8_see N (σ 4) (xs ((l3 + (1 : Int32))).toNatClampNeg) (xs ((l3 + (2 : Int32))).toNatClampNeg) (xs ((l3 + (3 : Int32))).toNatClampNeg) (σ 10) (α 11) (α 12) (α 13)).bind (fun x_699 => if (l3 + (1 : Int32)) < 0 ∨ L ≤ ((l3 + (1 : Int32))).toNatClampNeg then none else (if (l3 + (2 : Int32)) < 0 ∨ L ≤ ((l3 + (2 : Int32))).toNatClampNeg then none else (if (l3 + (3 : Int32)) < 0 ∨ L ≤ ((l3 + (3 : Int32))).toNatClampNeg then none else ((fX9_see N (σ 29) (xs ((l3 + (1 : Int32))).toNatClampNeg) (xs ((l3 + (2 : Int32))).toNatClampNeg) (xs ((l3 + (3 : Int32))).toNatClampNeg) (σ 39) (α 62)).bind (fun x_719 => K_18 (l3 + (4 : Int32)) (va_up (va_up σ 10 x_699.2.1) 39 x_719.2.1) (va_up (va_up (va_up (va_up α 11 x_699.2.2.1) 12 x_699.2.2.2.1) 13 x_699.2.2.2.2) 62 x_719.2.2) hh))))))))
noncomputable def fL_law_726 (N : Nat) (L : Nat) (xs : Nat → Int32) (K_18 : Int32 → (Nat → Int32) → (Nat → Nat → Int32) → Int64 → Option Int32) (l3 : Int32) (σ : Nat → Int32) (α : Nat → Nat → Int32) (hh : Int64) : Option Int32 := (fX8_forget N (σ 10)).bind (fun x_727 => (fX9_forget N (σ 39)).bind (fun x_732 => K_18 (l3 + (4 : Int32)) (va_up (va_up σ 10 x_727.2) 39 x_732.2) α hh))
noncomputable def fL_law_739 (N : Nat) (L : Nat) (xs : Nat → Int32) (K_18 : Int32 → (Nat → Int32) → (Nat → Nat → Int32) → Int64 → Option Int32) (l3 : Int32) (σ : Nat → Int32) (α : Nat → Nat → Int32) (hh : Int64) : Option Int32 := if (l3 + (1 : Int32)) < 0 ∨ L ≤ ((l3 + (1 : Int32))).toNatClampNeg then none else (if (l3 + (2 : Int32)) < 0 ∨ L ≤ ((l3 + (2 : Int32))).toNatClampNeg then none else (if (l3 + (3 : Int32)) < 0 ∨ L ≤ ((l3 + (3 : Int32))).toNatClampNeg then none else ((fX8_years N (σ 4) (σ 6) (σ 7) (σ 8) (α 3) (α 4) (α 5) (α 6) (α 1) (xs ((l3 + (1 : Int32))).toNatClampNeg) (xs ((l3 + (2 : Int32))).toNatClampNeg) (xs ((l3 + (3 : Int32))).toNatClampNeg) (σ 17) (σ 18) (σ 19) (α 25) (α 26) (α 27) (α 28)).bind (fun x_755 => if (l3 + (1 : Int32)) < 0 ∨ L ≤ ((l3 + (1 : Int32))).toNatClampNeg then none else (if (l3 + (2 : Int32)) < 0 ∨ L ≤ ((l3 + (2 : Int32))).toNatClampNeg then none else (if (l3 + (3 : Int32)) < 0 ∨ L ≤ ((l3 + (3 : Int32))).toNatClampNeg then none else ((fX9_years N (σ 29) (σ 32) (σ 33) (α 52) (α 53) (α 49) (α 48) (xs ((l3 + (1 : Int32))).toNatClampNeg) (xs ((l3 + (2 : Int32))).toNatClampNeg) (xs ((l3 + (3 : Int32))).toNatClampNeg) (σ 34) (σ 35) (σ 40) (α 54) (α 55)).bind (fun x_775 => K_18 (l3 + (4 : Int32)) (va_up (va_up (va_up (va_up (va_up (va_up σ 17 x_755.2.1) 18 x_755.2.2.1) 19 x_755.2.2.2.1) 34 x_775.2.1) 35 x_775.2.2.1) 40 x_775.2.2.2.1) (va_up (va_up (va_up (va_up (va_up (va_up α 25 x_755.2.2.2.2.1) 26 x_755.2.2.2.2.2.1) 27 x_755.2.2.2.2.2.2.1) 28 x_755.2.2.2.2.2.2.2) 54 x_775.2.2.2.2.1) 55 x_775.2.2.2.2.2) hh))))))))
noncomputable def fL_law_782 (N : Nat) (L : Nat) (xs : Nat → Int32) (K_18 : Int32 → (Nat → Int32) → (Nat → Nat → Int32) → Int64 → Option Int32) (l3 : Int32) (σ : Nat → Int32) (α : Nat → Nat → Int32) (hh : Int64) : Option Int32 := (fX8_image N (σ 4) (σ 5) (σ 6) (σ 7) (σ 8) (α 3) (α 4) (α 5) (α 6) (α 7) (σ 9) (α 8) (α 9) (α 10) (σ 10) (α 11) (α 12) (α 13) (σ 0) (σ 11) (σ 12) (σ 13) (σ 14) (α 14) (α 15) (α 16) (α 17) (α 18) (σ 15) (α 19) (α 20) (α 21) (σ 16) (α 22) (α 23) (α 24)).bind (fun x_783 => (fX9_image N (σ 29) (σ 30) (σ 31) (σ 32) (σ 33) (σ 37) (σ 39) (α 49) (α 52) (α 53) (α 51) (α 59) (α 62) (σ 41) (σ 42) (σ 43) (σ 44) (σ 45) (σ 46) (α 64) (α 65) (α 66) (α 67) (α 68) (α 69)).bind (fun x_788 => K_18 (l3 + (4 : Int32)) (va_up (va_up (va_up (va_up (va_up (va_up (va_up (va_up (va_up (va_up (va_up (va_up (va_up σ 0 x_783.2.1) 11 x_783.2.2.1) 12 x_783.2.2.2.1) 13 x_783.2.2.2.2.1) 14 x_783.2.2.2.2.2.1) 15 x_783.2.2.2.2.2.2.2.2.2.2.2.1) 16 x_783.2.2.2.2.2.2.2.2.2.2.2.2.2.2.2.1) 41 x_788.2.1) 42 x_788.2.2.1) 43 x_788.2.2.2.1) 44 x_788.2.2.2.2.1) 45 x_788.2.2.2.2.2.1) 46 x_788.2.2.2.2.2.2.1) (va_up (va_up (va_up (va_up (va_up (va_up (va_up (va_up (va_up (va_up (va_up (va_up (va_up (va_up (va_up (va_up (va_up α 14 x_783.2.2.2.2.2.2.1) 15 x_783.2.2.2.2.2.2.2.1) 16 x_783.2.2.2.2.2.2.2.2.1) 17 x_783.2.2.2.2.2.2.2.2.2.1) 18 x_783.2.2.2.2.2.2.2.2.2.2.1) 19 x_783.2.2.2.2.2.2.2.2.2.2.2.2.1) 20 x_783.2.2.2.2.2.2.2.2.2.2.2.2.2.1) 21 x_783.2.2.2.2.2.2.2.2.2.2.2.2.2.2.1) 22 x_783.2.2.2.2.2.2.2.2.2.2.2.2.2.2.2.2.1) 23 x_783.2.2.2.2.2.2.2.2.2.2.2.2.2.2.2.2.2.1) 24 x_783.2.2.2.2.2.2.2.2.2.2.2.2.2.2.2.2.2.2) 64 x_788.2.2.2.2.2.2.2.1) 65 x_788.2.2.2.2.2.2.2.2.1) 66 x_788.2.2.2.2.2.2.2.2.2.1) 67 x_788.2.2.2.2.2.2.2.2.2.2.1) 68 x_788.2.2.2.2.2.2.2.2.2.2.2.1) 69 x_788.2.2.2.2.2.2.2.2.2.2.2.2) hh))
noncomputable def fL_law_795 (N : Nat) (L : Nat) (xs : Nat → Int32) (K_18 : Int32 → (Nat → Int32) → (Nat → Nat → Int32) → Int64 → Option Int32) (l3 : Int32) (σ : Nat → Int32) (α : Nat → Nat → Int32) (hh : Int64) : Option Int32 := (fX8_restore N (σ 0) (σ 11) (σ 12) (σ 13) (σ 14) (α 14) (α 15) (α 16) (α 17) (α 18) (σ 15) (α 19) (α 20) (α 21) (σ 16) (α 22) (α 23) (α 24) (σ 5) (σ 6) (σ 7) (σ 8) (α 3) (α 4) (α 5) (α 6) (α 7) (σ 9) (α 8) (α 9) (α 10) (σ 10) (α 11) (α 12) (α 13)).bind (fun x_796 => (fX9_restore N (σ 31) (σ 41) (σ 42) (σ 43) (σ 44) (σ 45) (σ 46) (α 64) (α 65) (α 66) (α 67) (α 68) (α 69) (σ 30) (σ 32) (σ 33) (σ 37) (σ 39) (α 49) (α 52) (α 53) (α 51) (α 59) (α 62)).bind (fun x_800 => if x_796.1 = x_800.1 then (K_18 (l3 + (4 : Int32)) (va_up (va_up (va_up (va_up (va_up (va_up (va_up (va_up (va_up (va_up (va_up σ 5 x_796.2.1) 6 x_796.2.2.1) 7 x_796.2.2.2.1) 8 x_796.2.2.2.2.1) 9 x_796.2.2.2.2.2.2.2.2.2.2.1) 10 x_796.2.2.2.2.2.2.2.2.2.2.2.2.2.2.1) 30 x_800.2.1) 32 x_800.2.2.1) 33 x_800.2.2.2.1) 37 x_800.2.2.2.2.1) 39 x_800.2.2.2.2.2.1) (va_up (va_up (va_up (va_up (va_up (va_up (va_up (va_up (va_up (va_up (va_up (va_up (va_up (va_up (va_up (va_up (va_up α 3 x_796.2.2.2.2.2.1) 4 x_796.2.2.2.2.2.2.1) 5 x_796.2.2.2.2.2.2.2.1) 6 x_796.2.2.2.2.2.2.2.2.1) 7 x_796.2.2.2.2.2.2.2.2.2.1) 8 x_796.2.2.2.2.2.2.2.2.2.2.2.1) 9 x_796.2.2.2.2.2.2.2.2.2.2.2.2.1) 10 x_796.2.2.2.2.2.2.2.2.2.2.2.2.2.1) 11 x_796.2.2.2.2.2.2.2.2.2.2.2.2.2.2.2.1) 12 x_796.2.2.2.2.2.2.2.2.2.2.2.2.2.2.2.2.1) 13 x_796.2.2.2.2.2.2.2.2.2.2.2.2.2.2.2.2.2) 49 x_800.2.2.2.2.2.2.1) 51 x_800.2.2.2.2.2.2.2.2.2.1) 52 x_800.2.2.2.2.2.2.2.1) 53 x_800.2.2.2.2.2.2.2.2.1) 59 x_800.2.2.2.2.2.2.2.2.2.2.1) 62 x_800.2.2.2.2.2.2.2.2.2.2.2) hh) else (some (0 : Int32))))
noncomputable def fL_law_808 (N : Nat) (L : Nat) (xs : Nat → Int32) (K_18 : Int32 → (Nat → Int32) → (Nat → Nat → Int32) → Int64 → Option Int32) (l3 : Int32) (σ : Nat → Int32) (α : Nat → Nat → Int32) (hh : Int64) : Option Int32 := if (l3 + (1 : Int32)) < 0 ∨ L ≤ ((l3 + (1 : Int32))).toNatClampNeg then none else ((fX8_count N (σ 1) (σ 2) (σ 3) (σ 5) (σ 10) (σ 9) (σ 6) (σ 7) (σ 8) (α 7) (σ 4) (α 4) (α 1) (α 5) (xs ((l3 + (1 : Int32))).toNatClampNeg)).bind (fun x_814 => if (l3 + (1 : Int32)) < 0 ∨ L ≤ ((l3 + (1 : Int32))).toNatClampNeg then none else ((fX9_count N (σ 28) (σ 29) (σ 30) (σ 31) (σ 32) (σ 33) (σ 37) (σ 38) (σ 39) (α 51) (α 52) (α 48) (α 53) (xs ((l3 + (1 : Int32))).toNatClampNeg)).bind (fun x_824 => K_18 (l3 + (4 : Int32)) σ α hh))))
noncomputable def fL_law_831 (N : Nat) (L : Nat) (xs : Nat → Int32) (K_18 : Int32 → (Nat → Int32) → (Nat → Nat → Int32) → Int64 → Option Int32) (l3 : Int32) (σ : Nat → Int32) (α : Nat → Nat → Int32) (hh : Int64) : Option Int32 := (fX8_digest N (σ 1) (σ 2) (σ 4) (σ 5) (σ 6) (σ 7) (σ 8) (α 4) (α 2) (α 6) (α 3) (α 5) (σ 10) (α 11) (α 13) (α 12) (α 7) (α 1) (σ 3) (α 0) (σ 9) (σ 20) (α 29) (α 31) (α 30) (σ 25) (σ 26) (σ 27) (α 43) (α 44) (α 45) (α 46) (α 38) (α 39) (α 40) (α 41) (α 42) (σ 17) (σ 18) (σ 19) (α 25) (α 26) (α 27) (α 28)).bind (fun x_832 => (fX9_digest N (σ 28) (σ 29) (σ 30) (σ 31) (σ 32) (σ 33) (σ 37) (σ 38) (σ 39) (α 52) (α 50) (α 53) (α 62) (α 51) (α 48) (α 47) (σ 34) (σ 35) (σ 36) hh (α 56) (α 57) (α 58) (α 49) (α 54) (α 55) (α 63)).bind (fun x_837 => K_18 (l3 + (4 : Int32)) (va_up (va_up (va_up (va_up (va_up (va_up (va_up (va_up (va_up (va_up σ 17 x_832.2.2.2.2.2.2.2.2.2.2.2.2.2.2.2.2.2.1) 18 x_832.2.2.2.2.2.2.2.2.2.2.2.2.2.2.2.2.2.2.1) 19 x_832.2.2.2.2.2.2.2.2.2.2.2.2.2.2.2.2.2.2.2.1) 20 x_832.2.1) 25 x_832.2.2.2.2.2.1) 26 x_832.2.2.2.2.2.2.1) 27 x_832.2.2.2.2.2.2.2.1) 34 x_837.2.1) 35 x_837.2.2.1) 36 x_837.2.2.2.1) (va_up (va_up (va_up (va_up (va_up (va_up (va_up (va_up (va_up (va_up (va_up (va_up (va_up (va_up (va_up (va_up (va_up (va_up (va_up (va_up (va_up (va_up (va_up α 25 x_832.2.2.2.2.2.2.2.2.2.2.2.2.2.2.2.2.2.2.2.2.1) 26 x_832.2.2.2.2.2.2.2.2.2.2.2.2.2.2.2.2.2.2.2.2.2.1) 27 x_832.2.2.2.2.2.2.2.2.2.2.2.2.2.2.2.2.2.2.2.2.2.2.1) 28 x_832.2.2.2.2.2.2.2.2.2.2.2.2.2.2.2.2.2.2.2.2.2.2.2) 29 x_832.2.2.1) 30 x_832.2.2.2.2.1) 31 x_832.2.2.2.1) 38 x_832.2.2.2.2.2.2.2.2.2.2.2.2.1) 39 x_832.2.2.2.2.2.2.2.2.2.2.2.2.2.1) 40 x_832.2.2.2.2.2.2.2.2.2.2.2.2.2.2.1) 41 x_832.2.2.2.2.2.2.2.2.2.2.2.2.2.2.2.1) 42 x_832.2.2.2.2.2.2.2.2.2.2.2.2.2.2.2.2.1) 43 x_832.2.2.2.2.2.2.2.2.1) 44 x_832.2.2.2.2.2.2.2.2.2.1) 45 x_832.2.2.2.2.2.2.2.2.2.2.1) 46 x_832.2.2.2.2.2.2.2.2.2.2.2.1) 49 x_837.2.2.2.2.2.2.2.2.1) 54 x_837.2.2.2.2.2.2.2.2.2.1) 55 x_837.2.2.2.2.2.2.2.2.2.2.1) 56 x_837.2.2.2.2.2.1) 57 x_837.2.2.2.2.2.2.1) 58 x_837.2.2.2.2.2.2.2.1) 63 x_837.2.2.2.2.2.2.2.2.2.2.2) x_837.2.2.2.2.1))
noncomputable def fL_law_18 (N : Nat) (L : Nat) (xs : Nat → Int32) (K_18 : Int32 → (Nat → Int32) → (Nat → Nat → Int32) → Int64 → Option Int32) (l3 : Int32) (σ : Nat → Int32) (α : Nat → Nat → Int32) (hh : Int64) : Option Int32 := if ((Int32.ofNat L) - (4 : Int32)) < l3 then (some (1 : Int32)) else (if l3 < 0 ∨ L ≤ (l3).toNatClampNeg then none else (if ((xs (l3).toNatClampNeg) &&& (31 : Int32)) = (0 : Int32) then (fL_law_160 N L xs K_18 l3 σ α hh) else (if ((xs (l3).toNatClampNeg) &&& (31 : Int32)) = (1 : Int32) then (fL_law_183 N L xs K_18 l3 σ α hh) else (if ((xs (l3).toNatClampNeg) &&& (31 : Int32)) = (2 : Int32) then (fL_law_196 N L xs K_18 l3 σ α hh) else (if ((xs (l3).toNatClampNeg) &&& (31 : Int32)) = (3 : Int32) then (fL_law_209 N L xs K_18 l3 σ α hh) else (if ((xs (l3).toNatClampNeg) &&& (31 : Int32)) = (4 : Int32) then (fL_law_222 N L xs K_18 l3 σ α hh) else (if ((xs (l3).toNatClampNeg) &&& (31 : Int32)) = (5 : Int32) then (fL_law_255 N L xs K_18 l3 σ α hh) else (if ((xs (l3).toNatClampNeg) &&& (31 : Int32)) = (6 : Int32) then (fL_law_288 N L xs K_18 l3 σ α hh) else (if ((xs (l3).toNatClampNeg) &&& (31 : Int32)) = (7 : Int32) then (fL_law_321 N L xs K_18 l3 σ α hh) else (if ((xs (l3).toNatClampNeg) &&& (31 : Int32)) = (8 : Int32) then (fL_law_334 N L xs K_18 l3 σ α hh) else (if ((xs (l3).toNatClampNeg) &&& (31 : Int32)) = (9 : Int32) then (fL_law_347 N L xs K_18 l3 σ α hh) else (if ((xs (l3).toNatClampNeg) &&& (31 : Int32)) = (10 : Int32) then (fL_law_380 N L xs K_18 l3 σ α hh) else (if ((xs (l3).toNatClampNeg) &&& (31 : Int32)) = (11 : Int32) then (fL_law_413 N L xs K_18 l3 σ α hh) else (if ((xs (l3).toNatClampNeg) &&& (31 : Int32)) = (12 : Int32) then (fL_law_446 N L xs K_18 l3 σ α hh) else (if ((xs (l3).toNatClampNeg) &&& (31 : Int32)) = (13 : Int32) then (fL_law_479 N L xs K_18 l3 σ α hh) else (if ((xs (l3).toNatClampNeg) &&& (31 : Int32)) = (14 : Int32) then (fL_law_512 N L xs K_18 l3 σ α hh) else (if ((xs (l3).toNatClampNeg) &&& (31 : Int32)) = (15 : Int32) then (fL_law_525 N L xs K_18 l3 σ α hh) else (if ((xs (l3).toNatClampNeg) &&& (31 : Int32)) = (16 : Int32) then (fL_law_558 N L xs K_18 l3 σ α hh) else (if ((xs (l3).toNatClampNeg) &&& (31 : Int32)) = (17 : Int32) then (fL_law_591 N L xs K_18 l3 σ α hh) else (if ((xs (l3).toNatClampNeg) &&& (31 : Int32)) = (18 : Int32) then (fL_law_604 N L xs K_18 l3 σ α hh) else (if ((xs (l3).toNatClampNeg) &&& (31 : Int32)) = (19 : Int32) then (fL_law_647 N L xs K_18 l3 σ α hh) else (if ((xs (l3).toNatClampNeg) &&& (31 : Int32)) = (20 : Int32) then (fL_law_660 N L xs K_18 l3 σ α hh) else (if ((xs (l3).toNatClampNeg) &&& (31 : Int32)) = (21 : Int32) then (fL_law_683 N L xs K_18 l3 σ α hh) else (if ((xs (l3).toNatClampNeg) &&& (31 : Int32)) = (22 : Int32) then (fL_law_726 N L xs K_18 l3 σ α hh) else (if ((xs (l3).toNatClampNeg) &&& (31 : Int32)) = (23 : Int32) then (fL_law_739 N L xs K_18 l3 σ α hh) else (if ((xs (l3).toNatClampNeg) &&& (31 : Int32)) = (24 : Int32) then (fL_law_782 N L xs K_18 l3 σ α hh) else (if ((xs (l3).toNatClampNeg) &&& (31 : Int32)) = (25 : Int32) then (fL_law_795 N L xs K_18 l3 σ α hh) else (if ((xs (l3).toNatClampNeg) &&& (31 : Int32)) = (26 : Int32) then (fL_law_808 N L xs K_18 l3 σ α hh) else (if ((xs (l3).toNatClampNeg) &&& (31 : Int32)) = (27 : Int32) then (fL_law_831 N L xs K_18 l3 σ α hh) else (K_18 (l3 + (4 : Int32)) σ α hh))))))))))))))))))))))))))))))
def σ0 : Nat → Int32 := fun k => if k = 41 then (-1 : Int32) else 0
def α0 : Nat → Nat → Int32 := fun _ _ => 0
