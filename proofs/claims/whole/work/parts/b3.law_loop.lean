/-! the law: decode rows, its loop -/
theorem d_law_0 : decode code 0 = .ok (.new 7, 3) := by decide +kernel
theorem d_law_3 : decode code 3 = .ok (.dup, 1) := by decide +kernel
theorem d_law_4 : decode code 4 = .ok (.invokespecial 9, 3) := by decide +kernel
theorem d_law_7 : decode code 7 = .ok (.astore_n 1, 1) := by decide +kernel
theorem d_law_8 : decode code 8 = .ok (.new 10, 3) := by decide +kernel
theorem d_law_11 : decode code 11 = .ok (.dup, 1) := by decide +kernel
theorem d_law_12 : decode code 12 = .ok (.invokespecial 12, 3) := by decide +kernel
theorem d_law_15 : decode code 15 = .ok (.astore_n 2, 1) := by decide +kernel
theorem d_law_16 : decode code 16 = .ok (.iconst 0, 1) := by decide +kernel
theorem d_law_17 : decode code 17 = .ok (.istore_n 3, 1) := by decide +kernel
theorem d_law_18 : decode code 18 = .ok (.iload_n 3, 1) := by decide +kernel
theorem d_law_19 : decode code 19 = .ok (.aload_n 0, 1) := by decide +kernel
theorem d_law_20 : decode code 20 = .ok (.arraylength, 1) := by decide +kernel
theorem d_law_21 : decode code 21 = .ok (.bipush 6, 2) := by decide +kernel
theorem d_law_23 : decode code 23 = .ok (.isub, 1) := by decide +kernel
theorem d_law_24 : decode code 24 = .ok (.if_icmp .gt (1035), 3) := by decide +kernel
theorem d_law_27 : decode code 27 = .ok (.aload_n 0, 1) := by decide +kernel
theorem d_law_28 : decode code 28 = .ok (.iload_n 3, 1) := by decide +kernel
theorem d_law_29 : decode code 29 = .ok (.iaload, 1) := by decide +kernel
theorem d_law_30 : decode code 30 = .ok (.bipush 31, 2) := by decide +kernel
theorem d_law_32 : decode code 32 = .ok (.iand, 1) := by decide +kernel
theorem d_law_33 : decode code 33 = .ok (.tableswitch (1020) 0 27 #[127, 190, 213, 226, 239, 272, 306, 339, 383, 416, 449, 498, 531, 564, 597, 640, 673, 696, 729, 752, 775, 798, 831, 875, 898, 951, 974, 997], 127) := by decide +kernel
theorem d_law_160 : decode code 160 = .ok (.aload_n 1, 1) := by decide +kernel
theorem d_law_161 : decode code 161 = .ok (.aload_n 0, 1) := by decide +kernel
theorem d_law_162 : decode code 162 = .ok (.iload_n 3, 1) := by decide +kernel
theorem d_law_163 : decode code 163 = .ok (.iconst 1, 1) := by decide +kernel
theorem d_law_164 : decode code 164 = .ok (.iadd, 1) := by decide +kernel
theorem d_law_165 : decode code 165 = .ok (.iaload, 1) := by decide +kernel
theorem d_law_166 : decode code 166 = .ok (.aload_n 0, 1) := by decide +kernel
theorem d_law_167 : decode code 167 = .ok (.iload_n 3, 1) := by decide +kernel
theorem d_law_168 : decode code 168 = .ok (.iconst 2, 1) := by decide +kernel
theorem d_law_169 : decode code 169 = .ok (.iadd, 1) := by decide +kernel
theorem d_law_170 : decode code 170 = .ok (.iaload, 1) := by decide +kernel
theorem d_law_171 : decode code 171 = .ok (.aload_n 0, 1) := by decide +kernel
theorem d_law_172 : decode code 172 = .ok (.iload_n 3, 1) := by decide +kernel
theorem d_law_173 : decode code 173 = .ok (.iconst 3, 1) := by decide +kernel
theorem d_law_174 : decode code 174 = .ok (.iadd, 1) := by decide +kernel
theorem d_law_175 : decode code 175 = .ok (.iaload, 1) := by decide +kernel
theorem d_law_176 : decode code 176 = .ok (.aload_n 0, 1) := by decide +kernel
theorem d_law_177 : decode code 177 = .ok (.iload_n 3, 1) := by decide +kernel
theorem d_law_178 : decode code 178 = .ok (.iconst 4, 1) := by decide +kernel
theorem d_law_179 : decode code 179 = .ok (.iadd, 1) := by decide +kernel
theorem d_law_180 : decode code 180 = .ok (.iaload, 1) := by decide +kernel
theorem d_law_181 : decode code 181 = .ok (.aload_n 0, 1) := by decide +kernel
theorem d_law_182 : decode code 182 = .ok (.iload_n 3, 1) := by decide +kernel
theorem d_law_183 : decode code 183 = .ok (.iconst 5, 1) := by decide +kernel
theorem d_law_184 : decode code 184 = .ok (.iadd, 1) := by decide +kernel
theorem d_law_185 : decode code 185 = .ok (.iaload, 1) := by decide +kernel
theorem d_law_186 : decode code 186 = .ok (.invokevirtual 13, 3) := by decide +kernel
theorem d_law_189 : decode code 189 = .ok (.aload_n 2, 1) := by decide +kernel
theorem d_law_190 : decode code 190 = .ok (.aload_n 0, 1) := by decide +kernel
theorem d_law_191 : decode code 191 = .ok (.iload_n 3, 1) := by decide +kernel
theorem d_law_192 : decode code 192 = .ok (.iconst 1, 1) := by decide +kernel
theorem d_law_193 : decode code 193 = .ok (.iadd, 1) := by decide +kernel
theorem d_law_194 : decode code 194 = .ok (.iaload, 1) := by decide +kernel
theorem d_law_195 : decode code 195 = .ok (.aload_n 0, 1) := by decide +kernel
theorem d_law_196 : decode code 196 = .ok (.iload_n 3, 1) := by decide +kernel
theorem d_law_197 : decode code 197 = .ok (.iconst 2, 1) := by decide +kernel
theorem d_law_198 : decode code 198 = .ok (.iadd, 1) := by decide +kernel
theorem d_law_199 : decode code 199 = .ok (.iaload, 1) := by decide +kernel
theorem d_law_200 : decode code 200 = .ok (.aload_n 0, 1) := by decide +kernel
theorem d_law_201 : decode code 201 = .ok (.iload_n 3, 1) := by decide +kernel
theorem d_law_202 : decode code 202 = .ok (.iconst 3, 1) := by decide +kernel
theorem d_law_203 : decode code 203 = .ok (.iadd, 1) := by decide +kernel
theorem d_law_204 : decode code 204 = .ok (.iaload, 1) := by decide +kernel
theorem d_law_205 : decode code 205 = .ok (.aload_n 0, 1) := by decide +kernel
theorem d_law_206 : decode code 206 = .ok (.iload_n 3, 1) := by decide +kernel
theorem d_law_207 : decode code 207 = .ok (.iconst 4, 1) := by decide +kernel
theorem d_law_208 : decode code 208 = .ok (.iadd, 1) := by decide +kernel
theorem d_law_209 : decode code 209 = .ok (.iaload, 1) := by decide +kernel
theorem d_law_210 : decode code 210 = .ok (.aload_n 0, 1) := by decide +kernel
theorem d_law_211 : decode code 211 = .ok (.iload_n 3, 1) := by decide +kernel
theorem d_law_212 : decode code 212 = .ok (.iconst 5, 1) := by decide +kernel
theorem d_law_213 : decode code 213 = .ok (.iadd, 1) := by decide +kernel
theorem d_law_214 : decode code 214 = .ok (.iaload, 1) := by decide +kernel
theorem d_law_215 : decode code 215 = .ok (.invokevirtual 17, 3) := by decide +kernel
theorem d_law_218 : decode code 218 = .ok (.if_icmp .eq (835), 3) := by decide +kernel
theorem d_law_221 : decode code 221 = .ok (.iconst 0, 1) := by decide +kernel
theorem d_law_222 : decode code 222 = .ok (.ireturn, 1) := by decide +kernel
theorem d_law_223 : decode code 223 = .ok (.aload_n 1, 1) := by decide +kernel
theorem d_law_224 : decode code 224 = .ok (.aload_n 0, 1) := by decide +kernel
theorem d_law_225 : decode code 225 = .ok (.iload_n 3, 1) := by decide +kernel
theorem d_law_226 : decode code 226 = .ok (.iconst 1, 1) := by decide +kernel
theorem d_law_227 : decode code 227 = .ok (.iadd, 1) := by decide +kernel
theorem d_law_228 : decode code 228 = .ok (.iaload, 1) := by decide +kernel
theorem d_law_229 : decode code 229 = .ok (.invokevirtual 18, 3) := by decide +kernel
theorem d_law_232 : decode code 232 = .ok (.aload_n 2, 1) := by decide +kernel
theorem d_law_233 : decode code 233 = .ok (.aload_n 0, 1) := by decide +kernel
theorem d_law_234 : decode code 234 = .ok (.iload_n 3, 1) := by decide +kernel
theorem d_law_235 : decode code 235 = .ok (.iconst 1, 1) := by decide +kernel
theorem d_law_236 : decode code 236 = .ok (.iadd, 1) := by decide +kernel
theorem d_law_237 : decode code 237 = .ok (.iaload, 1) := by decide +kernel
theorem d_law_238 : decode code 238 = .ok (.invokevirtual 22, 3) := by decide +kernel
theorem d_law_241 : decode code 241 = .ok (.if_icmp .eq (812), 3) := by decide +kernel
theorem d_law_244 : decode code 244 = .ok (.iconst 0, 1) := by decide +kernel
theorem d_law_245 : decode code 245 = .ok (.ireturn, 1) := by decide +kernel
theorem d_law_246 : decode code 246 = .ok (.aload_n 1, 1) := by decide +kernel
theorem d_law_247 : decode code 247 = .ok (.invokevirtual 23, 3) := by decide +kernel
theorem d_law_250 : decode code 250 = .ok (.aload_n 2, 1) := by decide +kernel
theorem d_law_251 : decode code 251 = .ok (.invokevirtual 27, 3) := by decide +kernel
theorem d_law_254 : decode code 254 = .ok (.if_icmp .eq (799), 3) := by decide +kernel
theorem d_law_257 : decode code 257 = .ok (.iconst 0, 1) := by decide +kernel
theorem d_law_258 : decode code 258 = .ok (.ireturn, 1) := by decide +kernel
theorem d_law_259 : decode code 259 = .ok (.aload_n 1, 1) := by decide +kernel
theorem d_law_260 : decode code 260 = .ok (.invokevirtual 28, 3) := by decide +kernel
theorem d_law_263 : decode code 263 = .ok (.aload_n 2, 1) := by decide +kernel
theorem d_law_264 : decode code 264 = .ok (.invokevirtual 31, 3) := by decide +kernel
theorem d_law_267 : decode code 267 = .ok (.if_icmp .eq (786), 3) := by decide +kernel
theorem d_law_270 : decode code 270 = .ok (.iconst 0, 1) := by decide +kernel
theorem d_law_271 : decode code 271 = .ok (.ireturn, 1) := by decide +kernel
theorem d_law_272 : decode code 272 = .ok (.aload_n 1, 1) := by decide +kernel
theorem d_law_273 : decode code 273 = .ok (.aload_n 0, 1) := by decide +kernel
theorem d_law_274 : decode code 274 = .ok (.iload_n 3, 1) := by decide +kernel
theorem d_law_275 : decode code 275 = .ok (.iconst 1, 1) := by decide +kernel
theorem d_law_276 : decode code 276 = .ok (.iadd, 1) := by decide +kernel
theorem d_law_277 : decode code 277 = .ok (.iaload, 1) := by decide +kernel
theorem d_law_278 : decode code 278 = .ok (.aload_n 0, 1) := by decide +kernel
theorem d_law_279 : decode code 279 = .ok (.iload_n 3, 1) := by decide +kernel
theorem d_law_280 : decode code 280 = .ok (.iconst 2, 1) := by decide +kernel
theorem d_law_281 : decode code 281 = .ok (.iadd, 1) := by decide +kernel
theorem d_law_282 : decode code 282 = .ok (.iaload, 1) := by decide +kernel
theorem d_law_283 : decode code 283 = .ok (.invokevirtual 32, 3) := by decide +kernel
theorem d_law_286 : decode code 286 = .ok (.aload_n 2, 1) := by decide +kernel
theorem d_law_287 : decode code 287 = .ok (.aload_n 0, 1) := by decide +kernel
theorem d_law_288 : decode code 288 = .ok (.iload_n 3, 1) := by decide +kernel
theorem d_law_289 : decode code 289 = .ok (.iconst 1, 1) := by decide +kernel
theorem d_law_290 : decode code 290 = .ok (.iadd, 1) := by decide +kernel
theorem d_law_291 : decode code 291 = .ok (.iaload, 1) := by decide +kernel
theorem d_law_292 : decode code 292 = .ok (.aload_n 0, 1) := by decide +kernel
theorem d_law_293 : decode code 293 = .ok (.iload_n 3, 1) := by decide +kernel
theorem d_law_294 : decode code 294 = .ok (.iconst 2, 1) := by decide +kernel
theorem d_law_295 : decode code 295 = .ok (.iadd, 1) := by decide +kernel
theorem d_law_296 : decode code 296 = .ok (.iaload, 1) := by decide +kernel
theorem d_law_297 : decode code 297 = .ok (.invokevirtual 36, 3) := by decide +kernel
theorem d_law_300 : decode code 300 = .ok (.if_icmp .eq (753), 3) := by decide +kernel
theorem d_law_303 : decode code 303 = .ok (.iconst 0, 1) := by decide +kernel
theorem d_law_304 : decode code 304 = .ok (.ireturn, 1) := by decide +kernel
theorem d_law_305 : decode code 305 = .ok (.aload_n 1, 1) := by decide +kernel
theorem d_law_306 : decode code 306 = .ok (.aload_n 0, 1) := by decide +kernel
theorem d_law_307 : decode code 307 = .ok (.iload_n 3, 1) := by decide +kernel
theorem d_law_308 : decode code 308 = .ok (.iconst 1, 1) := by decide +kernel
theorem d_law_309 : decode code 309 = .ok (.iadd, 1) := by decide +kernel
theorem d_law_310 : decode code 310 = .ok (.iaload, 1) := by decide +kernel
theorem d_law_311 : decode code 311 = .ok (.aload_n 0, 1) := by decide +kernel
theorem d_law_312 : decode code 312 = .ok (.iload_n 3, 1) := by decide +kernel
theorem d_law_313 : decode code 313 = .ok (.iconst 2, 1) := by decide +kernel
theorem d_law_314 : decode code 314 = .ok (.iadd, 1) := by decide +kernel
theorem d_law_315 : decode code 315 = .ok (.iaload, 1) := by decide +kernel
theorem d_law_316 : decode code 316 = .ok (.invokevirtual 37, 3) := by decide +kernel
theorem d_law_319 : decode code 319 = .ok (.aload_n 2, 1) := by decide +kernel
theorem d_law_320 : decode code 320 = .ok (.aload_n 0, 1) := by decide +kernel
theorem d_law_321 : decode code 321 = .ok (.iload_n 3, 1) := by decide +kernel
theorem d_law_322 : decode code 322 = .ok (.iconst 1, 1) := by decide +kernel
theorem d_law_323 : decode code 323 = .ok (.iadd, 1) := by decide +kernel
theorem d_law_324 : decode code 324 = .ok (.iaload, 1) := by decide +kernel
theorem d_law_325 : decode code 325 = .ok (.aload_n 0, 1) := by decide +kernel
theorem d_law_326 : decode code 326 = .ok (.iload_n 3, 1) := by decide +kernel
theorem d_law_327 : decode code 327 = .ok (.iconst 2, 1) := by decide +kernel
theorem d_law_328 : decode code 328 = .ok (.iadd, 1) := by decide +kernel
theorem d_law_329 : decode code 329 = .ok (.iaload, 1) := by decide +kernel
theorem d_law_330 : decode code 330 = .ok (.invokevirtual 41, 3) := by decide +kernel
theorem d_law_333 : decode code 333 = .ok (.lcmp, 1) := by decide +kernel
theorem d_law_334 : decode code 334 = .ok (.ifCond .eq (719), 3) := by decide +kernel
theorem d_law_337 : decode code 337 = .ok (.iconst 0, 1) := by decide +kernel
theorem d_law_338 : decode code 338 = .ok (.ireturn, 1) := by decide +kernel
theorem d_law_339 : decode code 339 = .ok (.aload_n 1, 1) := by decide +kernel
theorem d_law_340 : decode code 340 = .ok (.aload_n 0, 1) := by decide +kernel
theorem d_law_341 : decode code 341 = .ok (.iload_n 3, 1) := by decide +kernel
theorem d_law_342 : decode code 342 = .ok (.iconst 1, 1) := by decide +kernel
theorem d_law_343 : decode code 343 = .ok (.iadd, 1) := by decide +kernel
theorem d_law_344 : decode code 344 = .ok (.iaload, 1) := by decide +kernel
theorem d_law_345 : decode code 345 = .ok (.aload_n 0, 1) := by decide +kernel
theorem d_law_346 : decode code 346 = .ok (.iload_n 3, 1) := by decide +kernel
theorem d_law_347 : decode code 347 = .ok (.iconst 2, 1) := by decide +kernel
theorem d_law_348 : decode code 348 = .ok (.iadd, 1) := by decide +kernel
theorem d_law_349 : decode code 349 = .ok (.iaload, 1) := by decide +kernel
theorem d_law_350 : decode code 350 = .ok (.invokevirtual 42, 3) := by decide +kernel
theorem d_law_353 : decode code 353 = .ok (.aload_n 2, 1) := by decide +kernel
theorem d_law_354 : decode code 354 = .ok (.aload_n 0, 1) := by decide +kernel
theorem d_law_355 : decode code 355 = .ok (.iload_n 3, 1) := by decide +kernel
theorem d_law_356 : decode code 356 = .ok (.iconst 1, 1) := by decide +kernel
theorem d_law_357 : decode code 357 = .ok (.iadd, 1) := by decide +kernel
theorem d_law_358 : decode code 358 = .ok (.iaload, 1) := by decide +kernel
theorem d_law_359 : decode code 359 = .ok (.aload_n 0, 1) := by decide +kernel
theorem d_law_360 : decode code 360 = .ok (.iload_n 3, 1) := by decide +kernel
theorem d_law_361 : decode code 361 = .ok (.iconst 2, 1) := by decide +kernel
theorem d_law_362 : decode code 362 = .ok (.iadd, 1) := by decide +kernel
theorem d_law_363 : decode code 363 = .ok (.iaload, 1) := by decide +kernel
theorem d_law_364 : decode code 364 = .ok (.invokevirtual 45, 3) := by decide +kernel
theorem d_law_367 : decode code 367 = .ok (.if_icmp .eq (686), 3) := by decide +kernel
theorem d_law_370 : decode code 370 = .ok (.iconst 0, 1) := by decide +kernel
theorem d_law_371 : decode code 371 = .ok (.ireturn, 1) := by decide +kernel
theorem d_law_372 : decode code 372 = .ok (.aload_n 1, 1) := by decide +kernel
theorem d_law_373 : decode code 373 = .ok (.aload_n 0, 1) := by decide +kernel
theorem d_law_374 : decode code 374 = .ok (.iload_n 3, 1) := by decide +kernel
theorem d_law_375 : decode code 375 = .ok (.iconst 1, 1) := by decide +kernel
theorem d_law_376 : decode code 376 = .ok (.iadd, 1) := by decide +kernel
theorem d_law_377 : decode code 377 = .ok (.iaload, 1) := by decide +kernel
theorem d_law_378 : decode code 378 = .ok (.aload_n 0, 1) := by decide +kernel
theorem d_law_379 : decode code 379 = .ok (.iload_n 3, 1) := by decide +kernel
theorem d_law_380 : decode code 380 = .ok (.iconst 2, 1) := by decide +kernel
theorem d_law_381 : decode code 381 = .ok (.iadd, 1) := by decide +kernel
theorem d_law_382 : decode code 382 = .ok (.iaload, 1) := by decide +kernel
theorem d_law_383 : decode code 383 = .ok (.aload_n 0, 1) := by decide +kernel
theorem d_law_384 : decode code 384 = .ok (.iload_n 3, 1) := by decide +kernel
theorem d_law_385 : decode code 385 = .ok (.iconst 3, 1) := by decide +kernel
theorem d_law_386 : decode code 386 = .ok (.iadd, 1) := by decide +kernel
theorem d_law_387 : decode code 387 = .ok (.iaload, 1) := by decide +kernel
theorem d_law_388 : decode code 388 = .ok (.invokevirtual 46, 3) := by decide +kernel
theorem d_law_391 : decode code 391 = .ok (.aload_n 2, 1) := by decide +kernel
theorem d_law_392 : decode code 392 = .ok (.aload_n 0, 1) := by decide +kernel
theorem d_law_393 : decode code 393 = .ok (.iload_n 3, 1) := by decide +kernel
theorem d_law_394 : decode code 394 = .ok (.iconst 1, 1) := by decide +kernel
theorem d_law_395 : decode code 395 = .ok (.iadd, 1) := by decide +kernel
theorem d_law_396 : decode code 396 = .ok (.iaload, 1) := by decide +kernel
theorem d_law_397 : decode code 397 = .ok (.aload_n 0, 1) := by decide +kernel
theorem d_law_398 : decode code 398 = .ok (.iload_n 3, 1) := by decide +kernel
theorem d_law_399 : decode code 399 = .ok (.iconst 2, 1) := by decide +kernel
theorem d_law_400 : decode code 400 = .ok (.iadd, 1) := by decide +kernel
theorem d_law_401 : decode code 401 = .ok (.iaload, 1) := by decide +kernel
theorem d_law_402 : decode code 402 = .ok (.aload_n 0, 1) := by decide +kernel
theorem d_law_403 : decode code 403 = .ok (.iload_n 3, 1) := by decide +kernel
theorem d_law_404 : decode code 404 = .ok (.iconst 3, 1) := by decide +kernel
theorem d_law_405 : decode code 405 = .ok (.iadd, 1) := by decide +kernel
theorem d_law_406 : decode code 406 = .ok (.iaload, 1) := by decide +kernel
theorem d_law_407 : decode code 407 = .ok (.invokevirtual 50, 3) := by decide +kernel
theorem d_law_410 : decode code 410 = .ok (.lcmp, 1) := by decide +kernel
theorem d_law_411 : decode code 411 = .ok (.ifCond .eq (642), 3) := by decide +kernel
theorem d_law_414 : decode code 414 = .ok (.iconst 0, 1) := by decide +kernel
theorem d_law_415 : decode code 415 = .ok (.ireturn, 1) := by decide +kernel
theorem d_law_416 : decode code 416 = .ok (.aload_n 1, 1) := by decide +kernel
theorem d_law_417 : decode code 417 = .ok (.aload_n 0, 1) := by decide +kernel
theorem d_law_418 : decode code 418 = .ok (.iload_n 3, 1) := by decide +kernel
theorem d_law_419 : decode code 419 = .ok (.iconst 1, 1) := by decide +kernel
theorem d_law_420 : decode code 420 = .ok (.iadd, 1) := by decide +kernel
theorem d_law_421 : decode code 421 = .ok (.iaload, 1) := by decide +kernel
theorem d_law_422 : decode code 422 = .ok (.aload_n 0, 1) := by decide +kernel
theorem d_law_423 : decode code 423 = .ok (.iload_n 3, 1) := by decide +kernel
theorem d_law_424 : decode code 424 = .ok (.iconst 2, 1) := by decide +kernel
theorem d_law_425 : decode code 425 = .ok (.iadd, 1) := by decide +kernel
theorem d_law_426 : decode code 426 = .ok (.iaload, 1) := by decide +kernel
theorem d_law_427 : decode code 427 = .ok (.invokevirtual 51, 3) := by decide +kernel
theorem d_law_430 : decode code 430 = .ok (.aload_n 2, 1) := by decide +kernel
theorem d_law_431 : decode code 431 = .ok (.aload_n 0, 1) := by decide +kernel
theorem d_law_432 : decode code 432 = .ok (.iload_n 3, 1) := by decide +kernel
theorem d_law_433 : decode code 433 = .ok (.iconst 1, 1) := by decide +kernel
theorem d_law_434 : decode code 434 = .ok (.iadd, 1) := by decide +kernel
theorem d_law_435 : decode code 435 = .ok (.iaload, 1) := by decide +kernel
theorem d_law_436 : decode code 436 = .ok (.aload_n 0, 1) := by decide +kernel
theorem d_law_437 : decode code 437 = .ok (.iload_n 3, 1) := by decide +kernel
theorem d_law_438 : decode code 438 = .ok (.iconst 2, 1) := by decide +kernel
theorem d_law_439 : decode code 439 = .ok (.iadd, 1) := by decide +kernel
theorem d_law_440 : decode code 440 = .ok (.iaload, 1) := by decide +kernel
theorem d_law_441 : decode code 441 = .ok (.invokevirtual 54, 3) := by decide +kernel
theorem d_law_444 : decode code 444 = .ok (.if_icmp .eq (609), 3) := by decide +kernel
theorem d_law_447 : decode code 447 = .ok (.iconst 0, 1) := by decide +kernel
theorem d_law_448 : decode code 448 = .ok (.ireturn, 1) := by decide +kernel
theorem d_law_449 : decode code 449 = .ok (.aload_n 1, 1) := by decide +kernel
theorem d_law_450 : decode code 450 = .ok (.aload_n 0, 1) := by decide +kernel
theorem d_law_451 : decode code 451 = .ok (.iload_n 3, 1) := by decide +kernel
theorem d_law_452 : decode code 452 = .ok (.iconst 1, 1) := by decide +kernel
theorem d_law_453 : decode code 453 = .ok (.iadd, 1) := by decide +kernel
theorem d_law_454 : decode code 454 = .ok (.iaload, 1) := by decide +kernel
theorem d_law_455 : decode code 455 = .ok (.aload_n 0, 1) := by decide +kernel
theorem d_law_456 : decode code 456 = .ok (.iload_n 3, 1) := by decide +kernel
theorem d_law_457 : decode code 457 = .ok (.iconst 2, 1) := by decide +kernel
theorem d_law_458 : decode code 458 = .ok (.iadd, 1) := by decide +kernel
theorem d_law_459 : decode code 459 = .ok (.iaload, 1) := by decide +kernel
theorem d_law_460 : decode code 460 = .ok (.invokevirtual 55, 3) := by decide +kernel
theorem d_law_463 : decode code 463 = .ok (.aload_n 2, 1) := by decide +kernel
theorem d_law_464 : decode code 464 = .ok (.aload_n 0, 1) := by decide +kernel
theorem d_law_465 : decode code 465 = .ok (.iload_n 3, 1) := by decide +kernel
theorem d_law_466 : decode code 466 = .ok (.iconst 1, 1) := by decide +kernel
theorem d_law_467 : decode code 467 = .ok (.iadd, 1) := by decide +kernel
theorem d_law_468 : decode code 468 = .ok (.iaload, 1) := by decide +kernel
theorem d_law_469 : decode code 469 = .ok (.aload_n 0, 1) := by decide +kernel
theorem d_law_470 : decode code 470 = .ok (.iload_n 3, 1) := by decide +kernel
theorem d_law_471 : decode code 471 = .ok (.iconst 2, 1) := by decide +kernel
theorem d_law_472 : decode code 472 = .ok (.iadd, 1) := by decide +kernel
theorem d_law_473 : decode code 473 = .ok (.iaload, 1) := by decide +kernel
theorem d_law_474 : decode code 474 = .ok (.invokevirtual 58, 3) := by decide +kernel
theorem d_law_477 : decode code 477 = .ok (.if_icmp .eq (576), 3) := by decide +kernel
theorem d_law_480 : decode code 480 = .ok (.iconst 0, 1) := by decide +kernel
theorem d_law_481 : decode code 481 = .ok (.ireturn, 1) := by decide +kernel
theorem d_law_482 : decode code 482 = .ok (.aload_n 1, 1) := by decide +kernel
theorem d_law_483 : decode code 483 = .ok (.aload_n 0, 1) := by decide +kernel
theorem d_law_484 : decode code 484 = .ok (.iload_n 3, 1) := by decide +kernel
theorem d_law_485 : decode code 485 = .ok (.iconst 1, 1) := by decide +kernel
theorem d_law_486 : decode code 486 = .ok (.iadd, 1) := by decide +kernel
theorem d_law_487 : decode code 487 = .ok (.iaload, 1) := by decide +kernel
theorem d_law_488 : decode code 488 = .ok (.aload_n 0, 1) := by decide +kernel
theorem d_law_489 : decode code 489 = .ok (.iload_n 3, 1) := by decide +kernel
theorem d_law_490 : decode code 490 = .ok (.iconst 2, 1) := by decide +kernel
theorem d_law_491 : decode code 491 = .ok (.iadd, 1) := by decide +kernel
theorem d_law_492 : decode code 492 = .ok (.iaload, 1) := by decide +kernel
theorem d_law_493 : decode code 493 = .ok (.ifCond .eq (7), 3) := by decide +kernel
theorem d_law_496 : decode code 496 = .ok (.iconst 1, 1) := by decide +kernel
theorem d_law_497 : decode code 497 = .ok (.goto (4), 3) := by decide +kernel
theorem d_law_500 : decode code 500 = .ok (.iconst 0, 1) := by decide +kernel
theorem d_law_501 : decode code 501 = .ok (.invokevirtual 59, 3) := by decide +kernel
theorem d_law_504 : decode code 504 = .ok (.aload_n 2, 1) := by decide +kernel
theorem d_law_505 : decode code 505 = .ok (.aload_n 0, 1) := by decide +kernel
theorem d_law_506 : decode code 506 = .ok (.iload_n 3, 1) := by decide +kernel
theorem d_law_507 : decode code 507 = .ok (.iconst 1, 1) := by decide +kernel
theorem d_law_508 : decode code 508 = .ok (.iadd, 1) := by decide +kernel
theorem d_law_509 : decode code 509 = .ok (.iaload, 1) := by decide +kernel
theorem d_law_510 : decode code 510 = .ok (.aload_n 0, 1) := by decide +kernel
theorem d_law_511 : decode code 511 = .ok (.iload_n 3, 1) := by decide +kernel
theorem d_law_512 : decode code 512 = .ok (.iconst 2, 1) := by decide +kernel
theorem d_law_513 : decode code 513 = .ok (.iadd, 1) := by decide +kernel
theorem d_law_514 : decode code 514 = .ok (.iaload, 1) := by decide +kernel
theorem d_law_515 : decode code 515 = .ok (.ifCond .eq (7), 3) := by decide +kernel
theorem d_law_518 : decode code 518 = .ok (.iconst 1, 1) := by decide +kernel
theorem d_law_519 : decode code 519 = .ok (.goto (4), 3) := by decide +kernel
theorem d_law_522 : decode code 522 = .ok (.iconst 0, 1) := by decide +kernel
theorem d_law_523 : decode code 523 = .ok (.invokevirtual 63, 3) := by decide +kernel
theorem d_law_526 : decode code 526 = .ok (.if_icmp .eq (527), 3) := by decide +kernel
theorem d_law_529 : decode code 529 = .ok (.iconst 0, 1) := by decide +kernel
theorem d_law_530 : decode code 530 = .ok (.ireturn, 1) := by decide +kernel
theorem d_law_531 : decode code 531 = .ok (.aload_n 1, 1) := by decide +kernel
theorem d_law_532 : decode code 532 = .ok (.aload_n 0, 1) := by decide +kernel
theorem d_law_533 : decode code 533 = .ok (.iload_n 3, 1) := by decide +kernel
theorem d_law_534 : decode code 534 = .ok (.iconst 1, 1) := by decide +kernel
theorem d_law_535 : decode code 535 = .ok (.iadd, 1) := by decide +kernel
theorem d_law_536 : decode code 536 = .ok (.iaload, 1) := by decide +kernel
theorem d_law_537 : decode code 537 = .ok (.aload_n 0, 1) := by decide +kernel
theorem d_law_538 : decode code 538 = .ok (.iload_n 3, 1) := by decide +kernel
theorem d_law_539 : decode code 539 = .ok (.iconst 2, 1) := by decide +kernel
theorem d_law_540 : decode code 540 = .ok (.iadd, 1) := by decide +kernel
theorem d_law_541 : decode code 541 = .ok (.iaload, 1) := by decide +kernel
theorem d_law_542 : decode code 542 = .ok (.invokevirtual 64, 3) := by decide +kernel
theorem d_law_545 : decode code 545 = .ok (.aload_n 2, 1) := by decide +kernel
theorem d_law_546 : decode code 546 = .ok (.aload_n 0, 1) := by decide +kernel
theorem d_law_547 : decode code 547 = .ok (.iload_n 3, 1) := by decide +kernel
theorem d_law_548 : decode code 548 = .ok (.iconst 1, 1) := by decide +kernel
theorem d_law_549 : decode code 549 = .ok (.iadd, 1) := by decide +kernel
theorem d_law_550 : decode code 550 = .ok (.iaload, 1) := by decide +kernel
theorem d_law_551 : decode code 551 = .ok (.aload_n 0, 1) := by decide +kernel
theorem d_law_552 : decode code 552 = .ok (.iload_n 3, 1) := by decide +kernel
theorem d_law_553 : decode code 553 = .ok (.iconst 2, 1) := by decide +kernel
theorem d_law_554 : decode code 554 = .ok (.iadd, 1) := by decide +kernel
theorem d_law_555 : decode code 555 = .ok (.iaload, 1) := by decide +kernel
theorem d_law_556 : decode code 556 = .ok (.invokevirtual 68, 3) := by decide +kernel
theorem d_law_559 : decode code 559 = .ok (.if_icmp .eq (494), 3) := by decide +kernel
theorem d_law_562 : decode code 562 = .ok (.iconst 0, 1) := by decide +kernel
theorem d_law_563 : decode code 563 = .ok (.ireturn, 1) := by decide +kernel
theorem d_law_564 : decode code 564 = .ok (.aload_n 1, 1) := by decide +kernel
theorem d_law_565 : decode code 565 = .ok (.aload_n 0, 1) := by decide +kernel
theorem d_law_566 : decode code 566 = .ok (.iload_n 3, 1) := by decide +kernel
theorem d_law_567 : decode code 567 = .ok (.iconst 1, 1) := by decide +kernel
theorem d_law_568 : decode code 568 = .ok (.iadd, 1) := by decide +kernel
theorem d_law_569 : decode code 569 = .ok (.iaload, 1) := by decide +kernel
theorem d_law_570 : decode code 570 = .ok (.aload_n 0, 1) := by decide +kernel
theorem d_law_571 : decode code 571 = .ok (.iload_n 3, 1) := by decide +kernel
theorem d_law_572 : decode code 572 = .ok (.iconst 2, 1) := by decide +kernel
theorem d_law_573 : decode code 573 = .ok (.iadd, 1) := by decide +kernel
theorem d_law_574 : decode code 574 = .ok (.iaload, 1) := by decide +kernel
theorem d_law_575 : decode code 575 = .ok (.invokevirtual 69, 3) := by decide +kernel
theorem d_law_578 : decode code 578 = .ok (.aload_n 2, 1) := by decide +kernel
theorem d_law_579 : decode code 579 = .ok (.aload_n 0, 1) := by decide +kernel
theorem d_law_580 : decode code 580 = .ok (.iload_n 3, 1) := by decide +kernel
theorem d_law_581 : decode code 581 = .ok (.iconst 1, 1) := by decide +kernel
theorem d_law_582 : decode code 582 = .ok (.iadd, 1) := by decide +kernel
theorem d_law_583 : decode code 583 = .ok (.iaload, 1) := by decide +kernel
theorem d_law_584 : decode code 584 = .ok (.aload_n 0, 1) := by decide +kernel
theorem d_law_585 : decode code 585 = .ok (.iload_n 3, 1) := by decide +kernel
theorem d_law_586 : decode code 586 = .ok (.iconst 2, 1) := by decide +kernel
theorem d_law_587 : decode code 587 = .ok (.iadd, 1) := by decide +kernel
theorem d_law_588 : decode code 588 = .ok (.iaload, 1) := by decide +kernel
theorem d_law_589 : decode code 589 = .ok (.invokevirtual 72, 3) := by decide +kernel
theorem d_law_592 : decode code 592 = .ok (.if_icmp .eq (461), 3) := by decide +kernel
theorem d_law_595 : decode code 595 = .ok (.iconst 0, 1) := by decide +kernel
theorem d_law_596 : decode code 596 = .ok (.ireturn, 1) := by decide +kernel
theorem d_law_597 : decode code 597 = .ok (.aload_n 1, 1) := by decide +kernel
theorem d_law_598 : decode code 598 = .ok (.aload_n 0, 1) := by decide +kernel
theorem d_law_599 : decode code 599 = .ok (.iload_n 3, 1) := by decide +kernel
theorem d_law_600 : decode code 600 = .ok (.iconst 1, 1) := by decide +kernel
theorem d_law_601 : decode code 601 = .ok (.iadd, 1) := by decide +kernel
theorem d_law_602 : decode code 602 = .ok (.iaload, 1) := by decide +kernel
theorem d_law_603 : decode code 603 = .ok (.aload_n 0, 1) := by decide +kernel
theorem d_law_604 : decode code 604 = .ok (.iload_n 3, 1) := by decide +kernel
theorem d_law_605 : decode code 605 = .ok (.iconst 2, 1) := by decide +kernel
theorem d_law_606 : decode code 606 = .ok (.iadd, 1) := by decide +kernel
theorem d_law_607 : decode code 607 = .ok (.iaload, 1) := by decide +kernel
theorem d_law_608 : decode code 608 = .ok (.invokevirtual 73, 3) := by decide +kernel
theorem d_law_611 : decode code 611 = .ok (.aload_n 2, 1) := by decide +kernel
theorem d_law_612 : decode code 612 = .ok (.aload_n 0, 1) := by decide +kernel
theorem d_law_613 : decode code 613 = .ok (.iload_n 3, 1) := by decide +kernel
theorem d_law_614 : decode code 614 = .ok (.iconst 1, 1) := by decide +kernel
theorem d_law_615 : decode code 615 = .ok (.iadd, 1) := by decide +kernel
theorem d_law_616 : decode code 616 = .ok (.iaload, 1) := by decide +kernel
theorem d_law_617 : decode code 617 = .ok (.aload_n 0, 1) := by decide +kernel
theorem d_law_618 : decode code 618 = .ok (.iload_n 3, 1) := by decide +kernel
theorem d_law_619 : decode code 619 = .ok (.iconst 2, 1) := by decide +kernel
theorem d_law_620 : decode code 620 = .ok (.iadd, 1) := by decide +kernel
theorem d_law_621 : decode code 621 = .ok (.iaload, 1) := by decide +kernel
theorem d_law_622 : decode code 622 = .ok (.invokevirtual 76, 3) := by decide +kernel
theorem d_law_625 : decode code 625 = .ok (.if_icmp .eq (428), 3) := by decide +kernel
theorem d_law_628 : decode code 628 = .ok (.iconst 0, 1) := by decide +kernel
theorem d_law_629 : decode code 629 = .ok (.ireturn, 1) := by decide +kernel
theorem d_law_630 : decode code 630 = .ok (.aload_n 1, 1) := by decide +kernel
theorem d_law_631 : decode code 631 = .ok (.aload_n 0, 1) := by decide +kernel
theorem d_law_632 : decode code 632 = .ok (.iload_n 3, 1) := by decide +kernel
theorem d_law_633 : decode code 633 = .ok (.iconst 1, 1) := by decide +kernel
theorem d_law_634 : decode code 634 = .ok (.iadd, 1) := by decide +kernel
theorem d_law_635 : decode code 635 = .ok (.iaload, 1) := by decide +kernel
theorem d_law_636 : decode code 636 = .ok (.aload_n 0, 1) := by decide +kernel
theorem d_law_637 : decode code 637 = .ok (.iload_n 3, 1) := by decide +kernel
theorem d_law_638 : decode code 638 = .ok (.iconst 2, 1) := by decide +kernel
theorem d_law_639 : decode code 639 = .ok (.iadd, 1) := by decide +kernel
theorem d_law_640 : decode code 640 = .ok (.iaload, 1) := by decide +kernel
theorem d_law_641 : decode code 641 = .ok (.aload_n 0, 1) := by decide +kernel
theorem d_law_642 : decode code 642 = .ok (.iload_n 3, 1) := by decide +kernel
theorem d_law_643 : decode code 643 = .ok (.iconst 3, 1) := by decide +kernel
theorem d_law_644 : decode code 644 = .ok (.iadd, 1) := by decide +kernel
theorem d_law_645 : decode code 645 = .ok (.iaload, 1) := by decide +kernel
theorem d_law_646 : decode code 646 = .ok (.invokevirtual 77, 3) := by decide +kernel
theorem d_law_649 : decode code 649 = .ok (.aload_n 2, 1) := by decide +kernel
theorem d_law_650 : decode code 650 = .ok (.aload_n 0, 1) := by decide +kernel
theorem d_law_651 : decode code 651 = .ok (.iload_n 3, 1) := by decide +kernel
theorem d_law_652 : decode code 652 = .ok (.iconst 1, 1) := by decide +kernel
theorem d_law_653 : decode code 653 = .ok (.iadd, 1) := by decide +kernel
theorem d_law_654 : decode code 654 = .ok (.iaload, 1) := by decide +kernel
theorem d_law_655 : decode code 655 = .ok (.aload_n 0, 1) := by decide +kernel
theorem d_law_656 : decode code 656 = .ok (.iload_n 3, 1) := by decide +kernel
theorem d_law_657 : decode code 657 = .ok (.iconst 2, 1) := by decide +kernel
theorem d_law_658 : decode code 658 = .ok (.iadd, 1) := by decide +kernel
theorem d_law_659 : decode code 659 = .ok (.iaload, 1) := by decide +kernel
theorem d_law_660 : decode code 660 = .ok (.aload_n 0, 1) := by decide +kernel
theorem d_law_661 : decode code 661 = .ok (.iload_n 3, 1) := by decide +kernel
theorem d_law_662 : decode code 662 = .ok (.iconst 3, 1) := by decide +kernel
theorem d_law_663 : decode code 663 = .ok (.iadd, 1) := by decide +kernel
theorem d_law_664 : decode code 664 = .ok (.iaload, 1) := by decide +kernel
theorem d_law_665 : decode code 665 = .ok (.invokevirtual 81, 3) := by decide +kernel
theorem d_law_668 : decode code 668 = .ok (.if_icmp .eq (385), 3) := by decide +kernel
theorem d_law_671 : decode code 671 = .ok (.iconst 0, 1) := by decide +kernel
theorem d_law_672 : decode code 672 = .ok (.ireturn, 1) := by decide +kernel
theorem d_law_673 : decode code 673 = .ok (.aload_n 1, 1) := by decide +kernel
theorem d_law_674 : decode code 674 = .ok (.aload_n 0, 1) := by decide +kernel
theorem d_law_675 : decode code 675 = .ok (.iload_n 3, 1) := by decide +kernel
theorem d_law_676 : decode code 676 = .ok (.iconst 1, 1) := by decide +kernel
theorem d_law_677 : decode code 677 = .ok (.iadd, 1) := by decide +kernel
theorem d_law_678 : decode code 678 = .ok (.iaload, 1) := by decide +kernel
theorem d_law_679 : decode code 679 = .ok (.aload_n 0, 1) := by decide +kernel
theorem d_law_680 : decode code 680 = .ok (.iload_n 3, 1) := by decide +kernel
theorem d_law_681 : decode code 681 = .ok (.iconst 2, 1) := by decide +kernel
theorem d_law_682 : decode code 682 = .ok (.iadd, 1) := by decide +kernel
theorem d_law_683 : decode code 683 = .ok (.iaload, 1) := by decide +kernel
theorem d_law_684 : decode code 684 = .ok (.invokevirtual 82, 3) := by decide +kernel
theorem d_law_687 : decode code 687 = .ok (.aload_n 2, 1) := by decide +kernel
theorem d_law_688 : decode code 688 = .ok (.aload_n 0, 1) := by decide +kernel
theorem d_law_689 : decode code 689 = .ok (.iload_n 3, 1) := by decide +kernel
theorem d_law_690 : decode code 690 = .ok (.iconst 1, 1) := by decide +kernel
theorem d_law_691 : decode code 691 = .ok (.iadd, 1) := by decide +kernel
theorem d_law_692 : decode code 692 = .ok (.iaload, 1) := by decide +kernel
theorem d_law_693 : decode code 693 = .ok (.aload_n 0, 1) := by decide +kernel
theorem d_law_694 : decode code 694 = .ok (.iload_n 3, 1) := by decide +kernel
theorem d_law_695 : decode code 695 = .ok (.iconst 2, 1) := by decide +kernel
theorem d_law_696 : decode code 696 = .ok (.iadd, 1) := by decide +kernel
theorem d_law_697 : decode code 697 = .ok (.iaload, 1) := by decide +kernel
theorem d_law_698 : decode code 698 = .ok (.invokevirtual 85, 3) := by decide +kernel
theorem d_law_701 : decode code 701 = .ok (.if_icmp .eq (352), 3) := by decide +kernel
theorem d_law_704 : decode code 704 = .ok (.iconst 0, 1) := by decide +kernel
theorem d_law_705 : decode code 705 = .ok (.ireturn, 1) := by decide +kernel
theorem d_law_706 : decode code 706 = .ok (.aload_n 1, 1) := by decide +kernel
theorem d_law_707 : decode code 707 = .ok (.aload_n 0, 1) := by decide +kernel
theorem d_law_708 : decode code 708 = .ok (.iload_n 3, 1) := by decide +kernel
theorem d_law_709 : decode code 709 = .ok (.iconst 1, 1) := by decide +kernel
theorem d_law_710 : decode code 710 = .ok (.iadd, 1) := by decide +kernel
theorem d_law_711 : decode code 711 = .ok (.iaload, 1) := by decide +kernel
theorem d_law_712 : decode code 712 = .ok (.invokevirtual 86, 3) := by decide +kernel
theorem d_law_715 : decode code 715 = .ok (.aload_n 2, 1) := by decide +kernel
theorem d_law_716 : decode code 716 = .ok (.aload_n 0, 1) := by decide +kernel
theorem d_law_717 : decode code 717 = .ok (.iload_n 3, 1) := by decide +kernel
theorem d_law_718 : decode code 718 = .ok (.iconst 1, 1) := by decide +kernel
theorem d_law_719 : decode code 719 = .ok (.iadd, 1) := by decide +kernel
theorem d_law_720 : decode code 720 = .ok (.iaload, 1) := by decide +kernel
theorem d_law_721 : decode code 721 = .ok (.invokevirtual 89, 3) := by decide +kernel
theorem d_law_724 : decode code 724 = .ok (.if_icmp .eq (329), 3) := by decide +kernel
theorem d_law_727 : decode code 727 = .ok (.iconst 0, 1) := by decide +kernel
theorem d_law_728 : decode code 728 = .ok (.ireturn, 1) := by decide +kernel
theorem d_law_729 : decode code 729 = .ok (.aload_n 1, 1) := by decide +kernel
theorem d_law_730 : decode code 730 = .ok (.aload_n 0, 1) := by decide +kernel
theorem d_law_731 : decode code 731 = .ok (.iload_n 3, 1) := by decide +kernel
theorem d_law_732 : decode code 732 = .ok (.iconst 1, 1) := by decide +kernel
theorem d_law_733 : decode code 733 = .ok (.iadd, 1) := by decide +kernel
theorem d_law_734 : decode code 734 = .ok (.iaload, 1) := by decide +kernel
theorem d_law_735 : decode code 735 = .ok (.aload_n 0, 1) := by decide +kernel
theorem d_law_736 : decode code 736 = .ok (.iload_n 3, 1) := by decide +kernel
theorem d_law_737 : decode code 737 = .ok (.iconst 2, 1) := by decide +kernel
theorem d_law_738 : decode code 738 = .ok (.iadd, 1) := by decide +kernel
theorem d_law_739 : decode code 739 = .ok (.iaload, 1) := by decide +kernel
theorem d_law_740 : decode code 740 = .ok (.invokevirtual 90, 3) := by decide +kernel
theorem d_law_743 : decode code 743 = .ok (.aload_n 2, 1) := by decide +kernel
theorem d_law_744 : decode code 744 = .ok (.aload_n 0, 1) := by decide +kernel
theorem d_law_745 : decode code 745 = .ok (.iload_n 3, 1) := by decide +kernel
theorem d_law_746 : decode code 746 = .ok (.iconst 1, 1) := by decide +kernel
theorem d_law_747 : decode code 747 = .ok (.iadd, 1) := by decide +kernel
theorem d_law_748 : decode code 748 = .ok (.iaload, 1) := by decide +kernel
theorem d_law_749 : decode code 749 = .ok (.aload_n 0, 1) := by decide +kernel
theorem d_law_750 : decode code 750 = .ok (.iload_n 3, 1) := by decide +kernel
theorem d_law_751 : decode code 751 = .ok (.iconst 2, 1) := by decide +kernel
theorem d_law_752 : decode code 752 = .ok (.iadd, 1) := by decide +kernel
theorem d_law_753 : decode code 753 = .ok (.iaload, 1) := by decide +kernel
theorem d_law_754 : decode code 754 = .ok (.invokevirtual 93, 3) := by decide +kernel
theorem d_law_757 : decode code 757 = .ok (.if_icmp .eq (296), 3) := by decide +kernel
theorem d_law_760 : decode code 760 = .ok (.iconst 0, 1) := by decide +kernel
theorem d_law_761 : decode code 761 = .ok (.ireturn, 1) := by decide +kernel
theorem d_law_762 : decode code 762 = .ok (.aload_n 1, 1) := by decide +kernel
theorem d_law_763 : decode code 763 = .ok (.aload_n 0, 1) := by decide +kernel
theorem d_law_764 : decode code 764 = .ok (.iload_n 3, 1) := by decide +kernel
theorem d_law_765 : decode code 765 = .ok (.iconst 1, 1) := by decide +kernel
theorem d_law_766 : decode code 766 = .ok (.iadd, 1) := by decide +kernel
theorem d_law_767 : decode code 767 = .ok (.iaload, 1) := by decide +kernel
theorem d_law_768 : decode code 768 = .ok (.invokevirtual 94, 3) := by decide +kernel
theorem d_law_771 : decode code 771 = .ok (.aload_n 2, 1) := by decide +kernel
theorem d_law_772 : decode code 772 = .ok (.aload_n 0, 1) := by decide +kernel
theorem d_law_773 : decode code 773 = .ok (.iload_n 3, 1) := by decide +kernel
theorem d_law_774 : decode code 774 = .ok (.iconst 1, 1) := by decide +kernel
theorem d_law_775 : decode code 775 = .ok (.iadd, 1) := by decide +kernel
theorem d_law_776 : decode code 776 = .ok (.iaload, 1) := by decide +kernel
theorem d_law_777 : decode code 777 = .ok (.invokevirtual 97, 3) := by decide +kernel
theorem d_law_780 : decode code 780 = .ok (.if_icmp .eq (273), 3) := by decide +kernel
theorem d_law_783 : decode code 783 = .ok (.iconst 0, 1) := by decide +kernel
theorem d_law_784 : decode code 784 = .ok (.ireturn, 1) := by decide +kernel
theorem d_law_785 : decode code 785 = .ok (.aload_n 1, 1) := by decide +kernel
theorem d_law_786 : decode code 786 = .ok (.aload_n 0, 1) := by decide +kernel
theorem d_law_787 : decode code 787 = .ok (.iload_n 3, 1) := by decide +kernel
theorem d_law_788 : decode code 788 = .ok (.iconst 1, 1) := by decide +kernel
theorem d_law_789 : decode code 789 = .ok (.iadd, 1) := by decide +kernel
theorem d_law_790 : decode code 790 = .ok (.iaload, 1) := by decide +kernel
theorem d_law_791 : decode code 791 = .ok (.invokevirtual 98, 3) := by decide +kernel
theorem d_law_794 : decode code 794 = .ok (.aload_n 2, 1) := by decide +kernel
theorem d_law_795 : decode code 795 = .ok (.aload_n 0, 1) := by decide +kernel
theorem d_law_796 : decode code 796 = .ok (.iload_n 3, 1) := by decide +kernel
theorem d_law_797 : decode code 797 = .ok (.iconst 1, 1) := by decide +kernel
theorem d_law_798 : decode code 798 = .ok (.iadd, 1) := by decide +kernel
theorem d_law_799 : decode code 799 = .ok (.iaload, 1) := by decide +kernel
theorem d_law_800 : decode code 800 = .ok (.invokevirtual 101, 3) := by decide +kernel
theorem d_law_803 : decode code 803 = .ok (.if_icmp .eq (250), 3) := by decide +kernel
theorem d_law_806 : decode code 806 = .ok (.iconst 0, 1) := by decide +kernel
theorem d_law_807 : decode code 807 = .ok (.ireturn, 1) := by decide +kernel
theorem d_law_808 : decode code 808 = .ok (.aload_n 1, 1) := by decide +kernel
theorem d_law_809 : decode code 809 = .ok (.aload_n 0, 1) := by decide +kernel
theorem d_law_810 : decode code 810 = .ok (.iload_n 3, 1) := by decide +kernel
theorem d_law_811 : decode code 811 = .ok (.iconst 1, 1) := by decide +kernel
theorem d_law_812 : decode code 812 = .ok (.iadd, 1) := by decide +kernel
theorem d_law_813 : decode code 813 = .ok (.iaload, 1) := by decide +kernel
theorem d_law_814 : decode code 814 = .ok (.invokevirtual 102, 3) := by decide +kernel
theorem d_law_817 : decode code 817 = .ok (.aload_n 2, 1) := by decide +kernel
theorem d_law_818 : decode code 818 = .ok (.aload_n 0, 1) := by decide +kernel
theorem d_law_819 : decode code 819 = .ok (.iload_n 3, 1) := by decide +kernel
theorem d_law_820 : decode code 820 = .ok (.iconst 1, 1) := by decide +kernel
theorem d_law_821 : decode code 821 = .ok (.iadd, 1) := by decide +kernel
theorem d_law_822 : decode code 822 = .ok (.iaload, 1) := by decide +kernel
theorem d_law_823 : decode code 823 = .ok (.invokevirtual 105, 3) := by decide +kernel
theorem d_law_826 : decode code 826 = .ok (.if_icmp .eq (227), 3) := by decide +kernel
theorem d_law_829 : decode code 829 = .ok (.iconst 0, 1) := by decide +kernel
theorem d_law_830 : decode code 830 = .ok (.ireturn, 1) := by decide +kernel
theorem d_law_831 : decode code 831 = .ok (.aload_n 1, 1) := by decide +kernel
theorem d_law_832 : decode code 832 = .ok (.aload_n 0, 1) := by decide +kernel
theorem d_law_833 : decode code 833 = .ok (.iload_n 3, 1) := by decide +kernel
theorem d_law_834 : decode code 834 = .ok (.iconst 1, 1) := by decide +kernel
theorem d_law_835 : decode code 835 = .ok (.iadd, 1) := by decide +kernel
theorem d_law_836 : decode code 836 = .ok (.iaload, 1) := by decide +kernel
theorem d_law_837 : decode code 837 = .ok (.aload_n 0, 1) := by decide +kernel
theorem d_law_838 : decode code 838 = .ok (.iload_n 3, 1) := by decide +kernel
theorem d_law_839 : decode code 839 = .ok (.iconst 2, 1) := by decide +kernel
theorem d_law_840 : decode code 840 = .ok (.iadd, 1) := by decide +kernel
theorem d_law_841 : decode code 841 = .ok (.iaload, 1) := by decide +kernel
theorem d_law_842 : decode code 842 = .ok (.invokevirtual 106, 3) := by decide +kernel
theorem d_law_845 : decode code 845 = .ok (.aload_n 2, 1) := by decide +kernel
theorem d_law_846 : decode code 846 = .ok (.aload_n 0, 1) := by decide +kernel
theorem d_law_847 : decode code 847 = .ok (.iload_n 3, 1) := by decide +kernel
theorem d_law_848 : decode code 848 = .ok (.iconst 1, 1) := by decide +kernel
theorem d_law_849 : decode code 849 = .ok (.iadd, 1) := by decide +kernel
theorem d_law_850 : decode code 850 = .ok (.iaload, 1) := by decide +kernel
theorem d_law_851 : decode code 851 = .ok (.aload_n 0, 1) := by decide +kernel
theorem d_law_852 : decode code 852 = .ok (.iload_n 3, 1) := by decide +kernel
theorem d_law_853 : decode code 853 = .ok (.iconst 2, 1) := by decide +kernel
theorem d_law_854 : decode code 854 = .ok (.iadd, 1) := by decide +kernel
theorem d_law_855 : decode code 855 = .ok (.iaload, 1) := by decide +kernel
theorem d_law_856 : decode code 856 = .ok (.invokevirtual 109, 3) := by decide +kernel
theorem d_law_859 : decode code 859 = .ok (.if_icmp .eq (194), 3) := by decide +kernel
theorem d_law_862 : decode code 862 = .ok (.iconst 0, 1) := by decide +kernel
theorem d_law_863 : decode code 863 = .ok (.ireturn, 1) := by decide +kernel
theorem d_law_864 : decode code 864 = .ok (.aload_n 1, 1) := by decide +kernel
theorem d_law_865 : decode code 865 = .ok (.aload_n 0, 1) := by decide +kernel
theorem d_law_866 : decode code 866 = .ok (.iload_n 3, 1) := by decide +kernel
theorem d_law_867 : decode code 867 = .ok (.iconst 1, 1) := by decide +kernel
theorem d_law_868 : decode code 868 = .ok (.iadd, 1) := by decide +kernel
theorem d_law_869 : decode code 869 = .ok (.iaload, 1) := by decide +kernel
theorem d_law_870 : decode code 870 = .ok (.aload_n 0, 1) := by decide +kernel
theorem d_law_871 : decode code 871 = .ok (.iload_n 3, 1) := by decide +kernel
theorem d_law_872 : decode code 872 = .ok (.iconst 2, 1) := by decide +kernel
theorem d_law_873 : decode code 873 = .ok (.iadd, 1) := by decide +kernel
theorem d_law_874 : decode code 874 = .ok (.iaload, 1) := by decide +kernel
theorem d_law_875 : decode code 875 = .ok (.aload_n 0, 1) := by decide +kernel
theorem d_law_876 : decode code 876 = .ok (.iload_n 3, 1) := by decide +kernel
theorem d_law_877 : decode code 877 = .ok (.iconst 3, 1) := by decide +kernel
theorem d_law_878 : decode code 878 = .ok (.iadd, 1) := by decide +kernel
theorem d_law_879 : decode code 879 = .ok (.iaload, 1) := by decide +kernel
theorem d_law_880 : decode code 880 = .ok (.invokevirtual 110, 3) := by decide +kernel
theorem d_law_883 : decode code 883 = .ok (.aload_n 2, 1) := by decide +kernel
theorem d_law_884 : decode code 884 = .ok (.aload_n 0, 1) := by decide +kernel
theorem d_law_885 : decode code 885 = .ok (.iload_n 3, 1) := by decide +kernel
theorem d_law_886 : decode code 886 = .ok (.iconst 1, 1) := by decide +kernel
theorem d_law_887 : decode code 887 = .ok (.iadd, 1) := by decide +kernel
theorem d_law_888 : decode code 888 = .ok (.iaload, 1) := by decide +kernel
theorem d_law_889 : decode code 889 = .ok (.aload_n 0, 1) := by decide +kernel
theorem d_law_890 : decode code 890 = .ok (.iload_n 3, 1) := by decide +kernel
theorem d_law_891 : decode code 891 = .ok (.iconst 2, 1) := by decide +kernel
theorem d_law_892 : decode code 892 = .ok (.iadd, 1) := by decide +kernel
theorem d_law_893 : decode code 893 = .ok (.iaload, 1) := by decide +kernel
theorem d_law_894 : decode code 894 = .ok (.aload_n 0, 1) := by decide +kernel
theorem d_law_895 : decode code 895 = .ok (.iload_n 3, 1) := by decide +kernel
theorem d_law_896 : decode code 896 = .ok (.iconst 3, 1) := by decide +kernel
theorem d_law_897 : decode code 897 = .ok (.iadd, 1) := by decide +kernel
theorem d_law_898 : decode code 898 = .ok (.iaload, 1) := by decide +kernel
theorem d_law_899 : decode code 899 = .ok (.invokevirtual 113, 3) := by decide +kernel
theorem d_law_902 : decode code 902 = .ok (.lcmp, 1) := by decide +kernel
theorem d_law_903 : decode code 903 = .ok (.ifCond .eq (150), 3) := by decide +kernel
theorem d_law_906 : decode code 906 = .ok (.iconst 0, 1) := by decide +kernel
theorem d_law_907 : decode code 907 = .ok (.ireturn, 1) := by decide +kernel
theorem d_law_908 : decode code 908 = .ok (.aload_n 1, 1) := by decide +kernel
theorem d_law_909 : decode code 909 = .ok (.aload_n 0, 1) := by decide +kernel
theorem d_law_910 : decode code 910 = .ok (.iload_n 3, 1) := by decide +kernel
theorem d_law_911 : decode code 911 = .ok (.iconst 1, 1) := by decide +kernel
theorem d_law_912 : decode code 912 = .ok (.iadd, 1) := by decide +kernel
theorem d_law_913 : decode code 913 = .ok (.iaload, 1) := by decide +kernel
theorem d_law_914 : decode code 914 = .ok (.invokevirtual 114, 3) := by decide +kernel
theorem d_law_917 : decode code 917 = .ok (.aload_n 2, 1) := by decide +kernel
theorem d_law_918 : decode code 918 = .ok (.aload_n 0, 1) := by decide +kernel
theorem d_law_919 : decode code 919 = .ok (.iload_n 3, 1) := by decide +kernel
theorem d_law_920 : decode code 920 = .ok (.iconst 1, 1) := by decide +kernel
theorem d_law_921 : decode code 921 = .ok (.iadd, 1) := by decide +kernel
theorem d_law_922 : decode code 922 = .ok (.iaload, 1) := by decide +kernel
theorem d_law_923 : decode code 923 = .ok (.invokevirtual 117, 3) := by decide +kernel
theorem d_law_926 : decode code 926 = .ok (.if_icmp .eq (127), 3) := by decide +kernel
theorem d_law_929 : decode code 929 = .ok (.iconst 0, 1) := by decide +kernel
theorem d_law_930 : decode code 930 = .ok (.ireturn, 1) := by decide +kernel
theorem d_law_931 : decode code 931 = .ok (.aload_n 1, 1) := by decide +kernel
theorem d_law_932 : decode code 932 = .ok (.aload_n 0, 1) := by decide +kernel
theorem d_law_933 : decode code 933 = .ok (.iload_n 3, 1) := by decide +kernel
theorem d_law_934 : decode code 934 = .ok (.iconst 1, 1) := by decide +kernel
theorem d_law_935 : decode code 935 = .ok (.iadd, 1) := by decide +kernel
theorem d_law_936 : decode code 936 = .ok (.iaload, 1) := by decide +kernel
theorem d_law_937 : decode code 937 = .ok (.aload_n 0, 1) := by decide +kernel
theorem d_law_938 : decode code 938 = .ok (.iload_n 3, 1) := by decide +kernel
theorem d_law_939 : decode code 939 = .ok (.iconst 2, 1) := by decide +kernel
theorem d_law_940 : decode code 940 = .ok (.iadd, 1) := by decide +kernel
theorem d_law_941 : decode code 941 = .ok (.iaload, 1) := by decide +kernel
theorem d_law_942 : decode code 942 = .ok (.aload_n 0, 1) := by decide +kernel
theorem d_law_943 : decode code 943 = .ok (.iload_n 3, 1) := by decide +kernel
theorem d_law_944 : decode code 944 = .ok (.iconst 3, 1) := by decide +kernel
theorem d_law_945 : decode code 945 = .ok (.iadd, 1) := by decide +kernel
theorem d_law_946 : decode code 946 = .ok (.iaload, 1) := by decide +kernel
theorem d_law_947 : decode code 947 = .ok (.aload_n 0, 1) := by decide +kernel
theorem d_law_948 : decode code 948 = .ok (.iload_n 3, 1) := by decide +kernel
theorem d_law_949 : decode code 949 = .ok (.iconst 4, 1) := by decide +kernel
theorem d_law_950 : decode code 950 = .ok (.iadd, 1) := by decide +kernel
theorem d_law_951 : decode code 951 = .ok (.iaload, 1) := by decide +kernel
theorem d_law_952 : decode code 952 = .ok (.invokevirtual 118, 3) := by decide +kernel
theorem d_law_955 : decode code 955 = .ok (.aload_n 2, 1) := by decide +kernel
theorem d_law_956 : decode code 956 = .ok (.aload_n 0, 1) := by decide +kernel
theorem d_law_957 : decode code 957 = .ok (.iload_n 3, 1) := by decide +kernel
theorem d_law_958 : decode code 958 = .ok (.iconst 1, 1) := by decide +kernel
theorem d_law_959 : decode code 959 = .ok (.iadd, 1) := by decide +kernel
theorem d_law_960 : decode code 960 = .ok (.iaload, 1) := by decide +kernel
theorem d_law_961 : decode code 961 = .ok (.aload_n 0, 1) := by decide +kernel
theorem d_law_962 : decode code 962 = .ok (.iload_n 3, 1) := by decide +kernel
theorem d_law_963 : decode code 963 = .ok (.iconst 2, 1) := by decide +kernel
theorem d_law_964 : decode code 964 = .ok (.iadd, 1) := by decide +kernel
theorem d_law_965 : decode code 965 = .ok (.iaload, 1) := by decide +kernel
theorem d_law_966 : decode code 966 = .ok (.aload_n 0, 1) := by decide +kernel
theorem d_law_967 : decode code 967 = .ok (.iload_n 3, 1) := by decide +kernel
theorem d_law_968 : decode code 968 = .ok (.iconst 3, 1) := by decide +kernel
theorem d_law_969 : decode code 969 = .ok (.iadd, 1) := by decide +kernel
theorem d_law_970 : decode code 970 = .ok (.iaload, 1) := by decide +kernel
theorem d_law_971 : decode code 971 = .ok (.aload_n 0, 1) := by decide +kernel
theorem d_law_972 : decode code 972 = .ok (.iload_n 3, 1) := by decide +kernel
theorem d_law_973 : decode code 973 = .ok (.iconst 4, 1) := by decide +kernel
theorem d_law_974 : decode code 974 = .ok (.iadd, 1) := by decide +kernel
theorem d_law_975 : decode code 975 = .ok (.iaload, 1) := by decide +kernel
theorem d_law_976 : decode code 976 = .ok (.invokevirtual 122, 3) := by decide +kernel
theorem d_law_979 : decode code 979 = .ok (.if_icmp .eq (74), 3) := by decide +kernel
theorem d_law_982 : decode code 982 = .ok (.iconst 0, 1) := by decide +kernel
theorem d_law_983 : decode code 983 = .ok (.ireturn, 1) := by decide +kernel
theorem d_law_984 : decode code 984 = .ok (.aload_n 1, 1) := by decide +kernel
theorem d_law_985 : decode code 985 = .ok (.aload_n 0, 1) := by decide +kernel
theorem d_law_986 : decode code 986 = .ok (.iload_n 3, 1) := by decide +kernel
theorem d_law_987 : decode code 987 = .ok (.iconst 1, 1) := by decide +kernel
theorem d_law_988 : decode code 988 = .ok (.iadd, 1) := by decide +kernel
theorem d_law_989 : decode code 989 = .ok (.iaload, 1) := by decide +kernel
theorem d_law_990 : decode code 990 = .ok (.invokevirtual 123, 3) := by decide +kernel
theorem d_law_993 : decode code 993 = .ok (.aload_n 2, 1) := by decide +kernel
theorem d_law_994 : decode code 994 = .ok (.aload_n 0, 1) := by decide +kernel
theorem d_law_995 : decode code 995 = .ok (.iload_n 3, 1) := by decide +kernel
theorem d_law_996 : decode code 996 = .ok (.iconst 1, 1) := by decide +kernel
theorem d_law_997 : decode code 997 = .ok (.iadd, 1) := by decide +kernel
theorem d_law_998 : decode code 998 = .ok (.iaload, 1) := by decide +kernel
theorem d_law_999 : decode code 999 = .ok (.invokevirtual 126, 3) := by decide +kernel
theorem d_law_1002 : decode code 1002 = .ok (.if_icmp .eq (51), 3) := by decide +kernel
theorem d_law_1005 : decode code 1005 = .ok (.iconst 0, 1) := by decide +kernel
theorem d_law_1006 : decode code 1006 = .ok (.ireturn, 1) := by decide +kernel
theorem d_law_1007 : decode code 1007 = .ok (.aload_n 1, 1) := by decide +kernel
theorem d_law_1008 : decode code 1008 = .ok (.aload_n 0, 1) := by decide +kernel
theorem d_law_1009 : decode code 1009 = .ok (.iload_n 3, 1) := by decide +kernel
theorem d_law_1010 : decode code 1010 = .ok (.iconst 1, 1) := by decide +kernel
theorem d_law_1011 : decode code 1011 = .ok (.iadd, 1) := by decide +kernel
theorem d_law_1012 : decode code 1012 = .ok (.iaload, 1) := by decide +kernel
theorem d_law_1013 : decode code 1013 = .ok (.invokevirtual 127, 3) := by decide +kernel
theorem d_law_1016 : decode code 1016 = .ok (.aload_n 2, 1) := by decide +kernel
theorem d_law_1017 : decode code 1017 = .ok (.aload_n 0, 1) := by decide +kernel
theorem d_law_1018 : decode code 1018 = .ok (.iload_n 3, 1) := by decide +kernel
theorem d_law_1019 : decode code 1019 = .ok (.iconst 1, 1) := by decide +kernel
theorem d_law_1020 : decode code 1020 = .ok (.iadd, 1) := by decide +kernel
theorem d_law_1021 : decode code 1021 = .ok (.iaload, 1) := by decide +kernel
theorem d_law_1022 : decode code 1022 = .ok (.invokevirtual 130, 3) := by decide +kernel
theorem d_law_1025 : decode code 1025 = .ok (.if_icmp .eq (28), 3) := by decide +kernel
theorem d_law_1028 : decode code 1028 = .ok (.iconst 0, 1) := by decide +kernel
theorem d_law_1029 : decode code 1029 = .ok (.ireturn, 1) := by decide +kernel
theorem d_law_1030 : decode code 1030 = .ok (.aload_n 1, 1) := by decide +kernel
theorem d_law_1031 : decode code 1031 = .ok (.aload_n 0, 1) := by decide +kernel
theorem d_law_1032 : decode code 1032 = .ok (.iload_n 3, 1) := by decide +kernel
theorem d_law_1033 : decode code 1033 = .ok (.iconst 1, 1) := by decide +kernel
theorem d_law_1034 : decode code 1034 = .ok (.iadd, 1) := by decide +kernel
theorem d_law_1035 : decode code 1035 = .ok (.iaload, 1) := by decide +kernel
theorem d_law_1036 : decode code 1036 = .ok (.invokevirtual 131, 3) := by decide +kernel
theorem d_law_1039 : decode code 1039 = .ok (.aload_n 2, 1) := by decide +kernel
theorem d_law_1040 : decode code 1040 = .ok (.aload_n 0, 1) := by decide +kernel
theorem d_law_1041 : decode code 1041 = .ok (.iload_n 3, 1) := by decide +kernel
theorem d_law_1042 : decode code 1042 = .ok (.iconst 1, 1) := by decide +kernel
theorem d_law_1043 : decode code 1043 = .ok (.iadd, 1) := by decide +kernel
theorem d_law_1044 : decode code 1044 = .ok (.iaload, 1) := by decide +kernel
theorem d_law_1045 : decode code 1045 = .ok (.invokevirtual 134, 3) := by decide +kernel
theorem d_law_1048 : decode code 1048 = .ok (.if_icmp .eq (5), 3) := by decide +kernel
theorem d_law_1051 : decode code 1051 = .ok (.iconst 0, 1) := by decide +kernel
theorem d_law_1052 : decode code 1052 = .ok (.ireturn, 1) := by decide +kernel
theorem d_law_1053 : decode code 1053 = .ok (.iinc 3 6, 3) := by decide +kernel
theorem d_law_1056 : decode code 1056 = .ok (.goto (-1038), 3) := by decide +kernel
theorem d_law_1059 : decode code 1059 = .ok (.iconst 1, 1) := by decide +kernel
theorem d_law_1060 : decode code 1060 = .ok (.ireturn, 1) := by decide +kernel
section LOOP
variable {G G2 : Gd} {b L : Nat} {xs : Nat → Int32} {μ ν : Mem} {n : Nat} {i : Int}
theorem i_0 : ∀ v ∈ ([] : List PV), v.1 = 1 := fun v h => absurd h List.not_mem_nil
theorem i_c {a : Int} {l : List PV} (h : ∀ v ∈ l, v.1 = 1) : ∀ v ∈ vI a :: l, v.1 = 1 := fun v hv => (List.mem_cons.mp hv).elim (fun e => by rw [e]) (h v)
abbrev sx (xs : Nat → Int32) (k : Int) : Int := (xs k.toNat).toInt
set_option maxHeartbeats 4000000 in
theorem law_c0 (hL : L ≤ 3072) (hi : 0 ≤ i ∧ i + 6 ≤ (L : Int)) (hn : n ≤ 511) (hC : Cor n μ ν) (hR : RULs μ ν) (hk : ∀ μ' ν', Cor (n + 1) μ' ν' → RULs μ' ν' → Lj G G2 b L xs 1053 [vR (b : Int), vA 0, vR (G2.1 0 : Int), vI i] [] μ' ν') : Lj G G2 b L xs 160 [vR (b : Int), vA 0, vR (G2.1 0 : Int), vI i] [] μ ν := by
  refine Lj_aload (q := 161) d_law_160 rfl rfl rfl ?_
  refine Lj_rload (q := 162) d_law_161 rfl rfl rfl ?_
  refine Lj_iload (q := 163) d_law_162 rfl rfl rfl ?_
  refine Lj_iconst (q := 164) d_law_163 rfl ?_
  refine Lj_iadd (q := 165) d_law_164 rfl ?_
  refine Lj_ld (q := 166) hL ⟨by omega, by omega⟩ d_law_165 rfl ?_
  refine Lj_rload (q := 167) d_law_166 rfl rfl rfl ?_
  refine Lj_iload (q := 168) d_law_167 rfl rfl rfl ?_
  refine Lj_iconst (q := 169) d_law_168 rfl ?_
  refine Lj_iadd (q := 170) d_law_169 rfl ?_
  refine Lj_ld (q := 171) hL ⟨by omega, by omega⟩ d_law_170 rfl ?_
  refine Lj_rload (q := 172) d_law_171 rfl rfl rfl ?_
  refine Lj_iload (q := 173) d_law_172 rfl rfl rfl ?_
  refine Lj_iconst (q := 174) d_law_173 rfl ?_
  refine Lj_iadd (q := 175) d_law_174 rfl ?_
  refine Lj_ld (q := 176) hL ⟨by omega, by omega⟩ d_law_175 rfl ?_
  refine Lj_rload (q := 177) d_law_176 rfl rfl rfl ?_
  refine Lj_iload (q := 178) d_law_177 rfl rfl rfl ?_
  refine Lj_iconst (q := 179) d_law_178 rfl ?_
  refine Lj_iadd (q := 180) d_law_179 rfl ?_
  refine Lj_ld (q := 181) hL ⟨by omega, by omega⟩ d_law_180 rfl ?_
  refine Lj_rload (q := 182) d_law_181 rfl rfl rfl ?_
  refine Lj_iload (q := 183) d_law_182 rfl rfl rfl ?_
  refine Lj_iconst (q := 184) d_law_183 rfl ?_
  refine Lj_iadd (q := 185) d_law_184 rfl ?_
  refine Lj_ld (q := 186) hL ⟨by omega, by omega⟩ d_law_185 rfl ?_
  refine Lj_callX (z := y_D_feed) (idx := 13) (as := [vI (sx xs (i + 1)), vI (sx xs (i + 2)), vI (sx xs (i + 3)), vI (sx xs (i + 4)), vI (sx xs (i + 5))]) (rest := []) ml_La_13 mw_D_feed mv_D_feed rfl d_law_186 rfl (i_c (i_c (i_c (i_c (i_c i_0))))) (by decide) (C_feed hC hn (t32 _) (t32 _) (t32 _) (t32 _) (t32 _)) (fun r μ' hr0 hq => ?_)
  rw [if_neg (fun e => by have := hr0.mp e; cases this)]
  show Lj G G2 b L xs 189 [vR (b : Int), vA 0, vR (G2.1 0 : Int), vI i] [r] μ' ν
  refine Lj_rload (q := 190) d_law_189 rfl rfl rfl ?_
  refine Lj_rload (q := 191) d_law_190 rfl rfl rfl ?_
  refine Lj_iload (q := 192) d_law_191 rfl rfl rfl ?_
  refine Lj_iconst (q := 193) d_law_192 rfl ?_
  refine Lj_iadd (q := 194) d_law_193 rfl ?_
  refine Lj_ld (q := 195) hL ⟨by omega, by omega⟩ d_law_194 rfl ?_
  refine Lj_rload (q := 196) d_law_195 rfl rfl rfl ?_
  refine Lj_iload (q := 197) d_law_196 rfl rfl rfl ?_
  refine Lj_iconst (q := 198) d_law_197 rfl ?_
  refine Lj_iadd (q := 199) d_law_198 rfl ?_
  refine Lj_ld (q := 200) hL ⟨by omega, by omega⟩ d_law_199 rfl ?_
  refine Lj_rload (q := 201) d_law_200 rfl rfl rfl ?_
  refine Lj_iload (q := 202) d_law_201 rfl rfl rfl ?_
  refine Lj_iconst (q := 203) d_law_202 rfl ?_
  refine Lj_iadd (q := 204) d_law_203 rfl ?_
  refine Lj_ld (q := 205) hL ⟨by omega, by omega⟩ d_law_204 rfl ?_
  refine Lj_rload (q := 206) d_law_205 rfl rfl rfl ?_
  refine Lj_iload (q := 207) d_law_206 rfl rfl rfl ?_
  refine Lj_iconst (q := 208) d_law_207 rfl ?_
  refine Lj_iadd (q := 209) d_law_208 rfl ?_
  refine Lj_ld (q := 210) hL ⟨by omega, by omega⟩ d_law_209 rfl ?_
  refine Lj_rload (q := 211) d_law_210 rfl rfl rfl ?_
  refine Lj_iload (q := 212) d_law_211 rfl rfl rfl ?_
  refine Lj_iconst (q := 213) d_law_212 rfl ?_
  refine Lj_iadd (q := 214) d_law_213 rfl ?_
  refine Lj_ld (q := 215) hL ⟨by omega, by omega⟩ d_law_214 rfl ?_
  refine Lj_callM (z := y_M_feed) (idx := 17) (as := [vI (sx xs (i + 1)), vI (sx xs (i + 2)), vI (sx xs (i + 3)), vI (sx xs (i + 4)), vI (sx xs (i + 5))]) (rest := [r]) ml_La_17 mw_M_feed mv_M_feed rfl d_law_215 rfl (i_c (i_c (i_c (i_c (i_c i_0))))) (catN_2 r) hq (fun r' ν' hq2 => ?_)
  obtain ⟨⟨e1, e2⟩, hC2, hR2⟩ := hq2
  subst e1
  exact ⟨Or.inl e2, Lj_same1 (t := 1053) e2 d_law_218 (by decide) (hk μ' ν' hC2 (hR.keep hR2.1 hR2.2))⟩
set_option maxHeartbeats 4000000 in
theorem law_c1 (hL : L ≤ 3072) (hi : 0 ≤ i ∧ i + 6 ≤ (L : Int)) (hn : n ≤ 511) (hC : Cor n μ ν) (hR : RULs μ ν) (hk : ∀ μ' ν', Cor (n + 1) μ' ν' → RULs μ' ν' → Lj G G2 b L xs 1053 [vR (b : Int), vA 0, vR (G2.1 0 : Int), vI i] [] μ' ν') : Lj G G2 b L xs 223 [vR (b : Int), vA 0, vR (G2.1 0 : Int), vI i] [] μ ν := by
  refine Lj_aload (q := 224) d_law_223 rfl rfl rfl ?_
  refine Lj_rload (q := 225) d_law_224 rfl rfl rfl ?_
  refine Lj_iload (q := 226) d_law_225 rfl rfl rfl ?_
  refine Lj_iconst (q := 227) d_law_226 rfl ?_
  refine Lj_iadd (q := 228) d_law_227 rfl ?_
  refine Lj_ld (q := 229) hL ⟨by omega, by omega⟩ d_law_228 rfl ?_
  refine Lj_callX (z := y_D_end) (idx := 18) (as := [vI (sx xs (i + 1))]) (rest := []) ml_La_18 mw_D_end mv_D_end rfl d_law_229 rfl (i_c i_0) (by decide) (C_end hC hn (t32 _)) (fun r μ' hr0 hq => ?_)
  rw [if_neg (fun e => by have := hr0.mp e; cases this)]
  show Lj G G2 b L xs 232 [vR (b : Int), vA 0, vR (G2.1 0 : Int), vI i] [r] μ' ν
  refine Lj_rload (q := 233) d_law_232 rfl rfl rfl ?_
  refine Lj_rload (q := 234) d_law_233 rfl rfl rfl ?_
  refine Lj_iload (q := 235) d_law_234 rfl rfl rfl ?_
  refine Lj_iconst (q := 236) d_law_235 rfl ?_
  refine Lj_iadd (q := 237) d_law_236 rfl ?_
  refine Lj_ld (q := 238) hL ⟨by omega, by omega⟩ d_law_237 rfl ?_
  refine Lj_callM (z := y_M_end) (idx := 22) (as := [vI (sx xs (i + 1))]) (rest := [r]) ml_La_22 mw_M_end mv_M_end rfl d_law_238 rfl (i_c i_0) (catN_2 r) hq (fun r' ν' hq2 => ?_)
  obtain ⟨⟨e1, e2⟩, hC2, hR2⟩ := hq2
  subst e1
  exact ⟨Or.inl e2, Lj_same1 (t := 1053) e2 d_law_241 (by decide) (hk μ' ν' hC2 (hR.keep hR2.1 hR2.2))⟩
set_option maxHeartbeats 4000000 in
theorem law_c2 (hL : L ≤ 3072) (hi : 0 ≤ i ∧ i + 6 ≤ (L : Int)) (hn : n ≤ 511) (hC : Cor n μ ν) (hR : RULs μ ν) (hk : ∀ μ' ν', Cor (n + 1) μ' ν' → RULs μ' ν' → Lj G G2 b L xs 1053 [vR (b : Int), vA 0, vR (G2.1 0 : Int), vI i] [] μ' ν') : Lj G G2 b L xs 246 [vR (b : Int), vA 0, vR (G2.1 0 : Int), vI i] [] μ ν := by
  refine Lj_aload (q := 247) d_law_246 rfl rfl rfl ?_
  refine Lj_callX (z := y_D_street) (idx := 23) (as := []) (rest := []) ml_La_23 mw_D_street mv_D_street rfl d_law_247 rfl i_0 (by decide) (C_street hC) (fun r μ' hr0 hq => ?_)
  rw [if_neg (fun e => by have := hr0.mp e; cases this)]
  show Lj G G2 b L xs 250 [vR (b : Int), vA 0, vR (G2.1 0 : Int), vI i] [r] μ' ν
  refine Lj_rload (q := 251) d_law_250 rfl rfl rfl ?_
  refine Lj_callM (z := y_M_street) (idx := 27) (as := []) (rest := [r]) ml_La_27 mw_M_street mv_M_street rfl d_law_251 rfl i_0 (catN_2 r) hq (fun r' ν' hq2 => ?_)
  obtain ⟨⟨e1, e2⟩, hC2, hR2⟩ := hq2
  subst e1
  exact ⟨Or.inl e2, Lj_same1 (t := 1053) e2 d_law_254 (by decide) (hk μ' ν' hC2 (hR.keep hR2.1 hR2.2))⟩
set_option maxHeartbeats 4000000 in
theorem law_c3 (hL : L ≤ 3072) (hi : 0 ≤ i ∧ i + 6 ≤ (L : Int)) (hn : n ≤ 511) (hC : Cor n μ ν) (hR : RULs μ ν) (hk : ∀ μ' ν', Cor (n + 1) μ' ν' → RULs μ' ν' → Lj G G2 b L xs 1053 [vR (b : Int), vA 0, vR (G2.1 0 : Int), vI i] [] μ' ν') : Lj G G2 b L xs 259 [vR (b : Int), vA 0, vR (G2.1 0 : Int), vI i] [] μ ν := by
  refine Lj_aload (q := 260) d_law_259 rfl rfl rfl ?_
  refine Lj_callX (z := y_D_rule) (idx := 28) (as := []) (rest := []) ml_La_28 mw_D_rule mv_D_rule rfl d_law_260 rfl i_0 (by decide) (C_rule hC hR) (fun r μ' hr0 hq => ?_)
  rw [if_neg (fun e => by have := hr0.mp e; cases this)]
  show Lj G G2 b L xs 263 [vR (b : Int), vA 0, vR (G2.1 0 : Int), vI i] [r] μ' ν
  refine Lj_rload (q := 264) d_law_263 rfl rfl rfl ?_
  refine Lj_callM (z := y_M_rule) (idx := 31) (as := []) (rest := [r]) ml_La_31 mw_M_rule mv_M_rule rfl d_law_264 rfl i_0 (catN_2 r) hq (fun r' ν' hq2 => ?_)
  obtain ⟨⟨e1, e2⟩, hC2, hR2⟩ := hq2
  subst e1
  exact ⟨Or.inl e2, Lj_same1 (t := 1053) e2 d_law_267 (by decide) (hk μ' ν' hC2 hR2)⟩
set_option maxHeartbeats 4000000 in
theorem law_c4 (hL : L ≤ 3072) (hi : 0 ≤ i ∧ i + 6 ≤ (L : Int)) (hn : n ≤ 511) (hC : Cor n μ ν) (hR : RULs μ ν) (hk : ∀ μ' ν', Cor (n + 1) μ' ν' → RULs μ' ν' → Lj G G2 b L xs 1053 [vR (b : Int), vA 0, vR (G2.1 0 : Int), vI i] [] μ' ν') : Lj G G2 b L xs 272 [vR (b : Int), vA 0, vR (G2.1 0 : Int), vI i] [] μ ν := by
  refine Lj_aload (q := 273) d_law_272 rfl rfl rfl ?_
  refine Lj_rload (q := 274) d_law_273 rfl rfl rfl ?_
  refine Lj_iload (q := 275) d_law_274 rfl rfl rfl ?_
  refine Lj_iconst (q := 276) d_law_275 rfl ?_
  refine Lj_iadd (q := 277) d_law_276 rfl ?_
  refine Lj_ld (q := 278) hL ⟨by omega, by omega⟩ d_law_277 rfl ?_
  refine Lj_rload (q := 279) d_law_278 rfl rfl rfl ?_
  refine Lj_iload (q := 280) d_law_279 rfl rfl rfl ?_
  refine Lj_iconst (q := 281) d_law_280 rfl ?_
  refine Lj_iadd (q := 282) d_law_281 rfl ?_
  refine Lj_ld (q := 283) hL ⟨by omega, by omega⟩ d_law_282 rfl ?_
  refine Lj_callX (z := y_D_door) (idx := 32) (as := [vI (sx xs (i + 1)), vI (sx xs (i + 2))]) (rest := []) ml_La_32 mw_D_door mv_D_door rfl d_law_283 rfl (i_c (i_c i_0)) (by decide) (C_door hC hn (t32 _) (t32 _)) (fun r μ' hr0 hq => ?_)
  rw [if_neg (fun e => by have := hr0.mp e; cases this)]
  show Lj G G2 b L xs 286 [vR (b : Int), vA 0, vR (G2.1 0 : Int), vI i] [r] μ' ν
  refine Lj_rload (q := 287) d_law_286 rfl rfl rfl ?_
  refine Lj_rload (q := 288) d_law_287 rfl rfl rfl ?_
  refine Lj_iload (q := 289) d_law_288 rfl rfl rfl ?_
  refine Lj_iconst (q := 290) d_law_289 rfl ?_
  refine Lj_iadd (q := 291) d_law_290 rfl ?_
  refine Lj_ld (q := 292) hL ⟨by omega, by omega⟩ d_law_291 rfl ?_
  refine Lj_rload (q := 293) d_law_292 rfl rfl rfl ?_
  refine Lj_iload (q := 294) d_law_293 rfl rfl rfl ?_
  refine Lj_iconst (q := 295) d_law_294 rfl ?_
  refine Lj_iadd (q := 296) d_law_295 rfl ?_
  refine Lj_ld (q := 297) hL ⟨by omega, by omega⟩ d_law_296 rfl ?_
  refine Lj_callM (z := y_M_door) (idx := 36) (as := [vI (sx xs (i + 1)), vI (sx xs (i + 2))]) (rest := [r]) ml_La_36 mw_M_door mv_M_door rfl d_law_297 rfl (i_c (i_c i_0)) (catN_2 r) hq (fun r' ν' hq2 => ?_)
  obtain ⟨⟨e1, e2⟩, hC2, hR2⟩ := hq2
  subst e1
  exact ⟨Or.inl e2, Lj_same1 (t := 1053) e2 d_law_300 (by decide) (hk μ' ν' hC2 (hR.keep hR2.1 hR2.2))⟩
set_option maxHeartbeats 4000000 in
theorem law_c5 (hL : L ≤ 3072) (hi : 0 ≤ i ∧ i + 6 ≤ (L : Int)) (hn : n ≤ 511) (hC : Cor n μ ν) (hR : RULs μ ν) (hk : ∀ μ' ν', Cor (n + 1) μ' ν' → RULs μ' ν' → Lj G G2 b L xs 1053 [vR (b : Int), vA 0, vR (G2.1 0 : Int), vI i] [] μ' ν') : Lj G G2 b L xs 305 [vR (b : Int), vA 0, vR (G2.1 0 : Int), vI i] [] μ ν := by
  refine Lj_aload (q := 306) d_law_305 rfl rfl rfl ?_
  refine Lj_rload (q := 307) d_law_306 rfl rfl rfl ?_
  refine Lj_iload (q := 308) d_law_307 rfl rfl rfl ?_
  refine Lj_iconst (q := 309) d_law_308 rfl ?_
  refine Lj_iadd (q := 310) d_law_309 rfl ?_
  refine Lj_ld (q := 311) hL ⟨by omega, by omega⟩ d_law_310 rfl ?_
  refine Lj_rload (q := 312) d_law_311 rfl rfl rfl ?_
  refine Lj_iload (q := 313) d_law_312 rfl rfl rfl ?_
  refine Lj_iconst (q := 314) d_law_313 rfl ?_
  refine Lj_iadd (q := 315) d_law_314 rfl ?_
  refine Lj_ld (q := 316) hL ⟨by omega, by omega⟩ d_law_315 rfl ?_
  refine Lj_callX (z := y_D_place) (idx := 37) (as := [vI (sx xs (i + 1)), vI (sx xs (i + 2))]) (rest := []) ml_La_37 mw_D_place mv_D_place rfl d_law_316 rfl (i_c (i_c i_0)) (by decide) (C_place hC hn (t32 _) (t32 _)) (fun r μ' hr0 hq => ?_)
  rw [if_neg (fun e => by have := hr0.mp e; cases this)]
  show Lj G G2 b L xs 319 [vR (b : Int), vA 0, vR (G2.1 0 : Int), vI i] [r] μ' ν
  refine Lj_rload (q := 320) d_law_319 rfl rfl rfl ?_
  refine Lj_rload (q := 321) d_law_320 rfl rfl rfl ?_
  refine Lj_iload (q := 322) d_law_321 rfl rfl rfl ?_
  refine Lj_iconst (q := 323) d_law_322 rfl ?_
  refine Lj_iadd (q := 324) d_law_323 rfl ?_
  refine Lj_ld (q := 325) hL ⟨by omega, by omega⟩ d_law_324 rfl ?_
  refine Lj_rload (q := 326) d_law_325 rfl rfl rfl ?_
  refine Lj_iload (q := 327) d_law_326 rfl rfl rfl ?_
  refine Lj_iconst (q := 328) d_law_327 rfl ?_
  refine Lj_iadd (q := 329) d_law_328 rfl ?_
  refine Lj_ld (q := 330) hL ⟨by omega, by omega⟩ d_law_329 rfl ?_
  refine Lj_callM (z := y_M_place) (idx := 41) (as := [vI (sx xs (i + 1)), vI (sx xs (i + 2))]) (rest := [r]) ml_La_41 mw_M_place mv_M_place rfl d_law_330 rfl (i_c (i_c i_0)) (catN_2 r) hq (fun r' ν' hq2 => ?_)
  obtain ⟨⟨e1, e2⟩, hC2, hR2⟩ := hq2
  subst e1
  exact ⟨Or.inr e2, Lj_same2 (q := 334) (t := 1053) e2 d_law_333 rfl d_law_334 (by decide) (hk μ' ν' hC2 (hR.keep hR2.1 hR2.2))⟩
set_option maxHeartbeats 4000000 in
theorem law_c6 (hL : L ≤ 3072) (hi : 0 ≤ i ∧ i + 6 ≤ (L : Int)) (hn : n ≤ 511) (hC : Cor n μ ν) (hR : RULs μ ν) (hk : ∀ μ' ν', Cor (n + 1) μ' ν' → RULs μ' ν' → Lj G G2 b L xs 1053 [vR (b : Int), vA 0, vR (G2.1 0 : Int), vI i] [] μ' ν') : Lj G G2 b L xs 339 [vR (b : Int), vA 0, vR (G2.1 0 : Int), vI i] [] μ ν := by
  refine Lj_aload (q := 340) d_law_339 rfl rfl rfl ?_
  refine Lj_rload (q := 341) d_law_340 rfl rfl rfl ?_
  refine Lj_iload (q := 342) d_law_341 rfl rfl rfl ?_
  refine Lj_iconst (q := 343) d_law_342 rfl ?_
  refine Lj_iadd (q := 344) d_law_343 rfl ?_
  refine Lj_ld (q := 345) hL ⟨by omega, by omega⟩ d_law_344 rfl ?_
  refine Lj_rload (q := 346) d_law_345 rfl rfl rfl ?_
  refine Lj_iload (q := 347) d_law_346 rfl rfl rfl ?_
  refine Lj_iconst (q := 348) d_law_347 rfl ?_
  refine Lj_iadd (q := 349) d_law_348 rfl ?_
  refine Lj_ld (q := 350) hL ⟨by omega, by omega⟩ d_law_349 rfl ?_
  refine Lj_callX (z := y_D_join) (idx := 42) (as := [vI (sx xs (i + 1)), vI (sx xs (i + 2))]) (rest := []) ml_La_42 mw_D_join mv_D_join rfl d_law_350 rfl (i_c (i_c i_0)) (by decide) (C_join hC hn (t32 _) (t32 _)) (fun r μ' hr0 hq => ?_)
  rw [if_neg (fun e => by have := hr0.mp e; cases this)]
  show Lj G G2 b L xs 353 [vR (b : Int), vA 0, vR (G2.1 0 : Int), vI i] [r] μ' ν
  refine Lj_rload (q := 354) d_law_353 rfl rfl rfl ?_
  refine Lj_rload (q := 355) d_law_354 rfl rfl rfl ?_
  refine Lj_iload (q := 356) d_law_355 rfl rfl rfl ?_
  refine Lj_iconst (q := 357) d_law_356 rfl ?_
  refine Lj_iadd (q := 358) d_law_357 rfl ?_
  refine Lj_ld (q := 359) hL ⟨by omega, by omega⟩ d_law_358 rfl ?_
  refine Lj_rload (q := 360) d_law_359 rfl rfl rfl ?_
  refine Lj_iload (q := 361) d_law_360 rfl rfl rfl ?_
  refine Lj_iconst (q := 362) d_law_361 rfl ?_
  refine Lj_iadd (q := 363) d_law_362 rfl ?_
  refine Lj_ld (q := 364) hL ⟨by omega, by omega⟩ d_law_363 rfl ?_
  refine Lj_callM (z := y_M_join) (idx := 45) (as := [vI (sx xs (i + 1)), vI (sx xs (i + 2))]) (rest := [r]) ml_La_45 mw_M_join mv_M_join rfl d_law_364 rfl (i_c (i_c i_0)) (catN_2 r) hq (fun r' ν' hq2 => ?_)
  obtain ⟨⟨e1, e2⟩, hC2, hR2⟩ := hq2
  subst e1
  exact ⟨Or.inl e2, Lj_same1 (t := 1053) e2 d_law_367 (by decide) (hk μ' ν' hC2 (hR.keep hR2.1 hR2.2))⟩
set_option maxHeartbeats 4000000 in
theorem law_c7 (hL : L ≤ 3072) (hi : 0 ≤ i ∧ i + 6 ≤ (L : Int)) (hn : n ≤ 511) (hC : Cor n μ ν) (hR : RULs μ ν) (hk : ∀ μ' ν', Cor (n + 1) μ' ν' → RULs μ' ν' → Lj G G2 b L xs 1053 [vR (b : Int), vA 0, vR (G2.1 0 : Int), vI i] [] μ' ν') : Lj G G2 b L xs 372 [vR (b : Int), vA 0, vR (G2.1 0 : Int), vI i] [] μ ν := by
  refine Lj_aload (q := 373) d_law_372 rfl rfl rfl ?_
  refine Lj_rload (q := 374) d_law_373 rfl rfl rfl ?_
  refine Lj_iload (q := 375) d_law_374 rfl rfl rfl ?_
  refine Lj_iconst (q := 376) d_law_375 rfl ?_
  refine Lj_iadd (q := 377) d_law_376 rfl ?_
  refine Lj_ld (q := 378) hL ⟨by omega, by omega⟩ d_law_377 rfl ?_
  refine Lj_rload (q := 379) d_law_378 rfl rfl rfl ?_
  refine Lj_iload (q := 380) d_law_379 rfl rfl rfl ?_
  refine Lj_iconst (q := 381) d_law_380 rfl ?_
  refine Lj_iadd (q := 382) d_law_381 rfl ?_
  refine Lj_ld (q := 383) hL ⟨by omega, by omega⟩ d_law_382 rfl ?_
  refine Lj_rload (q := 384) d_law_383 rfl rfl rfl ?_
  refine Lj_iload (q := 385) d_law_384 rfl rfl rfl ?_
  refine Lj_iconst (q := 386) d_law_385 rfl ?_
  refine Lj_iadd (q := 387) d_law_386 rfl ?_
  refine Lj_ld (q := 388) hL ⟨by omega, by omega⟩ d_law_387 rfl ?_
  refine Lj_callX (z := y_D_ratio) (idx := 46) (as := [vI (sx xs (i + 1)), vI (sx xs (i + 2)), vI (sx xs (i + 3))]) (rest := []) ml_La_46 mw_D_ratio mv_D_ratio rfl d_law_388 rfl (i_c (i_c (i_c i_0))) (by decide) (C_ratio hC hn (t32 _) (t32 _) (t32 _)) (fun r μ' hr0 hq => ?_)
  rw [if_neg (fun e => by have := hr0.mp e; cases this)]
  show Lj G G2 b L xs 391 [vR (b : Int), vA 0, vR (G2.1 0 : Int), vI i] [r] μ' ν
  refine Lj_rload (q := 392) d_law_391 rfl rfl rfl ?_
  refine Lj_rload (q := 393) d_law_392 rfl rfl rfl ?_
  refine Lj_iload (q := 394) d_law_393 rfl rfl rfl ?_
  refine Lj_iconst (q := 395) d_law_394 rfl ?_
  refine Lj_iadd (q := 396) d_law_395 rfl ?_
  refine Lj_ld (q := 397) hL ⟨by omega, by omega⟩ d_law_396 rfl ?_
  refine Lj_rload (q := 398) d_law_397 rfl rfl rfl ?_
  refine Lj_iload (q := 399) d_law_398 rfl rfl rfl ?_
  refine Lj_iconst (q := 400) d_law_399 rfl ?_
  refine Lj_iadd (q := 401) d_law_400 rfl ?_
  refine Lj_ld (q := 402) hL ⟨by omega, by omega⟩ d_law_401 rfl ?_
  refine Lj_rload (q := 403) d_law_402 rfl rfl rfl ?_
  refine Lj_iload (q := 404) d_law_403 rfl rfl rfl ?_
  refine Lj_iconst (q := 405) d_law_404 rfl ?_
  refine Lj_iadd (q := 406) d_law_405 rfl ?_
  refine Lj_ld (q := 407) hL ⟨by omega, by omega⟩ d_law_406 rfl ?_
  refine Lj_callM (z := y_M_ratio) (idx := 50) (as := [vI (sx xs (i + 1)), vI (sx xs (i + 2)), vI (sx xs (i + 3))]) (rest := [r]) ml_La_50 mw_M_ratio mv_M_ratio rfl d_law_407 rfl (i_c (i_c (i_c i_0))) (catN_2 r) hq (fun r' ν' hq2 => ?_)
  obtain ⟨⟨e1, e2⟩, hC2, hR2⟩ := hq2
  subst e1
  exact ⟨Or.inr e2, Lj_same2 (q := 411) (t := 1053) e2 d_law_410 rfl d_law_411 (by decide) (hk μ' ν' hC2 (hR.keep hR2.1 hR2.2))⟩
set_option maxHeartbeats 4000000 in
theorem law_c8 (hL : L ≤ 3072) (hi : 0 ≤ i ∧ i + 6 ≤ (L : Int)) (hn : n ≤ 511) (hC : Cor n μ ν) (hR : RULs μ ν) (hk : ∀ μ' ν', Cor (n + 1) μ' ν' → RULs μ' ν' → Lj G G2 b L xs 1053 [vR (b : Int), vA 0, vR (G2.1 0 : Int), vI i] [] μ' ν') : Lj G G2 b L xs 416 [vR (b : Int), vA 0, vR (G2.1 0 : Int), vI i] [] μ ν := by
  refine Lj_aload (q := 417) d_law_416 rfl rfl rfl ?_
  refine Lj_rload (q := 418) d_law_417 rfl rfl rfl ?_
  refine Lj_iload (q := 419) d_law_418 rfl rfl rfl ?_
  refine Lj_iconst (q := 420) d_law_419 rfl ?_
  refine Lj_iadd (q := 421) d_law_420 rfl ?_
  refine Lj_ld (q := 422) hL ⟨by omega, by omega⟩ d_law_421 rfl ?_
  refine Lj_rload (q := 423) d_law_422 rfl rfl rfl ?_
  refine Lj_iload (q := 424) d_law_423 rfl rfl rfl ?_
  refine Lj_iconst (q := 425) d_law_424 rfl ?_
  refine Lj_iadd (q := 426) d_law_425 rfl ?_
  refine Lj_ld (q := 427) hL ⟨by omega, by omega⟩ d_law_426 rfl ?_
  refine Lj_callX (z := y_D_push) (idx := 51) (as := [vI (sx xs (i + 1)), vI (sx xs (i + 2))]) (rest := []) ml_La_51 mw_D_push mv_D_push rfl d_law_427 rfl (i_c (i_c i_0)) (by decide) (C_push hC hn (t32 _) (t32 _)) (fun r μ' hr0 hq => ?_)
  rw [if_neg (fun e => by have := hr0.mp e; cases this)]
  show Lj G G2 b L xs 430 [vR (b : Int), vA 0, vR (G2.1 0 : Int), vI i] [r] μ' ν
  refine Lj_rload (q := 431) d_law_430 rfl rfl rfl ?_
  refine Lj_rload (q := 432) d_law_431 rfl rfl rfl ?_
  refine Lj_iload (q := 433) d_law_432 rfl rfl rfl ?_
  refine Lj_iconst (q := 434) d_law_433 rfl ?_
  refine Lj_iadd (q := 435) d_law_434 rfl ?_
  refine Lj_ld (q := 436) hL ⟨by omega, by omega⟩ d_law_435 rfl ?_
  refine Lj_rload (q := 437) d_law_436 rfl rfl rfl ?_
  refine Lj_iload (q := 438) d_law_437 rfl rfl rfl ?_
  refine Lj_iconst (q := 439) d_law_438 rfl ?_
  refine Lj_iadd (q := 440) d_law_439 rfl ?_
  refine Lj_ld (q := 441) hL ⟨by omega, by omega⟩ d_law_440 rfl ?_
  refine Lj_callM (z := y_M_push) (idx := 54) (as := [vI (sx xs (i + 1)), vI (sx xs (i + 2))]) (rest := [r]) ml_La_54 mw_M_push mv_M_push rfl d_law_441 rfl (i_c (i_c i_0)) (catN_2 r) hq (fun r' ν' hq2 => ?_)
  obtain ⟨⟨e1, e2⟩, hC2, hR2⟩ := hq2
  subst e1
  exact ⟨Or.inl e2, Lj_same1 (t := 1053) e2 d_law_444 (by decide) (hk μ' ν' hC2 (hR.keep hR2.1 hR2.2))⟩
set_option maxHeartbeats 4000000 in
theorem law_c9 (hL : L ≤ 3072) (hi : 0 ≤ i ∧ i + 6 ≤ (L : Int)) (hn : n ≤ 511) (hC : Cor n μ ν) (hR : RULs μ ν) (hk : ∀ μ' ν', Cor (n + 1) μ' ν' → RULs μ' ν' → Lj G G2 b L xs 1053 [vR (b : Int), vA 0, vR (G2.1 0 : Int), vI i] [] μ' ν') : Lj G G2 b L xs 449 [vR (b : Int), vA 0, vR (G2.1 0 : Int), vI i] [] μ ν := by
  refine Lj_aload (q := 450) d_law_449 rfl rfl rfl ?_
  refine Lj_rload (q := 451) d_law_450 rfl rfl rfl ?_
  refine Lj_iload (q := 452) d_law_451 rfl rfl rfl ?_
  refine Lj_iconst (q := 453) d_law_452 rfl ?_
  refine Lj_iadd (q := 454) d_law_453 rfl ?_
  refine Lj_ld (q := 455) hL ⟨by omega, by omega⟩ d_law_454 rfl ?_
  refine Lj_rload (q := 456) d_law_455 rfl rfl rfl ?_
  refine Lj_iload (q := 457) d_law_456 rfl rfl rfl ?_
  refine Lj_iconst (q := 458) d_law_457 rfl ?_
  refine Lj_iadd (q := 459) d_law_458 rfl ?_
  refine Lj_ld (q := 460) hL ⟨by omega, by omega⟩ d_law_459 rfl ?_
  refine Lj_callX (z := y_D_can) (idx := 55) (as := [vI (sx xs (i + 1)), vI (sx xs (i + 2))]) (rest := []) ml_La_55 mw_D_can mv_D_can rfl d_law_460 rfl (i_c (i_c i_0)) (by decide) (C_can hC hn (t32 _) (t32 _)) (fun r μ' hr0 hq => ?_)
  rw [if_neg (fun e => by have := hr0.mp e; cases this)]
  show Lj G G2 b L xs 463 [vR (b : Int), vA 0, vR (G2.1 0 : Int), vI i] [r] μ' ν
  refine Lj_rload (q := 464) d_law_463 rfl rfl rfl ?_
  refine Lj_rload (q := 465) d_law_464 rfl rfl rfl ?_
  refine Lj_iload (q := 466) d_law_465 rfl rfl rfl ?_
  refine Lj_iconst (q := 467) d_law_466 rfl ?_
  refine Lj_iadd (q := 468) d_law_467 rfl ?_
  refine Lj_ld (q := 469) hL ⟨by omega, by omega⟩ d_law_468 rfl ?_
  refine Lj_rload (q := 470) d_law_469 rfl rfl rfl ?_
  refine Lj_iload (q := 471) d_law_470 rfl rfl rfl ?_
  refine Lj_iconst (q := 472) d_law_471 rfl ?_
  refine Lj_iadd (q := 473) d_law_472 rfl ?_
  refine Lj_ld (q := 474) hL ⟨by omega, by omega⟩ d_law_473 rfl ?_
  refine Lj_callM (z := y_M_can) (idx := 58) (as := [vI (sx xs (i + 1)), vI (sx xs (i + 2))]) (rest := [r]) ml_La_58 mw_M_can mv_M_can rfl d_law_474 rfl (i_c (i_c i_0)) (catN_2 r) hq (fun r' ν' hq2 => ?_)
  obtain ⟨⟨e1, e2⟩, hC2, hR2⟩ := hq2
  subst e1
  exact ⟨Or.inl e2, Lj_same1 (t := 1053) e2 d_law_477 (by decide) (hk μ' ν' hC2 (hR.keep hR2.1 hR2.2))⟩
set_option maxHeartbeats 4000000 in
theorem law_c10 (hL : L ≤ 3072) (hi : 0 ≤ i ∧ i + 6 ≤ (L : Int)) (hn : n ≤ 511) (hC : Cor n μ ν) (hR : RULs μ ν) (hk : ∀ μ' ν', Cor (n + 1) μ' ν' → RULs μ' ν' → Lj G G2 b L xs 1053 [vR (b : Int), vA 0, vR (G2.1 0 : Int), vI i] [] μ' ν') : Lj G G2 b L xs 482 [vR (b : Int), vA 0, vR (G2.1 0 : Int), vI i] [] μ ν := by
  refine Lj_aload (q := 483) d_law_482 rfl rfl rfl ?_
  refine Lj_rload (q := 484) d_law_483 rfl rfl rfl ?_
  refine Lj_iload (q := 485) d_law_484 rfl rfl rfl ?_
  refine Lj_iconst (q := 486) d_law_485 rfl ?_
  refine Lj_iadd (q := 487) d_law_486 rfl ?_
  refine Lj_ld (q := 488) hL ⟨by omega, by omega⟩ d_law_487 rfl ?_
  refine Lj_rload (q := 489) d_law_488 rfl rfl rfl ?_
  refine Lj_iload (q := 490) d_law_489 rfl rfl rfl ?_
  refine Lj_iconst (q := 491) d_law_490 rfl ?_
  refine Lj_iadd (q := 492) d_law_491 rfl ?_
  refine Lj_ld (q := 493) hL ⟨by omega, by omega⟩ d_law_492 rfl ?_
  refine Lj_ifeq (q := 496) (t := 500) d_law_493 rfl (by decide) (t32 _) (fun z493 => ?_) (fun z493 => ?_)
  · refine Lj_iconst (q := 501) d_law_500 rfl ?_
    refine Lj_callX (z := y_D_reach) (idx := 59) (as := [vI (sx xs (i + 1)), vI (0)]) (rest := []) ml_La_59 mw_D_reach mv_D_reach rfl d_law_501 rfl (i_c (i_c i_0)) (by decide) (C_reach hC (t32 _) (by decide)) (fun r μ' hr0 hq => ?_)
    rw [if_neg (fun e => by have := hr0.mp e; cases this)]
    show Lj G G2 b L xs 504 [vR (b : Int), vA 0, vR (G2.1 0 : Int), vI i] [r] μ' ν
    refine Lj_rload (q := 505) d_law_504 rfl rfl rfl ?_
    refine Lj_rload (q := 506) d_law_505 rfl rfl rfl ?_
    refine Lj_iload (q := 507) d_law_506 rfl rfl rfl ?_
    refine Lj_iconst (q := 508) d_law_507 rfl ?_
    refine Lj_iadd (q := 509) d_law_508 rfl ?_
    refine Lj_ld (q := 510) hL ⟨by omega, by omega⟩ d_law_509 rfl ?_
    refine Lj_rload (q := 511) d_law_510 rfl rfl rfl ?_
    refine Lj_iload (q := 512) d_law_511 rfl rfl rfl ?_
    refine Lj_iconst (q := 513) d_law_512 rfl ?_
    refine Lj_iadd (q := 514) d_law_513 rfl ?_
    refine Lj_ld (q := 515) hL ⟨by omega, by omega⟩ d_law_514 rfl ?_
    refine Lj_ifeq (q := 518) (t := 522) d_law_515 rfl (by decide) (t32 _) (fun z515 => ?_) (fun z515 => ?_)
    · refine Lj_iconst (q := 523) d_law_522 rfl ?_
      refine Lj_callM (z := y_M_reach) (idx := 63) (as := [vI (sx xs (i + 1)), vI (0)]) (rest := [r]) ml_La_63 mw_M_reach mv_M_reach rfl d_law_523 rfl (i_c (i_c i_0)) (catN_2 r) hq (fun r' ν' hq2 => ?_)
      obtain ⟨⟨e1, e2⟩, hC2, hR2⟩ := hq2
      subst e1
      exact ⟨Or.inl e2, Lj_same1 (t := 1053) e2 d_law_526 (by decide) (hk μ' ν' hC2 (hR.keep hR2.1 hR2.2))⟩
    · exact absurd z493 z515
  · refine Lj_iconst (q := 497) d_law_496 rfl ?_
    refine Lj_goto (t := 501) d_law_497 (by decide) ?_
    refine Lj_callX (z := y_D_reach) (idx := 59) (as := [vI (sx xs (i + 1)), vI (1)]) (rest := []) ml_La_59 mw_D_reach mv_D_reach rfl d_law_501 rfl (i_c (i_c i_0)) (by decide) (C_reach hC (t32 _) (by decide)) (fun r μ' hr0 hq => ?_)
    rw [if_neg (fun e => by have := hr0.mp e; cases this)]
    show Lj G G2 b L xs 504 [vR (b : Int), vA 0, vR (G2.1 0 : Int), vI i] [r] μ' ν
    refine Lj_rload (q := 505) d_law_504 rfl rfl rfl ?_
    refine Lj_rload (q := 506) d_law_505 rfl rfl rfl ?_
    refine Lj_iload (q := 507) d_law_506 rfl rfl rfl ?_
    refine Lj_iconst (q := 508) d_law_507 rfl ?_
    refine Lj_iadd (q := 509) d_law_508 rfl ?_
    refine Lj_ld (q := 510) hL ⟨by omega, by omega⟩ d_law_509 rfl ?_
    refine Lj_rload (q := 511) d_law_510 rfl rfl rfl ?_
    refine Lj_iload (q := 512) d_law_511 rfl rfl rfl ?_
    refine Lj_iconst (q := 513) d_law_512 rfl ?_
    refine Lj_iadd (q := 514) d_law_513 rfl ?_
    refine Lj_ld (q := 515) hL ⟨by omega, by omega⟩ d_law_514 rfl ?_
    refine Lj_ifeq (q := 518) (t := 522) d_law_515 rfl (by decide) (t32 _) (fun z515 => ?_) (fun z515 => ?_)
    · exact absurd z515 z493
    · refine Lj_iconst (q := 519) d_law_518 rfl ?_
      refine Lj_goto (t := 523) d_law_519 (by decide) ?_
      refine Lj_callM (z := y_M_reach) (idx := 63) (as := [vI (sx xs (i + 1)), vI (1)]) (rest := [r]) ml_La_63 mw_M_reach mv_M_reach rfl d_law_523 rfl (i_c (i_c i_0)) (catN_2 r) hq (fun r' ν' hq2 => ?_)
      obtain ⟨⟨e1, e2⟩, hC2, hR2⟩ := hq2
      subst e1
      exact ⟨Or.inl e2, Lj_same1 (t := 1053) e2 d_law_526 (by decide) (hk μ' ν' hC2 (hR.keep hR2.1 hR2.2))⟩
set_option maxHeartbeats 4000000 in
theorem law_c11 (hL : L ≤ 3072) (hi : 0 ≤ i ∧ i + 6 ≤ (L : Int)) (hn : n ≤ 511) (hC : Cor n μ ν) (hR : RULs μ ν) (hk : ∀ μ' ν', Cor (n + 1) μ' ν' → RULs μ' ν' → Lj G G2 b L xs 1053 [vR (b : Int), vA 0, vR (G2.1 0 : Int), vI i] [] μ' ν') : Lj G G2 b L xs 531 [vR (b : Int), vA 0, vR (G2.1 0 : Int), vI i] [] μ ν := by
  refine Lj_aload (q := 532) d_law_531 rfl rfl rfl ?_
  refine Lj_rload (q := 533) d_law_532 rfl rfl rfl ?_
  refine Lj_iload (q := 534) d_law_533 rfl rfl rfl ?_
  refine Lj_iconst (q := 535) d_law_534 rfl ?_
  refine Lj_iadd (q := 536) d_law_535 rfl ?_
  refine Lj_ld (q := 537) hL ⟨by omega, by omega⟩ d_law_536 rfl ?_
  refine Lj_rload (q := 538) d_law_537 rfl rfl rfl ?_
  refine Lj_iload (q := 539) d_law_538 rfl rfl rfl ?_
  refine Lj_iconst (q := 540) d_law_539 rfl ?_
  refine Lj_iadd (q := 541) d_law_540 rfl ?_
  refine Lj_ld (q := 542) hL ⟨by omega, by omega⟩ d_law_541 rfl ?_
  refine Lj_callX (z := y_D_slip) (idx := 64) (as := [vI (sx xs (i + 1)), vI (sx xs (i + 2))]) (rest := []) ml_La_64 mw_D_slip mv_D_slip rfl d_law_542 rfl (i_c (i_c i_0)) (by decide) (C_slip hC hn (t32 _) (t32 _)) (fun r μ' hr0 hq => ?_)
  rw [if_neg (fun e => by have := hr0.mp e; cases this)]
  show Lj G G2 b L xs 545 [vR (b : Int), vA 0, vR (G2.1 0 : Int), vI i] [r] μ' ν
  refine Lj_rload (q := 546) d_law_545 rfl rfl rfl ?_
  refine Lj_rload (q := 547) d_law_546 rfl rfl rfl ?_
  refine Lj_iload (q := 548) d_law_547 rfl rfl rfl ?_
  refine Lj_iconst (q := 549) d_law_548 rfl ?_
  refine Lj_iadd (q := 550) d_law_549 rfl ?_
  refine Lj_ld (q := 551) hL ⟨by omega, by omega⟩ d_law_550 rfl ?_
  refine Lj_rload (q := 552) d_law_551 rfl rfl rfl ?_
  refine Lj_iload (q := 553) d_law_552 rfl rfl rfl ?_
  refine Lj_iconst (q := 554) d_law_553 rfl ?_
  refine Lj_iadd (q := 555) d_law_554 rfl ?_
  refine Lj_ld (q := 556) hL ⟨by omega, by omega⟩ d_law_555 rfl ?_
  refine Lj_callM (z := y_M_slip) (idx := 68) (as := [vI (sx xs (i + 1)), vI (sx xs (i + 2))]) (rest := [r]) ml_La_68 mw_M_slip mv_M_slip rfl d_law_556 rfl (i_c (i_c i_0)) (catN_2 r) hq (fun r' ν' hq2 => ?_)
  obtain ⟨⟨e1, e2⟩, hC2, hR2⟩ := hq2
  subst e1
  exact ⟨Or.inl e2, Lj_same1 (t := 1053) e2 d_law_559 (by decide) (hk μ' ν' hC2 (hR.keep hR2.1 hR2.2))⟩
set_option maxHeartbeats 4000000 in
theorem law_c12 (hL : L ≤ 3072) (hi : 0 ≤ i ∧ i + 6 ≤ (L : Int)) (hn : n ≤ 511) (hC : Cor n μ ν) (hR : RULs μ ν) (hk : ∀ μ' ν', Cor (n + 1) μ' ν' → RULs μ' ν' → Lj G G2 b L xs 1053 [vR (b : Int), vA 0, vR (G2.1 0 : Int), vI i] [] μ' ν') : Lj G G2 b L xs 564 [vR (b : Int), vA 0, vR (G2.1 0 : Int), vI i] [] μ ν := by
  refine Lj_aload (q := 565) d_law_564 rfl rfl rfl ?_
  refine Lj_rload (q := 566) d_law_565 rfl rfl rfl ?_
  refine Lj_iload (q := 567) d_law_566 rfl rfl rfl ?_
  refine Lj_iconst (q := 568) d_law_567 rfl ?_
  refine Lj_iadd (q := 569) d_law_568 rfl ?_
  refine Lj_ld (q := 570) hL ⟨by omega, by omega⟩ d_law_569 rfl ?_
  refine Lj_rload (q := 571) d_law_570 rfl rfl rfl ?_
  refine Lj_iload (q := 572) d_law_571 rfl rfl rfl ?_
  refine Lj_iconst (q := 573) d_law_572 rfl ?_
  refine Lj_iadd (q := 574) d_law_573 rfl ?_
  refine Lj_ld (q := 575) hL ⟨by omega, by omega⟩ d_law_574 rfl ?_
  refine Lj_callX (z := y_D_want) (idx := 69) (as := [vI (sx xs (i + 1)), vI (sx xs (i + 2))]) (rest := []) ml_La_69 mw_D_want mv_D_want rfl d_law_575 rfl (i_c (i_c i_0)) (by decide) (C_want hC hn (t32 _) (t32 _)) (fun r μ' hr0 hq => ?_)
  rw [if_neg (fun e => by have := hr0.mp e; cases this)]
  show Lj G G2 b L xs 578 [vR (b : Int), vA 0, vR (G2.1 0 : Int), vI i] [r] μ' ν
  refine Lj_rload (q := 579) d_law_578 rfl rfl rfl ?_
  refine Lj_rload (q := 580) d_law_579 rfl rfl rfl ?_
  refine Lj_iload (q := 581) d_law_580 rfl rfl rfl ?_
  refine Lj_iconst (q := 582) d_law_581 rfl ?_
  refine Lj_iadd (q := 583) d_law_582 rfl ?_
  refine Lj_ld (q := 584) hL ⟨by omega, by omega⟩ d_law_583 rfl ?_
  refine Lj_rload (q := 585) d_law_584 rfl rfl rfl ?_
  refine Lj_iload (q := 586) d_law_585 rfl rfl rfl ?_
  refine Lj_iconst (q := 587) d_law_586 rfl ?_
  refine Lj_iadd (q := 588) d_law_587 rfl ?_
  refine Lj_ld (q := 589) hL ⟨by omega, by omega⟩ d_law_588 rfl ?_
  refine Lj_callM (z := y_M_want) (idx := 72) (as := [vI (sx xs (i + 1)), vI (sx xs (i + 2))]) (rest := [r]) ml_La_72 mw_M_want mv_M_want rfl d_law_589 rfl (i_c (i_c i_0)) (catN_2 r) hq (fun r' ν' hq2 => ?_)
  obtain ⟨⟨e1, e2⟩, hC2, hR2⟩ := hq2
  subst e1
  exact ⟨Or.inl e2, Lj_same1 (t := 1053) e2 d_law_592 (by decide) (hk μ' ν' hC2 (hR.keep hR2.1 hR2.2))⟩
set_option maxHeartbeats 4000000 in
theorem law_c13 (hL : L ≤ 3072) (hi : 0 ≤ i ∧ i + 6 ≤ (L : Int)) (hn : n ≤ 511) (hC : Cor n μ ν) (hR : RULs μ ν) (hk : ∀ μ' ν', Cor (n + 1) μ' ν' → RULs μ' ν' → Lj G G2 b L xs 1053 [vR (b : Int), vA 0, vR (G2.1 0 : Int), vI i] [] μ' ν') : Lj G G2 b L xs 597 [vR (b : Int), vA 0, vR (G2.1 0 : Int), vI i] [] μ ν := by
  refine Lj_aload (q := 598) d_law_597 rfl rfl rfl ?_
  refine Lj_rload (q := 599) d_law_598 rfl rfl rfl ?_
  refine Lj_iload (q := 600) d_law_599 rfl rfl rfl ?_
  refine Lj_iconst (q := 601) d_law_600 rfl ?_
  refine Lj_iadd (q := 602) d_law_601 rfl ?_
  refine Lj_ld (q := 603) hL ⟨by omega, by omega⟩ d_law_602 rfl ?_
  refine Lj_rload (q := 604) d_law_603 rfl rfl rfl ?_
  refine Lj_iload (q := 605) d_law_604 rfl rfl rfl ?_
  refine Lj_iconst (q := 606) d_law_605 rfl ?_
  refine Lj_iadd (q := 607) d_law_606 rfl ?_
  refine Lj_ld (q := 608) hL ⟨by omega, by omega⟩ d_law_607 rfl ?_
  refine Lj_callX (z := y_D_planned) (idx := 73) (as := [vI (sx xs (i + 1)), vI (sx xs (i + 2))]) (rest := []) ml_La_73 mw_D_planned mv_D_planned rfl d_law_608 rfl (i_c (i_c i_0)) (by decide) (C_planned hC hn (t32 _) (t32 _)) (fun r μ' hr0 hq => ?_)
  rw [if_neg (fun e => by have := hr0.mp e; cases this)]
  show Lj G G2 b L xs 611 [vR (b : Int), vA 0, vR (G2.1 0 : Int), vI i] [r] μ' ν
  refine Lj_rload (q := 612) d_law_611 rfl rfl rfl ?_
  refine Lj_rload (q := 613) d_law_612 rfl rfl rfl ?_
  refine Lj_iload (q := 614) d_law_613 rfl rfl rfl ?_
  refine Lj_iconst (q := 615) d_law_614 rfl ?_
  refine Lj_iadd (q := 616) d_law_615 rfl ?_
  refine Lj_ld (q := 617) hL ⟨by omega, by omega⟩ d_law_616 rfl ?_
  refine Lj_rload (q := 618) d_law_617 rfl rfl rfl ?_
  refine Lj_iload (q := 619) d_law_618 rfl rfl rfl ?_
  refine Lj_iconst (q := 620) d_law_619 rfl ?_
  refine Lj_iadd (q := 621) d_law_620 rfl ?_
  refine Lj_ld (q := 622) hL ⟨by omega, by omega⟩ d_law_621 rfl ?_
  refine Lj_callM (z := y_M_planned) (idx := 76) (as := [vI (sx xs (i + 1)), vI (sx xs (i + 2))]) (rest := [r]) ml_La_76 mw_M_planned mv_M_planned rfl d_law_622 rfl (i_c (i_c i_0)) (catN_2 r) hq (fun r' ν' hq2 => ?_)
  obtain ⟨⟨e1, e2⟩, hC2, hR2⟩ := hq2
  subst e1
  exact ⟨Or.inl e2, Lj_same1 (t := 1053) e2 d_law_625 (by decide) (hk μ' ν' hC2 (hR.keep hR2.1 hR2.2))⟩
set_option maxHeartbeats 4000000 in
theorem law_c14 (hL : L ≤ 3072) (hi : 0 ≤ i ∧ i + 6 ≤ (L : Int)) (hn : n ≤ 511) (hC : Cor n μ ν) (hR : RULs μ ν) (hk : ∀ μ' ν', Cor (n + 1) μ' ν' → RULs μ' ν' → Lj G G2 b L xs 1053 [vR (b : Int), vA 0, vR (G2.1 0 : Int), vI i] [] μ' ν') : Lj G G2 b L xs 630 [vR (b : Int), vA 0, vR (G2.1 0 : Int), vI i] [] μ ν := by
  refine Lj_aload (q := 631) d_law_630 rfl rfl rfl ?_
  refine Lj_rload (q := 632) d_law_631 rfl rfl rfl ?_
  refine Lj_iload (q := 633) d_law_632 rfl rfl rfl ?_
  refine Lj_iconst (q := 634) d_law_633 rfl ?_
  refine Lj_iadd (q := 635) d_law_634 rfl ?_
  refine Lj_ld (q := 636) hL ⟨by omega, by omega⟩ d_law_635 rfl ?_
  refine Lj_rload (q := 637) d_law_636 rfl rfl rfl ?_
  refine Lj_iload (q := 638) d_law_637 rfl rfl rfl ?_
  refine Lj_iconst (q := 639) d_law_638 rfl ?_
  refine Lj_iadd (q := 640) d_law_639 rfl ?_
  refine Lj_ld (q := 641) hL ⟨by omega, by omega⟩ d_law_640 rfl ?_
  refine Lj_rload (q := 642) d_law_641 rfl rfl rfl ?_
  refine Lj_iload (q := 643) d_law_642 rfl rfl rfl ?_
  refine Lj_iconst (q := 644) d_law_643 rfl ?_
  refine Lj_iadd (q := 645) d_law_644 rfl ?_
  refine Lj_ld (q := 646) hL ⟨by omega, by omega⟩ d_law_645 rfl ?_
  refine Lj_callX (z := y_D_row) (idx := 77) (as := [vI (sx xs (i + 1)), vI (sx xs (i + 2)), vI (sx xs (i + 3))]) (rest := []) ml_La_77 mw_D_row mv_D_row rfl d_law_646 rfl (i_c (i_c (i_c i_0))) (by decide) (C_row hC hn (t32 _) (t32 _) (t32 _)) (fun r μ' hr0 hq => ?_)
  rw [if_neg (fun e => by have := hr0.mp e; cases this)]
  show Lj G G2 b L xs 649 [vR (b : Int), vA 0, vR (G2.1 0 : Int), vI i] [r] μ' ν
  refine Lj_rload (q := 650) d_law_649 rfl rfl rfl ?_
  refine Lj_rload (q := 651) d_law_650 rfl rfl rfl ?_
  refine Lj_iload (q := 652) d_law_651 rfl rfl rfl ?_
  refine Lj_iconst (q := 653) d_law_652 rfl ?_
  refine Lj_iadd (q := 654) d_law_653 rfl ?_
  refine Lj_ld (q := 655) hL ⟨by omega, by omega⟩ d_law_654 rfl ?_
  refine Lj_rload (q := 656) d_law_655 rfl rfl rfl ?_
  refine Lj_iload (q := 657) d_law_656 rfl rfl rfl ?_
  refine Lj_iconst (q := 658) d_law_657 rfl ?_
  refine Lj_iadd (q := 659) d_law_658 rfl ?_
  refine Lj_ld (q := 660) hL ⟨by omega, by omega⟩ d_law_659 rfl ?_
  refine Lj_rload (q := 661) d_law_660 rfl rfl rfl ?_
  refine Lj_iload (q := 662) d_law_661 rfl rfl rfl ?_
  refine Lj_iconst (q := 663) d_law_662 rfl ?_
  refine Lj_iadd (q := 664) d_law_663 rfl ?_
  refine Lj_ld (q := 665) hL ⟨by omega, by omega⟩ d_law_664 rfl ?_
  refine Lj_callM (z := y_M_row) (idx := 81) (as := [vI (sx xs (i + 1)), vI (sx xs (i + 2)), vI (sx xs (i + 3))]) (rest := [r]) ml_La_81 mw_M_row mv_M_row rfl d_law_665 rfl (i_c (i_c (i_c i_0))) (catN_2 r) hq (fun r' ν' hq2 => ?_)
  obtain ⟨⟨e1, e2⟩, hC2, hR2⟩ := hq2
  subst e1
  exact ⟨Or.inl e2, Lj_same1 (t := 1053) e2 d_law_668 (by decide) (hk μ' ν' hC2 (hR.keep hR2.1 hR2.2))⟩
set_option maxHeartbeats 4000000 in
theorem law_c15 (hL : L ≤ 3072) (hi : 0 ≤ i ∧ i + 6 ≤ (L : Int)) (hn : n ≤ 511) (hC : Cor n μ ν) (hR : RULs μ ν) (hk : ∀ μ' ν', Cor (n + 1) μ' ν' → RULs μ' ν' → Lj G G2 b L xs 1053 [vR (b : Int), vA 0, vR (G2.1 0 : Int), vI i] [] μ' ν') : Lj G G2 b L xs 673 [vR (b : Int), vA 0, vR (G2.1 0 : Int), vI i] [] μ ν := by
  refine Lj_aload (q := 674) d_law_673 rfl rfl rfl ?_
  refine Lj_rload (q := 675) d_law_674 rfl rfl rfl ?_
  refine Lj_iload (q := 676) d_law_675 rfl rfl rfl ?_
  refine Lj_iconst (q := 677) d_law_676 rfl ?_
  refine Lj_iadd (q := 678) d_law_677 rfl ?_
  refine Lj_ld (q := 679) hL ⟨by omega, by omega⟩ d_law_678 rfl ?_
  refine Lj_rload (q := 680) d_law_679 rfl rfl rfl ?_
  refine Lj_iload (q := 681) d_law_680 rfl rfl rfl ?_
  refine Lj_iconst (q := 682) d_law_681 rfl ?_
  refine Lj_iadd (q := 683) d_law_682 rfl ?_
  refine Lj_ld (q := 684) hL ⟨by omega, by omega⟩ d_law_683 rfl ?_
  refine Lj_callX (z := y_D_cut) (idx := 82) (as := [vI (sx xs (i + 1)), vI (sx xs (i + 2))]) (rest := []) ml_La_82 mw_D_cut mv_D_cut rfl d_law_684 rfl (i_c (i_c i_0)) (by decide) (C_cut hC hn (t32 _) (t32 _)) (fun r μ' hr0 hq => ?_)
  rw [if_neg (fun e => by have := hr0.mp e; cases this)]
  show Lj G G2 b L xs 687 [vR (b : Int), vA 0, vR (G2.1 0 : Int), vI i] [r] μ' ν
  refine Lj_rload (q := 688) d_law_687 rfl rfl rfl ?_
  refine Lj_rload (q := 689) d_law_688 rfl rfl rfl ?_
  refine Lj_iload (q := 690) d_law_689 rfl rfl rfl ?_
  refine Lj_iconst (q := 691) d_law_690 rfl ?_
  refine Lj_iadd (q := 692) d_law_691 rfl ?_
  refine Lj_ld (q := 693) hL ⟨by omega, by omega⟩ d_law_692 rfl ?_
  refine Lj_rload (q := 694) d_law_693 rfl rfl rfl ?_
  refine Lj_iload (q := 695) d_law_694 rfl rfl rfl ?_
  refine Lj_iconst (q := 696) d_law_695 rfl ?_
  refine Lj_iadd (q := 697) d_law_696 rfl ?_
  refine Lj_ld (q := 698) hL ⟨by omega, by omega⟩ d_law_697 rfl ?_
  refine Lj_callM (z := y_M_cut) (idx := 85) (as := [vI (sx xs (i + 1)), vI (sx xs (i + 2))]) (rest := [r]) ml_La_85 mw_M_cut mv_M_cut rfl d_law_698 rfl (i_c (i_c i_0)) (catN_2 r) hq (fun r' ν' hq2 => ?_)
  obtain ⟨⟨e1, e2⟩, hC2, hR2⟩ := hq2
  subst e1
  exact ⟨Or.inl e2, Lj_same1 (t := 1053) e2 d_law_701 (by decide) (hk μ' ν' hC2 (hR.keep hR2.1 hR2.2))⟩
set_option maxHeartbeats 4000000 in
theorem law_c16 (hL : L ≤ 3072) (hi : 0 ≤ i ∧ i + 6 ≤ (L : Int)) (hn : n ≤ 511) (hC : Cor n μ ν) (hR : RULs μ ν) (hk : ∀ μ' ν', Cor (n + 1) μ' ν' → RULs μ' ν' → Lj G G2 b L xs 1053 [vR (b : Int), vA 0, vR (G2.1 0 : Int), vI i] [] μ' ν') : Lj G G2 b L xs 706 [vR (b : Int), vA 0, vR (G2.1 0 : Int), vI i] [] μ ν := by
  refine Lj_aload (q := 707) d_law_706 rfl rfl rfl ?_
  refine Lj_rload (q := 708) d_law_707 rfl rfl rfl ?_
  refine Lj_iload (q := 709) d_law_708 rfl rfl rfl ?_
  refine Lj_iconst (q := 710) d_law_709 rfl ?_
  refine Lj_iadd (q := 711) d_law_710 rfl ?_
  refine Lj_ld (q := 712) hL ⟨by omega, by omega⟩ d_law_711 rfl ?_
  refine Lj_callX (z := y_D_freed) (idx := 86) (as := [vI (sx xs (i + 1))]) (rest := []) ml_La_86 mw_D_freed mv_D_freed rfl d_law_712 rfl (i_c i_0) (by decide) (C_freed hC hn (t32 _)) (fun r μ' hr0 hq => ?_)
  rw [if_neg (fun e => by have := hr0.mp e; cases this)]
  show Lj G G2 b L xs 715 [vR (b : Int), vA 0, vR (G2.1 0 : Int), vI i] [r] μ' ν
  refine Lj_rload (q := 716) d_law_715 rfl rfl rfl ?_
  refine Lj_rload (q := 717) d_law_716 rfl rfl rfl ?_
  refine Lj_iload (q := 718) d_law_717 rfl rfl rfl ?_
  refine Lj_iconst (q := 719) d_law_718 rfl ?_
  refine Lj_iadd (q := 720) d_law_719 rfl ?_
  refine Lj_ld (q := 721) hL ⟨by omega, by omega⟩ d_law_720 rfl ?_
  refine Lj_callM (z := y_M_freed) (idx := 89) (as := [vI (sx xs (i + 1))]) (rest := [r]) ml_La_89 mw_M_freed mv_M_freed rfl d_law_721 rfl (i_c i_0) (catN_2 r) hq (fun r' ν' hq2 => ?_)
  obtain ⟨⟨e1, e2⟩, hC2, hR2⟩ := hq2
  subst e1
  exact ⟨Or.inl e2, Lj_same1 (t := 1053) e2 d_law_724 (by decide) (hk μ' ν' hC2 (hR.keep hR2.1 hR2.2))⟩
set_option maxHeartbeats 4000000 in
theorem law_c17 (hL : L ≤ 3072) (hi : 0 ≤ i ∧ i + 6 ≤ (L : Int)) (hn : n ≤ 511) (hC : Cor n μ ν) (hR : RULs μ ν) (hk : ∀ μ' ν', Cor (n + 1) μ' ν' → RULs μ' ν' → Lj G G2 b L xs 1053 [vR (b : Int), vA 0, vR (G2.1 0 : Int), vI i] [] μ' ν') : Lj G G2 b L xs 729 [vR (b : Int), vA 0, vR (G2.1 0 : Int), vI i] [] μ ν := by
  refine Lj_aload (q := 730) d_law_729 rfl rfl rfl ?_
  refine Lj_rload (q := 731) d_law_730 rfl rfl rfl ?_
  refine Lj_iload (q := 732) d_law_731 rfl rfl rfl ?_
  refine Lj_iconst (q := 733) d_law_732 rfl ?_
  refine Lj_iadd (q := 734) d_law_733 rfl ?_
  refine Lj_ld (q := 735) hL ⟨by omega, by omega⟩ d_law_734 rfl ?_
  refine Lj_rload (q := 736) d_law_735 rfl rfl rfl ?_
  refine Lj_iload (q := 737) d_law_736 rfl rfl rfl ?_
  refine Lj_iconst (q := 738) d_law_737 rfl ?_
  refine Lj_iadd (q := 739) d_law_738 rfl ?_
  refine Lj_ld (q := 740) hL ⟨by omega, by omega⟩ d_law_739 rfl ?_
  refine Lj_callX (z := y_D_seen) (idx := 90) (as := [vI (sx xs (i + 1)), vI (sx xs (i + 2))]) (rest := []) ml_La_90 mw_D_seen mv_D_seen rfl d_law_740 rfl (i_c (i_c i_0)) (by decide) (C_seen hC hn (t32 _) (t32 _)) (fun r μ' hr0 hq => ?_)
  rw [if_neg (fun e => by have := hr0.mp e; cases this)]
  show Lj G G2 b L xs 743 [vR (b : Int), vA 0, vR (G2.1 0 : Int), vI i] [r] μ' ν
  refine Lj_rload (q := 744) d_law_743 rfl rfl rfl ?_
  refine Lj_rload (q := 745) d_law_744 rfl rfl rfl ?_
  refine Lj_iload (q := 746) d_law_745 rfl rfl rfl ?_
  refine Lj_iconst (q := 747) d_law_746 rfl ?_
  refine Lj_iadd (q := 748) d_law_747 rfl ?_
  refine Lj_ld (q := 749) hL ⟨by omega, by omega⟩ d_law_748 rfl ?_
  refine Lj_rload (q := 750) d_law_749 rfl rfl rfl ?_
  refine Lj_iload (q := 751) d_law_750 rfl rfl rfl ?_
  refine Lj_iconst (q := 752) d_law_751 rfl ?_
  refine Lj_iadd (q := 753) d_law_752 rfl ?_
  refine Lj_ld (q := 754) hL ⟨by omega, by omega⟩ d_law_753 rfl ?_
  refine Lj_callM (z := y_M_seen) (idx := 93) (as := [vI (sx xs (i + 1)), vI (sx xs (i + 2))]) (rest := [r]) ml_La_93 mw_M_seen mv_M_seen rfl d_law_754 rfl (i_c (i_c i_0)) (catN_2 r) hq (fun r' ν' hq2 => ?_)
  obtain ⟨⟨e1, e2⟩, hC2, hR2⟩ := hq2
  subst e1
  exact ⟨Or.inl e2, Lj_same1 (t := 1053) e2 d_law_757 (by decide) (hk μ' ν' hC2 (hR.keep hR2.1 hR2.2))⟩
set_option maxHeartbeats 4000000 in
theorem law_c18 (hL : L ≤ 3072) (hi : 0 ≤ i ∧ i + 6 ≤ (L : Int)) (hn : n ≤ 511) (hC : Cor n μ ν) (hR : RULs μ ν) (hk : ∀ μ' ν', Cor (n + 1) μ' ν' → RULs μ' ν' → Lj G G2 b L xs 1053 [vR (b : Int), vA 0, vR (G2.1 0 : Int), vI i] [] μ' ν') : Lj G G2 b L xs 762 [vR (b : Int), vA 0, vR (G2.1 0 : Int), vI i] [] μ ν := by
  refine Lj_aload (q := 763) d_law_762 rfl rfl rfl ?_
  refine Lj_rload (q := 764) d_law_763 rfl rfl rfl ?_
  refine Lj_iload (q := 765) d_law_764 rfl rfl rfl ?_
  refine Lj_iconst (q := 766) d_law_765 rfl ?_
  refine Lj_iadd (q := 767) d_law_766 rfl ?_
  refine Lj_ld (q := 768) hL ⟨by omega, by omega⟩ d_law_767 rfl ?_
  refine Lj_callX (z := y_D_slipped) (idx := 94) (as := [vI (sx xs (i + 1))]) (rest := []) ml_La_94 mw_D_slipped mv_D_slipped rfl d_law_768 rfl (i_c i_0) (by decide) (C_slipped hC (t32 _)) (fun r μ' hr0 hq => ?_)
  rw [if_neg (fun e => by have := hr0.mp e; cases this)]
  show Lj G G2 b L xs 771 [vR (b : Int), vA 0, vR (G2.1 0 : Int), vI i] [r] μ' ν
  refine Lj_rload (q := 772) d_law_771 rfl rfl rfl ?_
  refine Lj_rload (q := 773) d_law_772 rfl rfl rfl ?_
  refine Lj_iload (q := 774) d_law_773 rfl rfl rfl ?_
  refine Lj_iconst (q := 775) d_law_774 rfl ?_
  refine Lj_iadd (q := 776) d_law_775 rfl ?_
  refine Lj_ld (q := 777) hL ⟨by omega, by omega⟩ d_law_776 rfl ?_
  refine Lj_callM (z := y_M_slipped) (idx := 97) (as := [vI (sx xs (i + 1))]) (rest := [r]) ml_La_97 mw_M_slipped mv_M_slipped rfl d_law_777 rfl (i_c i_0) (catN_2 r) hq (fun r' ν' hq2 => ?_)
  obtain ⟨⟨e1, e2⟩, hC2, hR2⟩ := hq2
  subst e1
  exact ⟨Or.inl e2, Lj_same1 (t := 1053) e2 d_law_780 (by decide) (hk μ' ν' hC2 (hR.keep hR2.1 hR2.2))⟩
set_option maxHeartbeats 4000000 in
theorem law_c19 (hL : L ≤ 3072) (hi : 0 ≤ i ∧ i + 6 ≤ (L : Int)) (hn : n ≤ 511) (hC : Cor n μ ν) (hR : RULs μ ν) (hk : ∀ μ' ν', Cor (n + 1) μ' ν' → RULs μ' ν' → Lj G G2 b L xs 1053 [vR (b : Int), vA 0, vR (G2.1 0 : Int), vI i] [] μ' ν') : Lj G G2 b L xs 785 [vR (b : Int), vA 0, vR (G2.1 0 : Int), vI i] [] μ ν := by
  refine Lj_aload (q := 786) d_law_785 rfl rfl rfl ?_
  refine Lj_rload (q := 787) d_law_786 rfl rfl rfl ?_
  refine Lj_iload (q := 788) d_law_787 rfl rfl rfl ?_
  refine Lj_iconst (q := 789) d_law_788 rfl ?_
  refine Lj_iadd (q := 790) d_law_789 rfl ?_
  refine Lj_ld (q := 791) hL ⟨by omega, by omega⟩ d_law_790 rfl ?_
  refine Lj_callX (z := y_D_coming) (idx := 98) (as := [vI (sx xs (i + 1))]) (rest := []) ml_La_98 mw_D_coming mv_D_coming rfl d_law_791 rfl (i_c i_0) (by decide) (C_coming hC hn (t32 _)) (fun r μ' hr0 hq => ?_)
  rw [if_neg (fun e => by have := hr0.mp e; cases this)]
  show Lj G G2 b L xs 794 [vR (b : Int), vA 0, vR (G2.1 0 : Int), vI i] [r] μ' ν
  refine Lj_rload (q := 795) d_law_794 rfl rfl rfl ?_
  refine Lj_rload (q := 796) d_law_795 rfl rfl rfl ?_
  refine Lj_iload (q := 797) d_law_796 rfl rfl rfl ?_
  refine Lj_iconst (q := 798) d_law_797 rfl ?_
  refine Lj_iadd (q := 799) d_law_798 rfl ?_
  refine Lj_ld (q := 800) hL ⟨by omega, by omega⟩ d_law_799 rfl ?_
  refine Lj_callM (z := y_M_coming) (idx := 101) (as := [vI (sx xs (i + 1))]) (rest := [r]) ml_La_101 mw_M_coming mv_M_coming rfl d_law_800 rfl (i_c i_0) (catN_2 r) hq (fun r' ν' hq2 => ?_)
  obtain ⟨⟨e1, e2⟩, hC2, hR2⟩ := hq2
  subst e1
  exact ⟨Or.inl e2, Lj_same1 (t := 1053) e2 d_law_803 (by decide) (hk μ' ν' hC2 (hR.keep hR2.1 hR2.2))⟩
set_option maxHeartbeats 4000000 in
theorem law_c20 (hL : L ≤ 3072) (hi : 0 ≤ i ∧ i + 6 ≤ (L : Int)) (hn : n ≤ 511) (hC : Cor n μ ν) (hR : RULs μ ν) (hk : ∀ μ' ν', Cor (n + 1) μ' ν' → RULs μ' ν' → Lj G G2 b L xs 1053 [vR (b : Int), vA 0, vR (G2.1 0 : Int), vI i] [] μ' ν') : Lj G G2 b L xs 808 [vR (b : Int), vA 0, vR (G2.1 0 : Int), vI i] [] μ ν := by
  refine Lj_aload (q := 809) d_law_808 rfl rfl rfl ?_
  refine Lj_rload (q := 810) d_law_809 rfl rfl rfl ?_
  refine Lj_iload (q := 811) d_law_810 rfl rfl rfl ?_
  refine Lj_iconst (q := 812) d_law_811 rfl ?_
  refine Lj_iadd (q := 813) d_law_812 rfl ?_
  refine Lj_ld (q := 814) hL ⟨by omega, by omega⟩ d_law_813 rfl ?_
  refine Lj_callX (z := y_D_day) (idx := 102) (as := [vI (sx xs (i + 1))]) (rest := []) ml_La_102 mw_D_day mv_D_day rfl d_law_814 rfl (i_c i_0) (by decide) (C_day hC hn (t32 _) hR) (fun r μ' hr0 hq => ?_)
  rw [if_neg (fun e => by have := hr0.mp e; cases this)]
  show Lj G G2 b L xs 817 [vR (b : Int), vA 0, vR (G2.1 0 : Int), vI i] [r] μ' ν
  refine Lj_rload (q := 818) d_law_817 rfl rfl rfl ?_
  refine Lj_rload (q := 819) d_law_818 rfl rfl rfl ?_
  refine Lj_iload (q := 820) d_law_819 rfl rfl rfl ?_
  refine Lj_iconst (q := 821) d_law_820 rfl ?_
  refine Lj_iadd (q := 822) d_law_821 rfl ?_
  refine Lj_ld (q := 823) hL ⟨by omega, by omega⟩ d_law_822 rfl ?_
  refine Lj_callM (z := y_M_day) (idx := 105) (as := [vI (sx xs (i + 1))]) (rest := [r]) ml_La_105 mw_M_day mv_M_day rfl d_law_823 rfl (i_c i_0) (catN_2 r) hq (fun r' ν' hq2 => ?_)
  obtain ⟨⟨e1, e2⟩, hC2, hR2⟩ := hq2
  subst e1
  exact ⟨Or.inl e2, Lj_same1 (t := 1053) e2 d_law_826 (by decide) (hk μ' ν' hC2 (hR.keep hR2.1 hR2.2))⟩
set_option maxHeartbeats 4000000 in
theorem law_c21 (hL : L ≤ 3072) (hi : 0 ≤ i ∧ i + 6 ≤ (L : Int)) (hn : n ≤ 511) (hC : Cor n μ ν) (hR : RULs μ ν) (hk : ∀ μ' ν', Cor (n + 1) μ' ν' → RULs μ' ν' → Lj G G2 b L xs 1053 [vR (b : Int), vA 0, vR (G2.1 0 : Int), vI i] [] μ' ν') : Lj G G2 b L xs 831 [vR (b : Int), vA 0, vR (G2.1 0 : Int), vI i] [] μ ν := by
  refine Lj_aload (q := 832) d_law_831 rfl rfl rfl ?_
  refine Lj_rload (q := 833) d_law_832 rfl rfl rfl ?_
  refine Lj_iload (q := 834) d_law_833 rfl rfl rfl ?_
  refine Lj_iconst (q := 835) d_law_834 rfl ?_
  refine Lj_iadd (q := 836) d_law_835 rfl ?_
  refine Lj_ld (q := 837) hL ⟨by omega, by omega⟩ d_law_836 rfl ?_
  refine Lj_rload (q := 838) d_law_837 rfl rfl rfl ?_
  refine Lj_iload (q := 839) d_law_838 rfl rfl rfl ?_
  refine Lj_iconst (q := 840) d_law_839 rfl ?_
  refine Lj_iadd (q := 841) d_law_840 rfl ?_
  refine Lj_ld (q := 842) hL ⟨by omega, by omega⟩ d_law_841 rfl ?_
  refine Lj_callX (z := y_D_would) (idx := 106) (as := [vI (sx xs (i + 1)), vI (sx xs (i + 2))]) (rest := []) ml_La_106 mw_D_would mv_D_would rfl d_law_842 rfl (i_c (i_c i_0)) (by decide) (C_would hC hn (t32 _) (t32 _) hR) (fun r μ' hr0 hq => ?_)
  rw [if_neg (fun e => by have := hr0.mp e; cases this)]
  show Lj G G2 b L xs 845 [vR (b : Int), vA 0, vR (G2.1 0 : Int), vI i] [r] μ' ν
  refine Lj_rload (q := 846) d_law_845 rfl rfl rfl ?_
  refine Lj_rload (q := 847) d_law_846 rfl rfl rfl ?_
  refine Lj_iload (q := 848) d_law_847 rfl rfl rfl ?_
  refine Lj_iconst (q := 849) d_law_848 rfl ?_
  refine Lj_iadd (q := 850) d_law_849 rfl ?_
  refine Lj_ld (q := 851) hL ⟨by omega, by omega⟩ d_law_850 rfl ?_
  refine Lj_rload (q := 852) d_law_851 rfl rfl rfl ?_
  refine Lj_iload (q := 853) d_law_852 rfl rfl rfl ?_
  refine Lj_iconst (q := 854) d_law_853 rfl ?_
  refine Lj_iadd (q := 855) d_law_854 rfl ?_
  refine Lj_ld (q := 856) hL ⟨by omega, by omega⟩ d_law_855 rfl ?_
  refine Lj_callM (z := y_M_would) (idx := 109) (as := [vI (sx xs (i + 1)), vI (sx xs (i + 2))]) (rest := [r]) ml_La_109 mw_M_would mv_M_would rfl d_law_856 rfl (i_c (i_c i_0)) (catN_2 r) hq (fun r' ν' hq2 => ?_)
  obtain ⟨⟨e1, e2⟩, hC2, hR2⟩ := hq2
  subst e1
  exact ⟨Or.inl e2, Lj_same1 (t := 1053) e2 d_law_859 (by decide) (hk μ' ν' hC2 (hR.keep hR2.1 hR2.2))⟩
set_option maxHeartbeats 4000000 in
theorem law_c22 (hL : L ≤ 3072) (hi : 0 ≤ i ∧ i + 6 ≤ (L : Int)) (hn : n ≤ 511) (hC : Cor n μ ν) (hR : RULs μ ν) (hk : ∀ μ' ν', Cor (n + 1) μ' ν' → RULs μ' ν' → Lj G G2 b L xs 1053 [vR (b : Int), vA 0, vR (G2.1 0 : Int), vI i] [] μ' ν') : Lj G G2 b L xs 864 [vR (b : Int), vA 0, vR (G2.1 0 : Int), vI i] [] μ ν := by
  refine Lj_aload (q := 865) d_law_864 rfl rfl rfl ?_
  refine Lj_rload (q := 866) d_law_865 rfl rfl rfl ?_
  refine Lj_iload (q := 867) d_law_866 rfl rfl rfl ?_
  refine Lj_iconst (q := 868) d_law_867 rfl ?_
  refine Lj_iadd (q := 869) d_law_868 rfl ?_
  refine Lj_ld (q := 870) hL ⟨by omega, by omega⟩ d_law_869 rfl ?_
  refine Lj_rload (q := 871) d_law_870 rfl rfl rfl ?_
  refine Lj_iload (q := 872) d_law_871 rfl rfl rfl ?_
  refine Lj_iconst (q := 873) d_law_872 rfl ?_
  refine Lj_iadd (q := 874) d_law_873 rfl ?_
  refine Lj_ld (q := 875) hL ⟨by omega, by omega⟩ d_law_874 rfl ?_
  refine Lj_rload (q := 876) d_law_875 rfl rfl rfl ?_
  refine Lj_iload (q := 877) d_law_876 rfl rfl rfl ?_
  refine Lj_iconst (q := 878) d_law_877 rfl ?_
  refine Lj_iadd (q := 879) d_law_878 rfl ?_
  refine Lj_ld (q := 880) hL ⟨by omega, by omega⟩ d_law_879 rfl ?_
  refine Lj_callX (z := y_D_worn) (idx := 110) (as := [vI (sx xs (i + 1)), vI (sx xs (i + 2)), vI (sx xs (i + 3))]) (rest := []) ml_La_110 mw_D_worn mv_D_worn rfl d_law_880 rfl (i_c (i_c (i_c i_0))) (by decide) (C_worn hC hn (t32 _) (t32 _) (t32 _) hR) (fun r μ' hr0 hq => ?_)
  rw [if_neg (fun e => by have := hr0.mp e; cases this)]
  show Lj G G2 b L xs 883 [vR (b : Int), vA 0, vR (G2.1 0 : Int), vI i] [r] μ' ν
  refine Lj_rload (q := 884) d_law_883 rfl rfl rfl ?_
  refine Lj_rload (q := 885) d_law_884 rfl rfl rfl ?_
  refine Lj_iload (q := 886) d_law_885 rfl rfl rfl ?_
  refine Lj_iconst (q := 887) d_law_886 rfl ?_
  refine Lj_iadd (q := 888) d_law_887 rfl ?_
  refine Lj_ld (q := 889) hL ⟨by omega, by omega⟩ d_law_888 rfl ?_
  refine Lj_rload (q := 890) d_law_889 rfl rfl rfl ?_
  refine Lj_iload (q := 891) d_law_890 rfl rfl rfl ?_
  refine Lj_iconst (q := 892) d_law_891 rfl ?_
  refine Lj_iadd (q := 893) d_law_892 rfl ?_
  refine Lj_ld (q := 894) hL ⟨by omega, by omega⟩ d_law_893 rfl ?_
  refine Lj_rload (q := 895) d_law_894 rfl rfl rfl ?_
  refine Lj_iload (q := 896) d_law_895 rfl rfl rfl ?_
  refine Lj_iconst (q := 897) d_law_896 rfl ?_
  refine Lj_iadd (q := 898) d_law_897 rfl ?_
  refine Lj_ld (q := 899) hL ⟨by omega, by omega⟩ d_law_898 rfl ?_
  refine Lj_callM (z := y_M_worn) (idx := 113) (as := [vI (sx xs (i + 1)), vI (sx xs (i + 2)), vI (sx xs (i + 3))]) (rest := [r]) ml_La_113 mw_M_worn mv_M_worn rfl d_law_899 rfl (i_c (i_c (i_c i_0))) (catN_2 r) hq (fun r' ν' hq2 => ?_)
  obtain ⟨⟨e1, e2⟩, hC2, hR2⟩ := hq2
  subst e1
  exact ⟨Or.inr e2, Lj_same2 (q := 903) (t := 1053) e2 d_law_902 rfl d_law_903 (by decide) (hk μ' ν' hC2 (hR.keep hR2.1 hR2.2))⟩
set_option maxHeartbeats 4000000 in
theorem law_c23 (hL : L ≤ 3072) (hi : 0 ≤ i ∧ i + 6 ≤ (L : Int)) (hn : n ≤ 511) (hC : Cor n μ ν) (hR : RULs μ ν) (hk : ∀ μ' ν', Cor (n + 1) μ' ν' → RULs μ' ν' → Lj G G2 b L xs 1053 [vR (b : Int), vA 0, vR (G2.1 0 : Int), vI i] [] μ' ν') : Lj G G2 b L xs 908 [vR (b : Int), vA 0, vR (G2.1 0 : Int), vI i] [] μ ν := by
  refine Lj_aload (q := 909) d_law_908 rfl rfl rfl ?_
  refine Lj_rload (q := 910) d_law_909 rfl rfl rfl ?_
  refine Lj_iload (q := 911) d_law_910 rfl rfl rfl ?_
  refine Lj_iconst (q := 912) d_law_911 rfl ?_
  refine Lj_iadd (q := 913) d_law_912 rfl ?_
  refine Lj_ld (q := 914) hL ⟨by omega, by omega⟩ d_law_913 rfl ?_
  refine Lj_callX (z := y_D_seed) (idx := 114) (as := [vI (sx xs (i + 1))]) (rest := []) ml_La_114 mw_D_seed mv_D_seed rfl d_law_914 rfl (i_c i_0) (by decide) (C_seed hC hn (t32 _)) (fun r μ' hr0 hq => ?_)
  rw [if_neg (fun e => by have := hr0.mp e; cases this)]
  show Lj G G2 b L xs 917 [vR (b : Int), vA 0, vR (G2.1 0 : Int), vI i] [r] μ' ν
  refine Lj_rload (q := 918) d_law_917 rfl rfl rfl ?_
  refine Lj_rload (q := 919) d_law_918 rfl rfl rfl ?_
  refine Lj_iload (q := 920) d_law_919 rfl rfl rfl ?_
  refine Lj_iconst (q := 921) d_law_920 rfl ?_
  refine Lj_iadd (q := 922) d_law_921 rfl ?_
  refine Lj_ld (q := 923) hL ⟨by omega, by omega⟩ d_law_922 rfl ?_
  refine Lj_callM (z := y_M_seed) (idx := 117) (as := [vI (sx xs (i + 1))]) (rest := [r]) ml_La_117 mw_M_seed mv_M_seed rfl d_law_923 rfl (i_c i_0) (catN_2 r) hq (fun r' ν' hq2 => ?_)
  obtain ⟨⟨e1, e2⟩, hC2, hR2⟩ := hq2
  subst e1
  exact ⟨Or.inl e2, Lj_same1 (t := 1053) e2 d_law_926 (by decide) (hk μ' ν' hC2 (hR.keep hR2.1 hR2.2))⟩
set_option maxHeartbeats 4000000 in
theorem law_c24 (hL : L ≤ 3072) (hi : 0 ≤ i ∧ i + 6 ≤ (L : Int)) (hn : n ≤ 511) (hC : Cor n μ ν) (hR : RULs μ ν) (hk : ∀ μ' ν', Cor (n + 1) μ' ν' → RULs μ' ν' → Lj G G2 b L xs 1053 [vR (b : Int), vA 0, vR (G2.1 0 : Int), vI i] [] μ' ν') : Lj G G2 b L xs 931 [vR (b : Int), vA 0, vR (G2.1 0 : Int), vI i] [] μ ν := by
  refine Lj_aload (q := 932) d_law_931 rfl rfl rfl ?_
  refine Lj_rload (q := 933) d_law_932 rfl rfl rfl ?_
  refine Lj_iload (q := 934) d_law_933 rfl rfl rfl ?_
  refine Lj_iconst (q := 935) d_law_934 rfl ?_
  refine Lj_iadd (q := 936) d_law_935 rfl ?_
  refine Lj_ld (q := 937) hL ⟨by omega, by omega⟩ d_law_936 rfl ?_
  refine Lj_rload (q := 938) d_law_937 rfl rfl rfl ?_
  refine Lj_iload (q := 939) d_law_938 rfl rfl rfl ?_
  refine Lj_iconst (q := 940) d_law_939 rfl ?_
  refine Lj_iadd (q := 941) d_law_940 rfl ?_
  refine Lj_ld (q := 942) hL ⟨by omega, by omega⟩ d_law_941 rfl ?_
  refine Lj_rload (q := 943) d_law_942 rfl rfl rfl ?_
  refine Lj_iload (q := 944) d_law_943 rfl rfl rfl ?_
  refine Lj_iconst (q := 945) d_law_944 rfl ?_
  refine Lj_iadd (q := 946) d_law_945 rfl ?_
  refine Lj_ld (q := 947) hL ⟨by omega, by omega⟩ d_law_946 rfl ?_
  refine Lj_rload (q := 948) d_law_947 rfl rfl rfl ?_
  refine Lj_iload (q := 949) d_law_948 rfl rfl rfl ?_
  refine Lj_iconst (q := 950) d_law_949 rfl ?_
  refine Lj_iadd (q := 951) d_law_950 rfl ?_
  refine Lj_ld (q := 952) hL ⟨by omega, by omega⟩ d_law_951 rfl ?_
  refine Lj_callX (z := y_D_drawn) (idx := 118) (as := [vI (sx xs (i + 1)), vI (sx xs (i + 2)), vI (sx xs (i + 3)), vI (sx xs (i + 4))]) (rest := []) ml_La_118 mw_D_drawn mv_D_drawn rfl d_law_952 rfl (i_c (i_c (i_c (i_c i_0)))) (by decide) (C_drawn hC hn (t32 _) (t32 _) (t32 _) (t32 _) hR) (fun r μ' hr0 hq => ?_)
  rw [if_neg (fun e => by have := hr0.mp e; cases this)]
  show Lj G G2 b L xs 955 [vR (b : Int), vA 0, vR (G2.1 0 : Int), vI i] [r] μ' ν
  refine Lj_rload (q := 956) d_law_955 rfl rfl rfl ?_
  refine Lj_rload (q := 957) d_law_956 rfl rfl rfl ?_
  refine Lj_iload (q := 958) d_law_957 rfl rfl rfl ?_
  refine Lj_iconst (q := 959) d_law_958 rfl ?_
  refine Lj_iadd (q := 960) d_law_959 rfl ?_
  refine Lj_ld (q := 961) hL ⟨by omega, by omega⟩ d_law_960 rfl ?_
  refine Lj_rload (q := 962) d_law_961 rfl rfl rfl ?_
  refine Lj_iload (q := 963) d_law_962 rfl rfl rfl ?_
  refine Lj_iconst (q := 964) d_law_963 rfl ?_
  refine Lj_iadd (q := 965) d_law_964 rfl ?_
  refine Lj_ld (q := 966) hL ⟨by omega, by omega⟩ d_law_965 rfl ?_
  refine Lj_rload (q := 967) d_law_966 rfl rfl rfl ?_
  refine Lj_iload (q := 968) d_law_967 rfl rfl rfl ?_
  refine Lj_iconst (q := 969) d_law_968 rfl ?_
  refine Lj_iadd (q := 970) d_law_969 rfl ?_
  refine Lj_ld (q := 971) hL ⟨by omega, by omega⟩ d_law_970 rfl ?_
  refine Lj_rload (q := 972) d_law_971 rfl rfl rfl ?_
  refine Lj_iload (q := 973) d_law_972 rfl rfl rfl ?_
  refine Lj_iconst (q := 974) d_law_973 rfl ?_
  refine Lj_iadd (q := 975) d_law_974 rfl ?_
  refine Lj_ld (q := 976) hL ⟨by omega, by omega⟩ d_law_975 rfl ?_
  refine Lj_callM (z := y_M_drawn) (idx := 122) (as := [vI (sx xs (i + 1)), vI (sx xs (i + 2)), vI (sx xs (i + 3)), vI (sx xs (i + 4))]) (rest := [r]) ml_La_122 mw_M_drawn mv_M_drawn rfl d_law_976 rfl (i_c (i_c (i_c (i_c i_0)))) (catN_2 r) hq (fun r' ν' hq2 => ?_)
  obtain ⟨⟨e1, e2⟩, hC2, hR2⟩ := hq2
  subst e1
  exact ⟨Or.inl e2, Lj_same1 (t := 1053) e2 d_law_979 (by decide) (hk μ' ν' hC2 (hR.keep hR2.1 hR2.2))⟩
set_option maxHeartbeats 4000000 in
theorem law_c25 (hL : L ≤ 3072) (hi : 0 ≤ i ∧ i + 6 ≤ (L : Int)) (hn : n ≤ 511) (hC : Cor n μ ν) (hR : RULs μ ν) (hk : ∀ μ' ν', Cor (n + 1) μ' ν' → RULs μ' ν' → Lj G G2 b L xs 1053 [vR (b : Int), vA 0, vR (G2.1 0 : Int), vI i] [] μ' ν') : Lj G G2 b L xs 984 [vR (b : Int), vA 0, vR (G2.1 0 : Int), vI i] [] μ ν := by
  refine Lj_aload (q := 985) d_law_984 rfl rfl rfl ?_
  refine Lj_rload (q := 986) d_law_985 rfl rfl rfl ?_
  refine Lj_iload (q := 987) d_law_986 rfl rfl rfl ?_
  refine Lj_iconst (q := 988) d_law_987 rfl ?_
  refine Lj_iadd (q := 989) d_law_988 rfl ?_
  refine Lj_ld (q := 990) hL ⟨by omega, by omega⟩ d_law_989 rfl ?_
  refine Lj_callX (z := y_D_count) (idx := 123) (as := [vI (sx xs (i + 1))]) (rest := []) ml_La_123 mw_D_count mv_D_count rfl d_law_990 rfl (i_c i_0) (by decide) (C_count hC hn (t32 _) hR.2.1) (fun r μ' hr0 hq => ?_)
  rw [if_neg (fun e => by have := hr0.mp e; cases this)]
  show Lj G G2 b L xs 993 [vR (b : Int), vA 0, vR (G2.1 0 : Int), vI i] [r] μ' ν
  refine Lj_rload (q := 994) d_law_993 rfl rfl rfl ?_
  refine Lj_rload (q := 995) d_law_994 rfl rfl rfl ?_
  refine Lj_iload (q := 996) d_law_995 rfl rfl rfl ?_
  refine Lj_iconst (q := 997) d_law_996 rfl ?_
  refine Lj_iadd (q := 998) d_law_997 rfl ?_
  refine Lj_ld (q := 999) hL ⟨by omega, by omega⟩ d_law_998 rfl ?_
  refine Lj_callM (z := y_M_count) (idx := 126) (as := [vI (sx xs (i + 1))]) (rest := [r]) ml_La_126 mw_M_count mv_M_count rfl d_law_999 rfl (i_c i_0) (catN_2 r) hq (fun r' ν' hq2 => ?_)
  obtain ⟨⟨e1, e2⟩, hC2, hR2⟩ := hq2
  subst e1
  exact ⟨Or.inl e2, Lj_same1 (t := 1053) e2 d_law_1002 (by decide) (hk μ' ν' hC2 (hR.keep hR2.1 hR2.2))⟩
set_option maxHeartbeats 4000000 in
theorem law_c26 (hL : L ≤ 3072) (hi : 0 ≤ i ∧ i + 6 ≤ (L : Int)) (hn : n ≤ 511) (hC : Cor n μ ν) (hR : RULs μ ν) (hk : ∀ μ' ν', Cor (n + 1) μ' ν' → RULs μ' ν' → Lj G G2 b L xs 1053 [vR (b : Int), vA 0, vR (G2.1 0 : Int), vI i] [] μ' ν') : Lj G G2 b L xs 1007 [vR (b : Int), vA 0, vR (G2.1 0 : Int), vI i] [] μ ν := by
  refine Lj_aload (q := 1008) d_law_1007 rfl rfl rfl ?_
  refine Lj_rload (q := 1009) d_law_1008 rfl rfl rfl ?_
  refine Lj_iload (q := 1010) d_law_1009 rfl rfl rfl ?_
  refine Lj_iconst (q := 1011) d_law_1010 rfl ?_
  refine Lj_iadd (q := 1012) d_law_1011 rfl ?_
  refine Lj_ld (q := 1013) hL ⟨by omega, by omega⟩ d_law_1012 rfl ?_
  refine Lj_callX (z := y_D_image) (idx := 127) (as := [vI (sx xs (i + 1))]) (rest := []) ml_La_127 mw_D_image mv_D_image rfl d_law_1013 rfl (i_c i_0) (by decide) (C_image hC (t32 _)) (fun r μ' hr0 hq => ?_)
  rw [if_neg (fun e => by have := hr0.mp e; cases this)]
  show Lj G G2 b L xs 1016 [vR (b : Int), vA 0, vR (G2.1 0 : Int), vI i] [r] μ' ν
  refine Lj_rload (q := 1017) d_law_1016 rfl rfl rfl ?_
  refine Lj_rload (q := 1018) d_law_1017 rfl rfl rfl ?_
  refine Lj_iload (q := 1019) d_law_1018 rfl rfl rfl ?_
  refine Lj_iconst (q := 1020) d_law_1019 rfl ?_
  refine Lj_iadd (q := 1021) d_law_1020 rfl ?_
  refine Lj_ld (q := 1022) hL ⟨by omega, by omega⟩ d_law_1021 rfl ?_
  refine Lj_callM (z := y_M_image) (idx := 130) (as := [vI (sx xs (i + 1))]) (rest := [r]) ml_La_130 mw_M_image mv_M_image rfl d_law_1022 rfl (i_c i_0) (catN_2 r) hq (fun r' ν' hq2 => ?_)
  obtain ⟨⟨e1, e2⟩, hC2, hR2⟩ := hq2
  subst e1
  exact ⟨Or.inl e2, Lj_same1 (t := 1053) e2 d_law_1025 (by decide) (hk μ' ν' hC2 (hR.keep hR2.1 hR2.2))⟩
set_option maxHeartbeats 4000000 in
theorem law_c27 (hL : L ≤ 3072) (hi : 0 ≤ i ∧ i + 6 ≤ (L : Int)) (hn : n ≤ 511) (hC : Cor n μ ν) (hR : RULs μ ν) (hk : ∀ μ' ν', Cor (n + 1) μ' ν' → RULs μ' ν' → Lj G G2 b L xs 1053 [vR (b : Int), vA 0, vR (G2.1 0 : Int), vI i] [] μ' ν') : Lj G G2 b L xs 1030 [vR (b : Int), vA 0, vR (G2.1 0 : Int), vI i] [] μ ν := by
  refine Lj_aload (q := 1031) d_law_1030 rfl rfl rfl ?_
  refine Lj_rload (q := 1032) d_law_1031 rfl rfl rfl ?_
  refine Lj_iload (q := 1033) d_law_1032 rfl rfl rfl ?_
  refine Lj_iconst (q := 1034) d_law_1033 rfl ?_
  refine Lj_iadd (q := 1035) d_law_1034 rfl ?_
  refine Lj_ld (q := 1036) hL ⟨by omega, by omega⟩ d_law_1035 rfl ?_
  refine Lj_callX (z := y_D_back) (idx := 131) (as := [vI (sx xs (i + 1))]) (rest := []) ml_La_131 mw_D_back mv_D_back rfl d_law_1036 rfl (i_c i_0) (by decide) (C_back hC hn (t32 _)) (fun r μ' hr0 hq => ?_)
  rw [if_neg (fun e => by have := hr0.mp e; cases this)]
  show Lj G G2 b L xs 1039 [vR (b : Int), vA 0, vR (G2.1 0 : Int), vI i] [r] μ' ν
  refine Lj_rload (q := 1040) d_law_1039 rfl rfl rfl ?_
  refine Lj_rload (q := 1041) d_law_1040 rfl rfl rfl ?_
  refine Lj_iload (q := 1042) d_law_1041 rfl rfl rfl ?_
  refine Lj_iconst (q := 1043) d_law_1042 rfl ?_
  refine Lj_iadd (q := 1044) d_law_1043 rfl ?_
  refine Lj_ld (q := 1045) hL ⟨by omega, by omega⟩ d_law_1044 rfl ?_
  refine Lj_callM (z := y_M_back) (idx := 134) (as := [vI (sx xs (i + 1))]) (rest := [r]) ml_La_134 mw_M_back mv_M_back rfl d_law_1045 rfl (i_c i_0) (catN_2 r) hq (fun r' ν' hq2 => ?_)
  obtain ⟨⟨e1, e2⟩, hC2, hR2⟩ := hq2
  subst e1
  exact ⟨Or.inl e2, Lj_same1 (t := 1053) e2 d_law_1048 (by decide) (hk μ' ν' hC2 (hR.keep hR2.1 hR2.2))⟩
end LOOP
