theorem dL_0 : decode code 0 = .ok (.new 7, 3) := by decide +kernel
theorem dL_3 : decode code 3 = .ok (.dup, 1) := by decide +kernel
theorem dL_4 : decode code 4 = .ok (.invokespecial 9, 3) := by decide +kernel
theorem dL_7 : decode code 7 = .ok (.astore_n 1, 1) := by decide +kernel
theorem dL_8 : decode code 8 = .ok (.new 10, 3) := by decide +kernel
theorem dL_11 : decode code 11 = .ok (.dup, 1) := by decide +kernel
theorem dL_12 : decode code 12 = .ok (.invokespecial 12, 3) := by decide +kernel
theorem dL_15 : decode code 15 = .ok (.astore_n 2, 1) := by decide +kernel
theorem dL_16 : decode code 16 = .ok (.iconst 0, 1) := by decide +kernel
theorem dL_17 : decode code 17 = .ok (.istore_n 3, 1) := by decide +kernel
theorem dL_18 : decode code 18 = .ok (.iload_n 3, 1) := by decide +kernel
theorem dL_19 : decode code 19 = .ok (.aload_n 0, 1) := by decide +kernel
theorem dL_20 : decode code 20 = .ok (.arraylength, 1) := by decide +kernel
theorem dL_21 : decode code 21 = .ok (.bipush 7, 2) := by decide +kernel
theorem dL_23 : decode code 23 = .ok (.isub, 1) := by decide +kernel
theorem dL_24 : decode code 24 = .ok (.if_icmp .gt 977, 3) := by decide +kernel
theorem dL_27 : decode code 27 = .ok (.aload_n 0, 1) := by decide +kernel
theorem dL_28 : decode code 28 = .ok (.iload_n 3, 1) := by decide +kernel
theorem dL_29 : decode code 29 = .ok (.iaload, 1) := by decide +kernel
theorem dL_30 : decode code 30 = .ok (.bipush 31, 2) := by decide +kernel
theorem dL_32 : decode code 32 = .ok (.iand, 1) := by decide +kernel
theorem dL_33 : decode code 33 = .ok (.tableswitch 962 0 26 #[123, 176, 229, 262, 295, 308, 331, 344, 357, 380, 413, 446, 499, 574, 617, 650, 673, 686, 709, 752, 775, 808, 821, 844, 857, 916, 939], 123) := by decide +kernel
theorem dL_156 : decode code 156 = .ok (.aload_n 1, 1) := by decide +kernel
theorem dL_157 : decode code 157 = .ok (.aload_n 0, 1) := by decide +kernel
theorem dL_158 : decode code 158 = .ok (.iload_n 3, 1) := by decide +kernel
theorem dL_159 : decode code 159 = .ok (.iconst 1, 1) := by decide +kernel
theorem dL_160 : decode code 160 = .ok (.iadd, 1) := by decide +kernel
theorem dL_161 : decode code 161 = .ok (.iaload, 1) := by decide +kernel
theorem dL_162 : decode code 162 = .ok (.aload_n 0, 1) := by decide +kernel
theorem dL_163 : decode code 163 = .ok (.iload_n 3, 1) := by decide +kernel
theorem dL_164 : decode code 164 = .ok (.iconst 2, 1) := by decide +kernel
theorem dL_165 : decode code 165 = .ok (.iadd, 1) := by decide +kernel
theorem dL_166 : decode code 166 = .ok (.iaload, 1) := by decide +kernel
theorem dL_167 : decode code 167 = .ok (.aload_n 0, 1) := by decide +kernel
theorem dL_168 : decode code 168 = .ok (.iload_n 3, 1) := by decide +kernel
theorem dL_169 : decode code 169 = .ok (.iconst 3, 1) := by decide +kernel
theorem dL_170 : decode code 170 = .ok (.iadd, 1) := by decide +kernel
theorem dL_171 : decode code 171 = .ok (.iaload, 1) := by decide +kernel
theorem dL_172 : decode code 172 = .ok (.aload_n 0, 1) := by decide +kernel
theorem dL_173 : decode code 173 = .ok (.iload_n 3, 1) := by decide +kernel
theorem dL_174 : decode code 174 = .ok (.iconst 4, 1) := by decide +kernel
theorem dL_175 : decode code 175 = .ok (.iadd, 1) := by decide +kernel
theorem dL_176 : decode code 176 = .ok (.iaload, 1) := by decide +kernel
theorem dL_177 : decode code 177 = .ok (.invokevirtual 13, 3) := by decide +kernel
theorem dL_180 : decode code 180 = .ok (.aload_n 2, 1) := by decide +kernel
theorem dL_181 : decode code 181 = .ok (.aload_n 0, 1) := by decide +kernel
theorem dL_182 : decode code 182 = .ok (.iload_n 3, 1) := by decide +kernel
theorem dL_183 : decode code 183 = .ok (.iconst 1, 1) := by decide +kernel
theorem dL_184 : decode code 184 = .ok (.iadd, 1) := by decide +kernel
theorem dL_185 : decode code 185 = .ok (.iaload, 1) := by decide +kernel
theorem dL_186 : decode code 186 = .ok (.aload_n 0, 1) := by decide +kernel
theorem dL_187 : decode code 187 = .ok (.iload_n 3, 1) := by decide +kernel
theorem dL_188 : decode code 188 = .ok (.iconst 2, 1) := by decide +kernel
theorem dL_189 : decode code 189 = .ok (.iadd, 1) := by decide +kernel
theorem dL_190 : decode code 190 = .ok (.iaload, 1) := by decide +kernel
theorem dL_191 : decode code 191 = .ok (.aload_n 0, 1) := by decide +kernel
theorem dL_192 : decode code 192 = .ok (.iload_n 3, 1) := by decide +kernel
theorem dL_193 : decode code 193 = .ok (.iconst 3, 1) := by decide +kernel
theorem dL_194 : decode code 194 = .ok (.iadd, 1) := by decide +kernel
theorem dL_195 : decode code 195 = .ok (.iaload, 1) := by decide +kernel
theorem dL_196 : decode code 196 = .ok (.aload_n 0, 1) := by decide +kernel
theorem dL_197 : decode code 197 = .ok (.iload_n 3, 1) := by decide +kernel
theorem dL_198 : decode code 198 = .ok (.iconst 4, 1) := by decide +kernel
theorem dL_199 : decode code 199 = .ok (.iadd, 1) := by decide +kernel
theorem dL_200 : decode code 200 = .ok (.iaload, 1) := by decide +kernel
theorem dL_201 : decode code 201 = .ok (.invokevirtual 17, 3) := by decide +kernel
theorem dL_204 : decode code 204 = .ok (.if_icmp .eq 791, 3) := by decide +kernel
theorem dL_207 : decode code 207 = .ok (.iconst 0, 1) := by decide +kernel
theorem dL_208 : decode code 208 = .ok (.ireturn, 1) := by decide +kernel
theorem dL_209 : decode code 209 = .ok (.aload_n 1, 1) := by decide +kernel
theorem dL_210 : decode code 210 = .ok (.aload_n 0, 1) := by decide +kernel
theorem dL_211 : decode code 211 = .ok (.iload_n 3, 1) := by decide +kernel
theorem dL_212 : decode code 212 = .ok (.iconst 1, 1) := by decide +kernel
theorem dL_213 : decode code 213 = .ok (.iadd, 1) := by decide +kernel
theorem dL_214 : decode code 214 = .ok (.iaload, 1) := by decide +kernel
theorem dL_215 : decode code 215 = .ok (.aload_n 0, 1) := by decide +kernel
theorem dL_216 : decode code 216 = .ok (.iload_n 3, 1) := by decide +kernel
theorem dL_217 : decode code 217 = .ok (.iconst 2, 1) := by decide +kernel
theorem dL_218 : decode code 218 = .ok (.iadd, 1) := by decide +kernel
theorem dL_219 : decode code 219 = .ok (.iaload, 1) := by decide +kernel
theorem dL_220 : decode code 220 = .ok (.aload_n 0, 1) := by decide +kernel
theorem dL_221 : decode code 221 = .ok (.iload_n 3, 1) := by decide +kernel
theorem dL_222 : decode code 222 = .ok (.iconst 3, 1) := by decide +kernel
theorem dL_223 : decode code 223 = .ok (.iadd, 1) := by decide +kernel
theorem dL_224 : decode code 224 = .ok (.iaload, 1) := by decide +kernel
theorem dL_225 : decode code 225 = .ok (.aload_n 0, 1) := by decide +kernel
theorem dL_226 : decode code 226 = .ok (.iload_n 3, 1) := by decide +kernel
theorem dL_227 : decode code 227 = .ok (.iconst 4, 1) := by decide +kernel
theorem dL_228 : decode code 228 = .ok (.iadd, 1) := by decide +kernel
theorem dL_229 : decode code 229 = .ok (.iaload, 1) := by decide +kernel
theorem dL_230 : decode code 230 = .ok (.invokevirtual 18, 3) := by decide +kernel
theorem dL_233 : decode code 233 = .ok (.aload_n 2, 1) := by decide +kernel
theorem dL_234 : decode code 234 = .ok (.aload_n 0, 1) := by decide +kernel
theorem dL_235 : decode code 235 = .ok (.iload_n 3, 1) := by decide +kernel
theorem dL_236 : decode code 236 = .ok (.iconst 1, 1) := by decide +kernel
theorem dL_237 : decode code 237 = .ok (.iadd, 1) := by decide +kernel
theorem dL_238 : decode code 238 = .ok (.iaload, 1) := by decide +kernel
theorem dL_239 : decode code 239 = .ok (.aload_n 0, 1) := by decide +kernel
theorem dL_240 : decode code 240 = .ok (.iload_n 3, 1) := by decide +kernel
theorem dL_241 : decode code 241 = .ok (.iconst 2, 1) := by decide +kernel
theorem dL_242 : decode code 242 = .ok (.iadd, 1) := by decide +kernel
theorem dL_243 : decode code 243 = .ok (.iaload, 1) := by decide +kernel
theorem dL_244 : decode code 244 = .ok (.aload_n 0, 1) := by decide +kernel
theorem dL_245 : decode code 245 = .ok (.iload_n 3, 1) := by decide +kernel
theorem dL_246 : decode code 246 = .ok (.iconst 3, 1) := by decide +kernel
theorem dL_247 : decode code 247 = .ok (.iadd, 1) := by decide +kernel
theorem dL_248 : decode code 248 = .ok (.iaload, 1) := by decide +kernel
theorem dL_249 : decode code 249 = .ok (.aload_n 0, 1) := by decide +kernel
theorem dL_250 : decode code 250 = .ok (.iload_n 3, 1) := by decide +kernel
theorem dL_251 : decode code 251 = .ok (.iconst 4, 1) := by decide +kernel
theorem dL_252 : decode code 252 = .ok (.iadd, 1) := by decide +kernel
theorem dL_253 : decode code 253 = .ok (.iaload, 1) := by decide +kernel
theorem dL_254 : decode code 254 = .ok (.invokevirtual 21, 3) := by decide +kernel
theorem dL_257 : decode code 257 = .ok (.if_icmp .eq 738, 3) := by decide +kernel
theorem dL_260 : decode code 260 = .ok (.iconst 0, 1) := by decide +kernel
theorem dL_261 : decode code 261 = .ok (.ireturn, 1) := by decide +kernel
theorem dL_262 : decode code 262 = .ok (.aload_n 1, 1) := by decide +kernel
theorem dL_263 : decode code 263 = .ok (.aload_n 0, 1) := by decide +kernel
theorem dL_264 : decode code 264 = .ok (.iload_n 3, 1) := by decide +kernel
theorem dL_265 : decode code 265 = .ok (.iconst 1, 1) := by decide +kernel
theorem dL_266 : decode code 266 = .ok (.iadd, 1) := by decide +kernel
theorem dL_267 : decode code 267 = .ok (.iaload, 1) := by decide +kernel
theorem dL_268 : decode code 268 = .ok (.aload_n 0, 1) := by decide +kernel
theorem dL_269 : decode code 269 = .ok (.iload_n 3, 1) := by decide +kernel
theorem dL_270 : decode code 270 = .ok (.iconst 2, 1) := by decide +kernel
theorem dL_271 : decode code 271 = .ok (.iadd, 1) := by decide +kernel
theorem dL_272 : decode code 272 = .ok (.iaload, 1) := by decide +kernel
theorem dL_273 : decode code 273 = .ok (.invokevirtual 22, 3) := by decide +kernel
theorem dL_276 : decode code 276 = .ok (.aload_n 2, 1) := by decide +kernel
theorem dL_277 : decode code 277 = .ok (.aload_n 0, 1) := by decide +kernel
theorem dL_278 : decode code 278 = .ok (.iload_n 3, 1) := by decide +kernel
theorem dL_279 : decode code 279 = .ok (.iconst 1, 1) := by decide +kernel
theorem dL_280 : decode code 280 = .ok (.iadd, 1) := by decide +kernel
theorem dL_281 : decode code 281 = .ok (.iaload, 1) := by decide +kernel
theorem dL_282 : decode code 282 = .ok (.aload_n 0, 1) := by decide +kernel
theorem dL_283 : decode code 283 = .ok (.iload_n 3, 1) := by decide +kernel
theorem dL_284 : decode code 284 = .ok (.iconst 2, 1) := by decide +kernel
theorem dL_285 : decode code 285 = .ok (.iadd, 1) := by decide +kernel
theorem dL_286 : decode code 286 = .ok (.iaload, 1) := by decide +kernel
theorem dL_287 : decode code 287 = .ok (.invokevirtual 26, 3) := by decide +kernel
theorem dL_290 : decode code 290 = .ok (.if_icmp .eq 705, 3) := by decide +kernel
theorem dL_293 : decode code 293 = .ok (.iconst 0, 1) := by decide +kernel
theorem dL_294 : decode code 294 = .ok (.ireturn, 1) := by decide +kernel
theorem dL_295 : decode code 295 = .ok (.aload_n 1, 1) := by decide +kernel
theorem dL_296 : decode code 296 = .ok (.aload_n 0, 1) := by decide +kernel
theorem dL_297 : decode code 297 = .ok (.iload_n 3, 1) := by decide +kernel
theorem dL_298 : decode code 298 = .ok (.iconst 1, 1) := by decide +kernel
theorem dL_299 : decode code 299 = .ok (.iadd, 1) := by decide +kernel
theorem dL_300 : decode code 300 = .ok (.iaload, 1) := by decide +kernel
theorem dL_301 : decode code 301 = .ok (.aload_n 0, 1) := by decide +kernel
theorem dL_302 : decode code 302 = .ok (.iload_n 3, 1) := by decide +kernel
theorem dL_303 : decode code 303 = .ok (.iconst 2, 1) := by decide +kernel
theorem dL_304 : decode code 304 = .ok (.iadd, 1) := by decide +kernel
theorem dL_305 : decode code 305 = .ok (.iaload, 1) := by decide +kernel
theorem dL_306 : decode code 306 = .ok (.invokevirtual 27, 3) := by decide +kernel
theorem dL_309 : decode code 309 = .ok (.aload_n 2, 1) := by decide +kernel
theorem dL_310 : decode code 310 = .ok (.aload_n 0, 1) := by decide +kernel
theorem dL_311 : decode code 311 = .ok (.iload_n 3, 1) := by decide +kernel
theorem dL_312 : decode code 312 = .ok (.iconst 1, 1) := by decide +kernel
theorem dL_313 : decode code 313 = .ok (.iadd, 1) := by decide +kernel
theorem dL_314 : decode code 314 = .ok (.iaload, 1) := by decide +kernel
theorem dL_315 : decode code 315 = .ok (.aload_n 0, 1) := by decide +kernel
theorem dL_316 : decode code 316 = .ok (.iload_n 3, 1) := by decide +kernel
theorem dL_317 : decode code 317 = .ok (.iconst 2, 1) := by decide +kernel
theorem dL_318 : decode code 318 = .ok (.iadd, 1) := by decide +kernel
theorem dL_319 : decode code 319 = .ok (.iaload, 1) := by decide +kernel
theorem dL_320 : decode code 320 = .ok (.invokevirtual 30, 3) := by decide +kernel
theorem dL_323 : decode code 323 = .ok (.if_icmp .eq 672, 3) := by decide +kernel
theorem dL_326 : decode code 326 = .ok (.iconst 0, 1) := by decide +kernel
theorem dL_327 : decode code 327 = .ok (.ireturn, 1) := by decide +kernel
theorem dL_328 : decode code 328 = .ok (.aload_n 1, 1) := by decide +kernel
theorem dL_329 : decode code 329 = .ok (.invokevirtual 31, 3) := by decide +kernel
theorem dL_332 : decode code 332 = .ok (.aload_n 2, 1) := by decide +kernel
theorem dL_333 : decode code 333 = .ok (.invokevirtual 35, 3) := by decide +kernel
theorem dL_336 : decode code 336 = .ok (.if_icmp .eq 659, 3) := by decide +kernel
theorem dL_339 : decode code 339 = .ok (.iconst 0, 1) := by decide +kernel
theorem dL_340 : decode code 340 = .ok (.ireturn, 1) := by decide +kernel
theorem dL_341 : decode code 341 = .ok (.aload_n 1, 1) := by decide +kernel
theorem dL_342 : decode code 342 = .ok (.aload_n 0, 1) := by decide +kernel
theorem dL_343 : decode code 343 = .ok (.iload_n 3, 1) := by decide +kernel
theorem dL_344 : decode code 344 = .ok (.iconst 1, 1) := by decide +kernel
theorem dL_345 : decode code 345 = .ok (.iadd, 1) := by decide +kernel
theorem dL_346 : decode code 346 = .ok (.iaload, 1) := by decide +kernel
theorem dL_347 : decode code 347 = .ok (.invokevirtual 36, 3) := by decide +kernel
theorem dL_350 : decode code 350 = .ok (.aload_n 2, 1) := by decide +kernel
theorem dL_351 : decode code 351 = .ok (.aload_n 0, 1) := by decide +kernel
theorem dL_352 : decode code 352 = .ok (.iload_n 3, 1) := by decide +kernel
theorem dL_353 : decode code 353 = .ok (.iconst 1, 1) := by decide +kernel
theorem dL_354 : decode code 354 = .ok (.iadd, 1) := by decide +kernel
theorem dL_355 : decode code 355 = .ok (.iaload, 1) := by decide +kernel
theorem dL_356 : decode code 356 = .ok (.invokevirtual 40, 3) := by decide +kernel
theorem dL_359 : decode code 359 = .ok (.if_icmp .eq 636, 3) := by decide +kernel
theorem dL_362 : decode code 362 = .ok (.iconst 0, 1) := by decide +kernel
theorem dL_363 : decode code 363 = .ok (.ireturn, 1) := by decide +kernel
theorem dL_364 : decode code 364 = .ok (.aload_n 1, 1) := by decide +kernel
theorem dL_365 : decode code 365 = .ok (.invokevirtual 41, 3) := by decide +kernel
theorem dL_368 : decode code 368 = .ok (.aload_n 2, 1) := by decide +kernel
theorem dL_369 : decode code 369 = .ok (.invokevirtual 44, 3) := by decide +kernel
theorem dL_372 : decode code 372 = .ok (.if_icmp .eq 623, 3) := by decide +kernel
theorem dL_375 : decode code 375 = .ok (.iconst 0, 1) := by decide +kernel
theorem dL_376 : decode code 376 = .ok (.ireturn, 1) := by decide +kernel
theorem dL_377 : decode code 377 = .ok (.aload_n 1, 1) := by decide +kernel
theorem dL_378 : decode code 378 = .ok (.invokevirtual 45, 3) := by decide +kernel
theorem dL_381 : decode code 381 = .ok (.aload_n 2, 1) := by decide +kernel
theorem dL_382 : decode code 382 = .ok (.invokevirtual 48, 3) := by decide +kernel
theorem dL_385 : decode code 385 = .ok (.if_icmp .eq 610, 3) := by decide +kernel
theorem dL_388 : decode code 388 = .ok (.iconst 0, 1) := by decide +kernel
theorem dL_389 : decode code 389 = .ok (.ireturn, 1) := by decide +kernel
theorem dL_390 : decode code 390 = .ok (.aload_n 1, 1) := by decide +kernel
theorem dL_391 : decode code 391 = .ok (.aload_n 0, 1) := by decide +kernel
theorem dL_392 : decode code 392 = .ok (.iload_n 3, 1) := by decide +kernel
theorem dL_393 : decode code 393 = .ok (.iconst 1, 1) := by decide +kernel
theorem dL_394 : decode code 394 = .ok (.iadd, 1) := by decide +kernel
theorem dL_395 : decode code 395 = .ok (.iaload, 1) := by decide +kernel
theorem dL_396 : decode code 396 = .ok (.invokevirtual 49, 3) := by decide +kernel
theorem dL_399 : decode code 399 = .ok (.aload_n 2, 1) := by decide +kernel
theorem dL_400 : decode code 400 = .ok (.aload_n 0, 1) := by decide +kernel
theorem dL_401 : decode code 401 = .ok (.iload_n 3, 1) := by decide +kernel
theorem dL_402 : decode code 402 = .ok (.iconst 1, 1) := by decide +kernel
theorem dL_403 : decode code 403 = .ok (.iadd, 1) := by decide +kernel
theorem dL_404 : decode code 404 = .ok (.iaload, 1) := by decide +kernel
theorem dL_405 : decode code 405 = .ok (.invokevirtual 52, 3) := by decide +kernel
theorem dL_408 : decode code 408 = .ok (.if_icmp .eq 587, 3) := by decide +kernel
theorem dL_411 : decode code 411 = .ok (.iconst 0, 1) := by decide +kernel
theorem dL_412 : decode code 412 = .ok (.ireturn, 1) := by decide +kernel
theorem dL_413 : decode code 413 = .ok (.aload_n 1, 1) := by decide +kernel
theorem dL_414 : decode code 414 = .ok (.aload_n 0, 1) := by decide +kernel
theorem dL_415 : decode code 415 = .ok (.iload_n 3, 1) := by decide +kernel
theorem dL_416 : decode code 416 = .ok (.iconst 1, 1) := by decide +kernel
theorem dL_417 : decode code 417 = .ok (.iadd, 1) := by decide +kernel
theorem dL_418 : decode code 418 = .ok (.iaload, 1) := by decide +kernel
theorem dL_419 : decode code 419 = .ok (.aload_n 0, 1) := by decide +kernel
theorem dL_420 : decode code 420 = .ok (.iload_n 3, 1) := by decide +kernel
theorem dL_421 : decode code 421 = .ok (.iconst 2, 1) := by decide +kernel
theorem dL_422 : decode code 422 = .ok (.iadd, 1) := by decide +kernel
theorem dL_423 : decode code 423 = .ok (.iaload, 1) := by decide +kernel
theorem dL_424 : decode code 424 = .ok (.invokevirtual 53, 3) := by decide +kernel
theorem dL_427 : decode code 427 = .ok (.aload_n 2, 1) := by decide +kernel
theorem dL_428 : decode code 428 = .ok (.aload_n 0, 1) := by decide +kernel
theorem dL_429 : decode code 429 = .ok (.iload_n 3, 1) := by decide +kernel
theorem dL_430 : decode code 430 = .ok (.iconst 1, 1) := by decide +kernel
theorem dL_431 : decode code 431 = .ok (.iadd, 1) := by decide +kernel
theorem dL_432 : decode code 432 = .ok (.iaload, 1) := by decide +kernel
theorem dL_433 : decode code 433 = .ok (.aload_n 0, 1) := by decide +kernel
theorem dL_434 : decode code 434 = .ok (.iload_n 3, 1) := by decide +kernel
theorem dL_435 : decode code 435 = .ok (.iconst 2, 1) := by decide +kernel
theorem dL_436 : decode code 436 = .ok (.iadd, 1) := by decide +kernel
theorem dL_437 : decode code 437 = .ok (.iaload, 1) := by decide +kernel
theorem dL_438 : decode code 438 = .ok (.invokevirtual 56, 3) := by decide +kernel
theorem dL_441 : decode code 441 = .ok (.if_icmp .eq 554, 3) := by decide +kernel
theorem dL_444 : decode code 444 = .ok (.iconst 0, 1) := by decide +kernel
theorem dL_445 : decode code 445 = .ok (.ireturn, 1) := by decide +kernel
theorem dL_446 : decode code 446 = .ok (.aload_n 1, 1) := by decide +kernel
theorem dL_447 : decode code 447 = .ok (.aload_n 0, 1) := by decide +kernel
theorem dL_448 : decode code 448 = .ok (.iload_n 3, 1) := by decide +kernel
theorem dL_449 : decode code 449 = .ok (.iconst 1, 1) := by decide +kernel
theorem dL_450 : decode code 450 = .ok (.iadd, 1) := by decide +kernel
theorem dL_451 : decode code 451 = .ok (.iaload, 1) := by decide +kernel
theorem dL_452 : decode code 452 = .ok (.aload_n 0, 1) := by decide +kernel
theorem dL_453 : decode code 453 = .ok (.iload_n 3, 1) := by decide +kernel
theorem dL_454 : decode code 454 = .ok (.iconst 2, 1) := by decide +kernel
theorem dL_455 : decode code 455 = .ok (.iadd, 1) := by decide +kernel
theorem dL_456 : decode code 456 = .ok (.iaload, 1) := by decide +kernel
theorem dL_457 : decode code 457 = .ok (.invokevirtual 57, 3) := by decide +kernel
theorem dL_460 : decode code 460 = .ok (.aload_n 2, 1) := by decide +kernel
theorem dL_461 : decode code 461 = .ok (.aload_n 0, 1) := by decide +kernel
theorem dL_462 : decode code 462 = .ok (.iload_n 3, 1) := by decide +kernel
theorem dL_463 : decode code 463 = .ok (.iconst 1, 1) := by decide +kernel
theorem dL_464 : decode code 464 = .ok (.iadd, 1) := by decide +kernel
theorem dL_465 : decode code 465 = .ok (.iaload, 1) := by decide +kernel
theorem dL_466 : decode code 466 = .ok (.aload_n 0, 1) := by decide +kernel
theorem dL_467 : decode code 467 = .ok (.iload_n 3, 1) := by decide +kernel
theorem dL_468 : decode code 468 = .ok (.iconst 2, 1) := by decide +kernel
theorem dL_469 : decode code 469 = .ok (.iadd, 1) := by decide +kernel
theorem dL_470 : decode code 470 = .ok (.iaload, 1) := by decide +kernel
theorem dL_471 : decode code 471 = .ok (.invokevirtual 60, 3) := by decide +kernel
theorem dL_474 : decode code 474 = .ok (.if_icmp .eq 521, 3) := by decide +kernel
theorem dL_477 : decode code 477 = .ok (.iconst 0, 1) := by decide +kernel
theorem dL_478 : decode code 478 = .ok (.ireturn, 1) := by decide +kernel
theorem dL_479 : decode code 479 = .ok (.aload_n 1, 1) := by decide +kernel
theorem dL_480 : decode code 480 = .ok (.aload_n 0, 1) := by decide +kernel
theorem dL_481 : decode code 481 = .ok (.iload_n 3, 1) := by decide +kernel
theorem dL_482 : decode code 482 = .ok (.iconst 1, 1) := by decide +kernel
theorem dL_483 : decode code 483 = .ok (.iadd, 1) := by decide +kernel
theorem dL_484 : decode code 484 = .ok (.iaload, 1) := by decide +kernel
theorem dL_485 : decode code 485 = .ok (.aload_n 0, 1) := by decide +kernel
theorem dL_486 : decode code 486 = .ok (.iload_n 3, 1) := by decide +kernel
theorem dL_487 : decode code 487 = .ok (.iconst 2, 1) := by decide +kernel
theorem dL_488 : decode code 488 = .ok (.iadd, 1) := by decide +kernel
theorem dL_489 : decode code 489 = .ok (.iaload, 1) := by decide +kernel
theorem dL_490 : decode code 490 = .ok (.aload_n 0, 1) := by decide +kernel
theorem dL_491 : decode code 491 = .ok (.iload_n 3, 1) := by decide +kernel
theorem dL_492 : decode code 492 = .ok (.iconst 3, 1) := by decide +kernel
theorem dL_493 : decode code 493 = .ok (.iadd, 1) := by decide +kernel
theorem dL_494 : decode code 494 = .ok (.iaload, 1) := by decide +kernel
theorem dL_495 : decode code 495 = .ok (.aload_n 0, 1) := by decide +kernel
theorem dL_496 : decode code 496 = .ok (.iload_n 3, 1) := by decide +kernel
theorem dL_497 : decode code 497 = .ok (.iconst 4, 1) := by decide +kernel
theorem dL_498 : decode code 498 = .ok (.iadd, 1) := by decide +kernel
theorem dL_499 : decode code 499 = .ok (.iaload, 1) := by decide +kernel
theorem dL_500 : decode code 500 = .ok (.invokevirtual 61, 3) := by decide +kernel
theorem dL_503 : decode code 503 = .ok (.aload_n 2, 1) := by decide +kernel
theorem dL_504 : decode code 504 = .ok (.aload_n 0, 1) := by decide +kernel
theorem dL_505 : decode code 505 = .ok (.iload_n 3, 1) := by decide +kernel
theorem dL_506 : decode code 506 = .ok (.iconst 1, 1) := by decide +kernel
theorem dL_507 : decode code 507 = .ok (.iadd, 1) := by decide +kernel
theorem dL_508 : decode code 508 = .ok (.iaload, 1) := by decide +kernel
theorem dL_509 : decode code 509 = .ok (.aload_n 0, 1) := by decide +kernel
theorem dL_510 : decode code 510 = .ok (.iload_n 3, 1) := by decide +kernel
theorem dL_511 : decode code 511 = .ok (.iconst 2, 1) := by decide +kernel
theorem dL_512 : decode code 512 = .ok (.iadd, 1) := by decide +kernel
theorem dL_513 : decode code 513 = .ok (.iaload, 1) := by decide +kernel
theorem dL_514 : decode code 514 = .ok (.aload_n 0, 1) := by decide +kernel
theorem dL_515 : decode code 515 = .ok (.iload_n 3, 1) := by decide +kernel
theorem dL_516 : decode code 516 = .ok (.iconst 3, 1) := by decide +kernel
theorem dL_517 : decode code 517 = .ok (.iadd, 1) := by decide +kernel
theorem dL_518 : decode code 518 = .ok (.iaload, 1) := by decide +kernel
theorem dL_519 : decode code 519 = .ok (.aload_n 0, 1) := by decide +kernel
theorem dL_520 : decode code 520 = .ok (.iload_n 3, 1) := by decide +kernel
theorem dL_521 : decode code 521 = .ok (.iconst 4, 1) := by decide +kernel
theorem dL_522 : decode code 522 = .ok (.iadd, 1) := by decide +kernel
theorem dL_523 : decode code 523 = .ok (.iaload, 1) := by decide +kernel
theorem dL_524 : decode code 524 = .ok (.invokevirtual 64, 3) := by decide +kernel
theorem dL_527 : decode code 527 = .ok (.if_icmp .eq 468, 3) := by decide +kernel
theorem dL_530 : decode code 530 = .ok (.iconst 0, 1) := by decide +kernel
theorem dL_531 : decode code 531 = .ok (.ireturn, 1) := by decide +kernel
theorem dL_532 : decode code 532 = .ok (.aload_n 1, 1) := by decide +kernel
theorem dL_533 : decode code 533 = .ok (.aload_n 0, 1) := by decide +kernel
theorem dL_534 : decode code 534 = .ok (.iload_n 3, 1) := by decide +kernel
theorem dL_535 : decode code 535 = .ok (.iconst 1, 1) := by decide +kernel
theorem dL_536 : decode code 536 = .ok (.iadd, 1) := by decide +kernel
theorem dL_537 : decode code 537 = .ok (.iaload, 1) := by decide +kernel
theorem dL_538 : decode code 538 = .ok (.aload_n 0, 1) := by decide +kernel
theorem dL_539 : decode code 539 = .ok (.iload_n 3, 1) := by decide +kernel
theorem dL_540 : decode code 540 = .ok (.iconst 2, 1) := by decide +kernel
theorem dL_541 : decode code 541 = .ok (.iadd, 1) := by decide +kernel
theorem dL_542 : decode code 542 = .ok (.iaload, 1) := by decide +kernel
theorem dL_543 : decode code 543 = .ok (.aload_n 0, 1) := by decide +kernel
theorem dL_544 : decode code 544 = .ok (.iload_n 3, 1) := by decide +kernel
theorem dL_545 : decode code 545 = .ok (.iconst 3, 1) := by decide +kernel
theorem dL_546 : decode code 546 = .ok (.iadd, 1) := by decide +kernel
theorem dL_547 : decode code 547 = .ok (.iaload, 1) := by decide +kernel
theorem dL_548 : decode code 548 = .ok (.aload_n 0, 1) := by decide +kernel
theorem dL_549 : decode code 549 = .ok (.iload_n 3, 1) := by decide +kernel
theorem dL_550 : decode code 550 = .ok (.iconst 4, 1) := by decide +kernel
theorem dL_551 : decode code 551 = .ok (.iadd, 1) := by decide +kernel
theorem dL_552 : decode code 552 = .ok (.iaload, 1) := by decide +kernel
theorem dL_553 : decode code 553 = .ok (.aload_n 0, 1) := by decide +kernel
theorem dL_554 : decode code 554 = .ok (.iload_n 3, 1) := by decide +kernel
theorem dL_555 : decode code 555 = .ok (.iconst 5, 1) := by decide +kernel
theorem dL_556 : decode code 556 = .ok (.iadd, 1) := by decide +kernel
theorem dL_557 : decode code 557 = .ok (.iaload, 1) := by decide +kernel
theorem dL_558 : decode code 558 = .ok (.aload_n 0, 1) := by decide +kernel
theorem dL_559 : decode code 559 = .ok (.iload_n 3, 1) := by decide +kernel
theorem dL_560 : decode code 560 = .ok (.bipush 6, 2) := by decide +kernel
theorem dL_562 : decode code 562 = .ok (.iadd, 1) := by decide +kernel
theorem dL_563 : decode code 563 = .ok (.iaload, 1) := by decide +kernel
theorem dL_564 : decode code 564 = .ok (.invokevirtual 65, 3) := by decide +kernel
theorem dL_567 : decode code 567 = .ok (.aload_n 2, 1) := by decide +kernel
theorem dL_568 : decode code 568 = .ok (.aload_n 0, 1) := by decide +kernel
theorem dL_569 : decode code 569 = .ok (.iload_n 3, 1) := by decide +kernel
theorem dL_570 : decode code 570 = .ok (.iconst 1, 1) := by decide +kernel
theorem dL_571 : decode code 571 = .ok (.iadd, 1) := by decide +kernel
theorem dL_572 : decode code 572 = .ok (.iaload, 1) := by decide +kernel
theorem dL_573 : decode code 573 = .ok (.aload_n 0, 1) := by decide +kernel
theorem dL_574 : decode code 574 = .ok (.iload_n 3, 1) := by decide +kernel
theorem dL_575 : decode code 575 = .ok (.iconst 2, 1) := by decide +kernel
theorem dL_576 : decode code 576 = .ok (.iadd, 1) := by decide +kernel
theorem dL_577 : decode code 577 = .ok (.iaload, 1) := by decide +kernel
theorem dL_578 : decode code 578 = .ok (.aload_n 0, 1) := by decide +kernel
theorem dL_579 : decode code 579 = .ok (.iload_n 3, 1) := by decide +kernel
theorem dL_580 : decode code 580 = .ok (.iconst 3, 1) := by decide +kernel
theorem dL_581 : decode code 581 = .ok (.iadd, 1) := by decide +kernel
theorem dL_582 : decode code 582 = .ok (.iaload, 1) := by decide +kernel
theorem dL_583 : decode code 583 = .ok (.aload_n 0, 1) := by decide +kernel
theorem dL_584 : decode code 584 = .ok (.iload_n 3, 1) := by decide +kernel
theorem dL_585 : decode code 585 = .ok (.iconst 4, 1) := by decide +kernel
theorem dL_586 : decode code 586 = .ok (.iadd, 1) := by decide +kernel
theorem dL_587 : decode code 587 = .ok (.iaload, 1) := by decide +kernel
theorem dL_588 : decode code 588 = .ok (.aload_n 0, 1) := by decide +kernel
theorem dL_589 : decode code 589 = .ok (.iload_n 3, 1) := by decide +kernel
theorem dL_590 : decode code 590 = .ok (.iconst 5, 1) := by decide +kernel
theorem dL_591 : decode code 591 = .ok (.iadd, 1) := by decide +kernel
theorem dL_592 : decode code 592 = .ok (.iaload, 1) := by decide +kernel
theorem dL_593 : decode code 593 = .ok (.aload_n 0, 1) := by decide +kernel
theorem dL_594 : decode code 594 = .ok (.iload_n 3, 1) := by decide +kernel
theorem dL_595 : decode code 595 = .ok (.bipush 6, 2) := by decide +kernel
theorem dL_597 : decode code 597 = .ok (.iadd, 1) := by decide +kernel
theorem dL_598 : decode code 598 = .ok (.iaload, 1) := by decide +kernel
theorem dL_599 : decode code 599 = .ok (.invokevirtual 69, 3) := by decide +kernel
theorem dL_602 : decode code 602 = .ok (.if_icmp .eq 393, 3) := by decide +kernel
theorem dL_605 : decode code 605 = .ok (.iconst 0, 1) := by decide +kernel
theorem dL_606 : decode code 606 = .ok (.ireturn, 1) := by decide +kernel
theorem dL_607 : decode code 607 = .ok (.aload_n 1, 1) := by decide +kernel
theorem dL_608 : decode code 608 = .ok (.aload_n 0, 1) := by decide +kernel
theorem dL_609 : decode code 609 = .ok (.iload_n 3, 1) := by decide +kernel
theorem dL_610 : decode code 610 = .ok (.iconst 1, 1) := by decide +kernel
theorem dL_611 : decode code 611 = .ok (.iadd, 1) := by decide +kernel
theorem dL_612 : decode code 612 = .ok (.iaload, 1) := by decide +kernel
theorem dL_613 : decode code 613 = .ok (.aload_n 0, 1) := by decide +kernel
theorem dL_614 : decode code 614 = .ok (.iload_n 3, 1) := by decide +kernel
theorem dL_615 : decode code 615 = .ok (.iconst 2, 1) := by decide +kernel
theorem dL_616 : decode code 616 = .ok (.iadd, 1) := by decide +kernel
theorem dL_617 : decode code 617 = .ok (.iaload, 1) := by decide +kernel
theorem dL_618 : decode code 618 = .ok (.aload_n 0, 1) := by decide +kernel
theorem dL_619 : decode code 619 = .ok (.iload_n 3, 1) := by decide +kernel
theorem dL_620 : decode code 620 = .ok (.iconst 3, 1) := by decide +kernel
theorem dL_621 : decode code 621 = .ok (.iadd, 1) := by decide +kernel
theorem dL_622 : decode code 622 = .ok (.iaload, 1) := by decide +kernel
theorem dL_623 : decode code 623 = .ok (.invokevirtual 70, 3) := by decide +kernel
theorem dL_626 : decode code 626 = .ok (.aload_n 2, 1) := by decide +kernel
theorem dL_627 : decode code 627 = .ok (.aload_n 0, 1) := by decide +kernel
theorem dL_628 : decode code 628 = .ok (.iload_n 3, 1) := by decide +kernel
theorem dL_629 : decode code 629 = .ok (.iconst 1, 1) := by decide +kernel
theorem dL_630 : decode code 630 = .ok (.iadd, 1) := by decide +kernel
theorem dL_631 : decode code 631 = .ok (.iaload, 1) := by decide +kernel
theorem dL_632 : decode code 632 = .ok (.aload_n 0, 1) := by decide +kernel
theorem dL_633 : decode code 633 = .ok (.iload_n 3, 1) := by decide +kernel
theorem dL_634 : decode code 634 = .ok (.iconst 2, 1) := by decide +kernel
theorem dL_635 : decode code 635 = .ok (.iadd, 1) := by decide +kernel
theorem dL_636 : decode code 636 = .ok (.iaload, 1) := by decide +kernel
theorem dL_637 : decode code 637 = .ok (.aload_n 0, 1) := by decide +kernel
theorem dL_638 : decode code 638 = .ok (.iload_n 3, 1) := by decide +kernel
theorem dL_639 : decode code 639 = .ok (.iconst 3, 1) := by decide +kernel
theorem dL_640 : decode code 640 = .ok (.iadd, 1) := by decide +kernel
theorem dL_641 : decode code 641 = .ok (.iaload, 1) := by decide +kernel
theorem dL_642 : decode code 642 = .ok (.invokevirtual 74, 3) := by decide +kernel
theorem dL_645 : decode code 645 = .ok (.if_icmp .eq 350, 3) := by decide +kernel
theorem dL_648 : decode code 648 = .ok (.iconst 0, 1) := by decide +kernel
theorem dL_649 : decode code 649 = .ok (.ireturn, 1) := by decide +kernel
theorem dL_650 : decode code 650 = .ok (.aload_n 1, 1) := by decide +kernel
theorem dL_651 : decode code 651 = .ok (.aload_n 0, 1) := by decide +kernel
theorem dL_652 : decode code 652 = .ok (.iload_n 3, 1) := by decide +kernel
theorem dL_653 : decode code 653 = .ok (.iconst 1, 1) := by decide +kernel
theorem dL_654 : decode code 654 = .ok (.iadd, 1) := by decide +kernel
theorem dL_655 : decode code 655 = .ok (.iaload, 1) := by decide +kernel
theorem dL_656 : decode code 656 = .ok (.aload_n 0, 1) := by decide +kernel
theorem dL_657 : decode code 657 = .ok (.iload_n 3, 1) := by decide +kernel
theorem dL_658 : decode code 658 = .ok (.iconst 2, 1) := by decide +kernel
theorem dL_659 : decode code 659 = .ok (.iadd, 1) := by decide +kernel
theorem dL_660 : decode code 660 = .ok (.iaload, 1) := by decide +kernel
theorem dL_661 : decode code 661 = .ok (.invokevirtual 75, 3) := by decide +kernel
theorem dL_664 : decode code 664 = .ok (.aload_n 2, 1) := by decide +kernel
theorem dL_665 : decode code 665 = .ok (.aload_n 0, 1) := by decide +kernel
theorem dL_666 : decode code 666 = .ok (.iload_n 3, 1) := by decide +kernel
theorem dL_667 : decode code 667 = .ok (.iconst 1, 1) := by decide +kernel
theorem dL_668 : decode code 668 = .ok (.iadd, 1) := by decide +kernel
theorem dL_669 : decode code 669 = .ok (.iaload, 1) := by decide +kernel
theorem dL_670 : decode code 670 = .ok (.aload_n 0, 1) := by decide +kernel
theorem dL_671 : decode code 671 = .ok (.iload_n 3, 1) := by decide +kernel
theorem dL_672 : decode code 672 = .ok (.iconst 2, 1) := by decide +kernel
theorem dL_673 : decode code 673 = .ok (.iadd, 1) := by decide +kernel
theorem dL_674 : decode code 674 = .ok (.iaload, 1) := by decide +kernel
theorem dL_675 : decode code 675 = .ok (.invokevirtual 78, 3) := by decide +kernel
theorem dL_678 : decode code 678 = .ok (.if_icmp .eq 317, 3) := by decide +kernel
theorem dL_681 : decode code 681 = .ok (.iconst 0, 1) := by decide +kernel
theorem dL_682 : decode code 682 = .ok (.ireturn, 1) := by decide +kernel
theorem dL_683 : decode code 683 = .ok (.aload_n 1, 1) := by decide +kernel
theorem dL_684 : decode code 684 = .ok (.aload_n 0, 1) := by decide +kernel
theorem dL_685 : decode code 685 = .ok (.iload_n 3, 1) := by decide +kernel
theorem dL_686 : decode code 686 = .ok (.iconst 1, 1) := by decide +kernel
theorem dL_687 : decode code 687 = .ok (.iadd, 1) := by decide +kernel
theorem dL_688 : decode code 688 = .ok (.iaload, 1) := by decide +kernel
theorem dL_689 : decode code 689 = .ok (.invokevirtual 79, 3) := by decide +kernel
theorem dL_692 : decode code 692 = .ok (.aload_n 2, 1) := by decide +kernel
theorem dL_693 : decode code 693 = .ok (.aload_n 0, 1) := by decide +kernel
theorem dL_694 : decode code 694 = .ok (.iload_n 3, 1) := by decide +kernel
theorem dL_695 : decode code 695 = .ok (.iconst 1, 1) := by decide +kernel
theorem dL_696 : decode code 696 = .ok (.iadd, 1) := by decide +kernel
theorem dL_697 : decode code 697 = .ok (.iaload, 1) := by decide +kernel
theorem dL_698 : decode code 698 = .ok (.invokevirtual 82, 3) := by decide +kernel
theorem dL_701 : decode code 701 = .ok (.if_icmp .eq 294, 3) := by decide +kernel
theorem dL_704 : decode code 704 = .ok (.iconst 0, 1) := by decide +kernel
theorem dL_705 : decode code 705 = .ok (.ireturn, 1) := by decide +kernel
theorem dL_706 : decode code 706 = .ok (.aload_n 1, 1) := by decide +kernel
theorem dL_707 : decode code 707 = .ok (.invokevirtual 83, 3) := by decide +kernel
theorem dL_710 : decode code 710 = .ok (.aload_n 2, 1) := by decide +kernel
theorem dL_711 : decode code 711 = .ok (.invokevirtual 86, 3) := by decide +kernel
theorem dL_714 : decode code 714 = .ok (.if_icmp .eq 281, 3) := by decide +kernel
theorem dL_717 : decode code 717 = .ok (.iconst 0, 1) := by decide +kernel
theorem dL_718 : decode code 718 = .ok (.ireturn, 1) := by decide +kernel
theorem dL_719 : decode code 719 = .ok (.aload_n 1, 1) := by decide +kernel
theorem dL_720 : decode code 720 = .ok (.aload_n 0, 1) := by decide +kernel
theorem dL_721 : decode code 721 = .ok (.iload_n 3, 1) := by decide +kernel
theorem dL_722 : decode code 722 = .ok (.iconst 1, 1) := by decide +kernel
theorem dL_723 : decode code 723 = .ok (.iadd, 1) := by decide +kernel
theorem dL_724 : decode code 724 = .ok (.iaload, 1) := by decide +kernel
theorem dL_725 : decode code 725 = .ok (.invokevirtual 87, 3) := by decide +kernel
theorem dL_728 : decode code 728 = .ok (.aload_n 2, 1) := by decide +kernel
theorem dL_729 : decode code 729 = .ok (.aload_n 0, 1) := by decide +kernel
theorem dL_730 : decode code 730 = .ok (.iload_n 3, 1) := by decide +kernel
theorem dL_731 : decode code 731 = .ok (.iconst 1, 1) := by decide +kernel
theorem dL_732 : decode code 732 = .ok (.iadd, 1) := by decide +kernel
theorem dL_733 : decode code 733 = .ok (.iaload, 1) := by decide +kernel
theorem dL_734 : decode code 734 = .ok (.invokevirtual 90, 3) := by decide +kernel
theorem dL_737 : decode code 737 = .ok (.if_icmp .eq 258, 3) := by decide +kernel
theorem dL_740 : decode code 740 = .ok (.iconst 0, 1) := by decide +kernel
theorem dL_741 : decode code 741 = .ok (.ireturn, 1) := by decide +kernel
theorem dL_742 : decode code 742 = .ok (.aload_n 1, 1) := by decide +kernel
theorem dL_743 : decode code 743 = .ok (.aload_n 0, 1) := by decide +kernel
theorem dL_744 : decode code 744 = .ok (.iload_n 3, 1) := by decide +kernel
theorem dL_745 : decode code 745 = .ok (.iconst 1, 1) := by decide +kernel
theorem dL_746 : decode code 746 = .ok (.iadd, 1) := by decide +kernel
theorem dL_747 : decode code 747 = .ok (.iaload, 1) := by decide +kernel
theorem dL_748 : decode code 748 = .ok (.aload_n 0, 1) := by decide +kernel
theorem dL_749 : decode code 749 = .ok (.iload_n 3, 1) := by decide +kernel
theorem dL_750 : decode code 750 = .ok (.iconst 2, 1) := by decide +kernel
theorem dL_751 : decode code 751 = .ok (.iadd, 1) := by decide +kernel
theorem dL_752 : decode code 752 = .ok (.iaload, 1) := by decide +kernel
theorem dL_753 : decode code 753 = .ok (.aload_n 0, 1) := by decide +kernel
theorem dL_754 : decode code 754 = .ok (.iload_n 3, 1) := by decide +kernel
theorem dL_755 : decode code 755 = .ok (.iconst 3, 1) := by decide +kernel
theorem dL_756 : decode code 756 = .ok (.iadd, 1) := by decide +kernel
theorem dL_757 : decode code 757 = .ok (.iaload, 1) := by decide +kernel
theorem dL_758 : decode code 758 = .ok (.invokevirtual 91, 3) := by decide +kernel
theorem dL_761 : decode code 761 = .ok (.aload_n 2, 1) := by decide +kernel
theorem dL_762 : decode code 762 = .ok (.aload_n 0, 1) := by decide +kernel
theorem dL_763 : decode code 763 = .ok (.iload_n 3, 1) := by decide +kernel
theorem dL_764 : decode code 764 = .ok (.iconst 1, 1) := by decide +kernel
theorem dL_765 : decode code 765 = .ok (.iadd, 1) := by decide +kernel
theorem dL_766 : decode code 766 = .ok (.iaload, 1) := by decide +kernel
theorem dL_767 : decode code 767 = .ok (.aload_n 0, 1) := by decide +kernel
theorem dL_768 : decode code 768 = .ok (.iload_n 3, 1) := by decide +kernel
theorem dL_769 : decode code 769 = .ok (.iconst 2, 1) := by decide +kernel
theorem dL_770 : decode code 770 = .ok (.iadd, 1) := by decide +kernel
theorem dL_771 : decode code 771 = .ok (.iaload, 1) := by decide +kernel
theorem dL_772 : decode code 772 = .ok (.aload_n 0, 1) := by decide +kernel
theorem dL_773 : decode code 773 = .ok (.iload_n 3, 1) := by decide +kernel
theorem dL_774 : decode code 774 = .ok (.iconst 3, 1) := by decide +kernel
theorem dL_775 : decode code 775 = .ok (.iadd, 1) := by decide +kernel
theorem dL_776 : decode code 776 = .ok (.iaload, 1) := by decide +kernel
theorem dL_777 : decode code 777 = .ok (.invokevirtual 94, 3) := by decide +kernel
theorem dL_780 : decode code 780 = .ok (.if_icmp .eq 215, 3) := by decide +kernel
theorem dL_783 : decode code 783 = .ok (.iconst 0, 1) := by decide +kernel
theorem dL_784 : decode code 784 = .ok (.ireturn, 1) := by decide +kernel
theorem dL_785 : decode code 785 = .ok (.aload_n 1, 1) := by decide +kernel
theorem dL_786 : decode code 786 = .ok (.aload_n 0, 1) := by decide +kernel
theorem dL_787 : decode code 787 = .ok (.iload_n 3, 1) := by decide +kernel
theorem dL_788 : decode code 788 = .ok (.iconst 1, 1) := by decide +kernel
theorem dL_789 : decode code 789 = .ok (.iadd, 1) := by decide +kernel
theorem dL_790 : decode code 790 = .ok (.iaload, 1) := by decide +kernel
theorem dL_791 : decode code 791 = .ok (.invokevirtual 95, 3) := by decide +kernel
theorem dL_794 : decode code 794 = .ok (.aload_n 2, 1) := by decide +kernel
theorem dL_795 : decode code 795 = .ok (.aload_n 0, 1) := by decide +kernel
theorem dL_796 : decode code 796 = .ok (.iload_n 3, 1) := by decide +kernel
theorem dL_797 : decode code 797 = .ok (.iconst 1, 1) := by decide +kernel
theorem dL_798 : decode code 798 = .ok (.iadd, 1) := by decide +kernel
theorem dL_799 : decode code 799 = .ok (.iaload, 1) := by decide +kernel
theorem dL_800 : decode code 800 = .ok (.invokevirtual 98, 3) := by decide +kernel
theorem dL_803 : decode code 803 = .ok (.if_icmp .eq 192, 3) := by decide +kernel
theorem dL_806 : decode code 806 = .ok (.iconst 0, 1) := by decide +kernel
theorem dL_807 : decode code 807 = .ok (.ireturn, 1) := by decide +kernel
theorem dL_808 : decode code 808 = .ok (.aload_n 1, 1) := by decide +kernel
theorem dL_809 : decode code 809 = .ok (.aload_n 0, 1) := by decide +kernel
theorem dL_810 : decode code 810 = .ok (.iload_n 3, 1) := by decide +kernel
theorem dL_811 : decode code 811 = .ok (.iconst 1, 1) := by decide +kernel
theorem dL_812 : decode code 812 = .ok (.iadd, 1) := by decide +kernel
theorem dL_813 : decode code 813 = .ok (.iaload, 1) := by decide +kernel
theorem dL_814 : decode code 814 = .ok (.aload_n 0, 1) := by decide +kernel
theorem dL_815 : decode code 815 = .ok (.iload_n 3, 1) := by decide +kernel
theorem dL_816 : decode code 816 = .ok (.iconst 2, 1) := by decide +kernel
theorem dL_817 : decode code 817 = .ok (.iadd, 1) := by decide +kernel
theorem dL_818 : decode code 818 = .ok (.iaload, 1) := by decide +kernel
theorem dL_819 : decode code 819 = .ok (.invokevirtual 99, 3) := by decide +kernel
theorem dL_822 : decode code 822 = .ok (.aload_n 2, 1) := by decide +kernel
theorem dL_823 : decode code 823 = .ok (.aload_n 0, 1) := by decide +kernel
theorem dL_824 : decode code 824 = .ok (.iload_n 3, 1) := by decide +kernel
theorem dL_825 : decode code 825 = .ok (.iconst 1, 1) := by decide +kernel
theorem dL_826 : decode code 826 = .ok (.iadd, 1) := by decide +kernel
theorem dL_827 : decode code 827 = .ok (.iaload, 1) := by decide +kernel
theorem dL_828 : decode code 828 = .ok (.aload_n 0, 1) := by decide +kernel
theorem dL_829 : decode code 829 = .ok (.iload_n 3, 1) := by decide +kernel
theorem dL_830 : decode code 830 = .ok (.iconst 2, 1) := by decide +kernel
theorem dL_831 : decode code 831 = .ok (.iadd, 1) := by decide +kernel
theorem dL_832 : decode code 832 = .ok (.iaload, 1) := by decide +kernel
theorem dL_833 : decode code 833 = .ok (.invokevirtual 102, 3) := by decide +kernel
theorem dL_836 : decode code 836 = .ok (.if_icmp .eq 159, 3) := by decide +kernel
theorem dL_839 : decode code 839 = .ok (.iconst 0, 1) := by decide +kernel
theorem dL_840 : decode code 840 = .ok (.ireturn, 1) := by decide +kernel
theorem dL_841 : decode code 841 = .ok (.aload_n 1, 1) := by decide +kernel
theorem dL_842 : decode code 842 = .ok (.invokevirtual 103, 3) := by decide +kernel
theorem dL_845 : decode code 845 = .ok (.aload_n 2, 1) := by decide +kernel
theorem dL_846 : decode code 846 = .ok (.invokevirtual 106, 3) := by decide +kernel
theorem dL_849 : decode code 849 = .ok (.if_icmp .eq 146, 3) := by decide +kernel
theorem dL_852 : decode code 852 = .ok (.iconst 0, 1) := by decide +kernel
theorem dL_853 : decode code 853 = .ok (.ireturn, 1) := by decide +kernel
theorem dL_854 : decode code 854 = .ok (.aload_n 1, 1) := by decide +kernel
theorem dL_855 : decode code 855 = .ok (.aload_n 0, 1) := by decide +kernel
theorem dL_856 : decode code 856 = .ok (.iload_n 3, 1) := by decide +kernel
theorem dL_857 : decode code 857 = .ok (.iconst 1, 1) := by decide +kernel
theorem dL_858 : decode code 858 = .ok (.iadd, 1) := by decide +kernel
theorem dL_859 : decode code 859 = .ok (.iaload, 1) := by decide +kernel
theorem dL_860 : decode code 860 = .ok (.invokevirtual 107, 3) := by decide +kernel
theorem dL_863 : decode code 863 = .ok (.aload_n 2, 1) := by decide +kernel
theorem dL_864 : decode code 864 = .ok (.aload_n 0, 1) := by decide +kernel
theorem dL_865 : decode code 865 = .ok (.iload_n 3, 1) := by decide +kernel
theorem dL_866 : decode code 866 = .ok (.iconst 1, 1) := by decide +kernel
theorem dL_867 : decode code 867 = .ok (.iadd, 1) := by decide +kernel
theorem dL_868 : decode code 868 = .ok (.iaload, 1) := by decide +kernel
theorem dL_869 : decode code 869 = .ok (.invokevirtual 110, 3) := by decide +kernel
theorem dL_872 : decode code 872 = .ok (.if_icmp .eq 123, 3) := by decide +kernel
theorem dL_875 : decode code 875 = .ok (.iconst 0, 1) := by decide +kernel
theorem dL_876 : decode code 876 = .ok (.ireturn, 1) := by decide +kernel
theorem dL_877 : decode code 877 = .ok (.aload_n 1, 1) := by decide +kernel
theorem dL_878 : decode code 878 = .ok (.invokevirtual 111, 3) := by decide +kernel
theorem dL_881 : decode code 881 = .ok (.aload_n 2, 1) := by decide +kernel
theorem dL_882 : decode code 882 = .ok (.invokevirtual 114, 3) := by decide +kernel
theorem dL_885 : decode code 885 = .ok (.if_icmp .eq 110, 3) := by decide +kernel
theorem dL_888 : decode code 888 = .ok (.iconst 0, 1) := by decide +kernel
theorem dL_889 : decode code 889 = .ok (.ireturn, 1) := by decide +kernel
theorem dL_890 : decode code 890 = .ok (.aload_n 1, 1) := by decide +kernel
theorem dL_891 : decode code 891 = .ok (.aload_n 0, 1) := by decide +kernel
theorem dL_892 : decode code 892 = .ok (.iload_n 3, 1) := by decide +kernel
theorem dL_893 : decode code 893 = .ok (.iconst 1, 1) := by decide +kernel
theorem dL_894 : decode code 894 = .ok (.iadd, 1) := by decide +kernel
theorem dL_895 : decode code 895 = .ok (.iaload, 1) := by decide +kernel
theorem dL_896 : decode code 896 = .ok (.aload_n 0, 1) := by decide +kernel
theorem dL_897 : decode code 897 = .ok (.iload_n 3, 1) := by decide +kernel
theorem dL_898 : decode code 898 = .ok (.iconst 2, 1) := by decide +kernel
theorem dL_899 : decode code 899 = .ok (.iadd, 1) := by decide +kernel
theorem dL_900 : decode code 900 = .ok (.iaload, 1) := by decide +kernel
theorem dL_901 : decode code 901 = .ok (.aload_n 0, 1) := by decide +kernel
theorem dL_902 : decode code 902 = .ok (.iload_n 3, 1) := by decide +kernel
theorem dL_903 : decode code 903 = .ok (.iconst 3, 1) := by decide +kernel
theorem dL_904 : decode code 904 = .ok (.iadd, 1) := by decide +kernel
theorem dL_905 : decode code 905 = .ok (.iaload, 1) := by decide +kernel
theorem dL_906 : decode code 906 = .ok (.ifCond .eq 7, 3) := by decide +kernel
theorem dL_909 : decode code 909 = .ok (.iconst 1, 1) := by decide +kernel
theorem dL_910 : decode code 910 = .ok (.goto 4, 3) := by decide +kernel
theorem dL_913 : decode code 913 = .ok (.iconst 0, 1) := by decide +kernel
theorem dL_914 : decode code 914 = .ok (.invokevirtual 115, 3) := by decide +kernel
theorem dL_917 : decode code 917 = .ok (.aload_n 2, 1) := by decide +kernel
theorem dL_918 : decode code 918 = .ok (.aload_n 0, 1) := by decide +kernel
theorem dL_919 : decode code 919 = .ok (.iload_n 3, 1) := by decide +kernel
theorem dL_920 : decode code 920 = .ok (.iconst 1, 1) := by decide +kernel
theorem dL_921 : decode code 921 = .ok (.iadd, 1) := by decide +kernel
theorem dL_922 : decode code 922 = .ok (.iaload, 1) := by decide +kernel
theorem dL_923 : decode code 923 = .ok (.aload_n 0, 1) := by decide +kernel
theorem dL_924 : decode code 924 = .ok (.iload_n 3, 1) := by decide +kernel
theorem dL_925 : decode code 925 = .ok (.iconst 2, 1) := by decide +kernel
theorem dL_926 : decode code 926 = .ok (.iadd, 1) := by decide +kernel
theorem dL_927 : decode code 927 = .ok (.iaload, 1) := by decide +kernel
theorem dL_928 : decode code 928 = .ok (.aload_n 0, 1) := by decide +kernel
theorem dL_929 : decode code 929 = .ok (.iload_n 3, 1) := by decide +kernel
theorem dL_930 : decode code 930 = .ok (.iconst 3, 1) := by decide +kernel
theorem dL_931 : decode code 931 = .ok (.iadd, 1) := by decide +kernel
theorem dL_932 : decode code 932 = .ok (.iaload, 1) := by decide +kernel
theorem dL_933 : decode code 933 = .ok (.ifCond .eq 7, 3) := by decide +kernel
theorem dL_936 : decode code 936 = .ok (.iconst 1, 1) := by decide +kernel
theorem dL_937 : decode code 937 = .ok (.goto 4, 3) := by decide +kernel
theorem dL_940 : decode code 940 = .ok (.iconst 0, 1) := by decide +kernel
theorem dL_941 : decode code 941 = .ok (.invokevirtual 119, 3) := by decide +kernel
theorem dL_944 : decode code 944 = .ok (.if_icmp .eq 51, 3) := by decide +kernel
theorem dL_947 : decode code 947 = .ok (.iconst 0, 1) := by decide +kernel
theorem dL_948 : decode code 948 = .ok (.ireturn, 1) := by decide +kernel
theorem dL_949 : decode code 949 = .ok (.aload_n 1, 1) := by decide +kernel
theorem dL_950 : decode code 950 = .ok (.aload_n 0, 1) := by decide +kernel
theorem dL_951 : decode code 951 = .ok (.iload_n 3, 1) := by decide +kernel
theorem dL_952 : decode code 952 = .ok (.iconst 1, 1) := by decide +kernel
theorem dL_953 : decode code 953 = .ok (.iadd, 1) := by decide +kernel
theorem dL_954 : decode code 954 = .ok (.iaload, 1) := by decide +kernel
theorem dL_955 : decode code 955 = .ok (.invokevirtual 120, 3) := by decide +kernel
theorem dL_958 : decode code 958 = .ok (.aload_n 2, 1) := by decide +kernel
theorem dL_959 : decode code 959 = .ok (.aload_n 0, 1) := by decide +kernel
theorem dL_960 : decode code 960 = .ok (.iload_n 3, 1) := by decide +kernel
theorem dL_961 : decode code 961 = .ok (.iconst 1, 1) := by decide +kernel
theorem dL_962 : decode code 962 = .ok (.iadd, 1) := by decide +kernel
theorem dL_963 : decode code 963 = .ok (.iaload, 1) := by decide +kernel
theorem dL_964 : decode code 964 = .ok (.invokevirtual 123, 3) := by decide +kernel
theorem dL_967 : decode code 967 = .ok (.if_icmp .eq 28, 3) := by decide +kernel
theorem dL_970 : decode code 970 = .ok (.iconst 0, 1) := by decide +kernel
theorem dL_971 : decode code 971 = .ok (.ireturn, 1) := by decide +kernel
theorem dL_972 : decode code 972 = .ok (.aload_n 1, 1) := by decide +kernel
theorem dL_973 : decode code 973 = .ok (.aload_n 0, 1) := by decide +kernel
theorem dL_974 : decode code 974 = .ok (.iload_n 3, 1) := by decide +kernel
theorem dL_975 : decode code 975 = .ok (.iconst 1, 1) := by decide +kernel
theorem dL_976 : decode code 976 = .ok (.iadd, 1) := by decide +kernel
theorem dL_977 : decode code 977 = .ok (.iaload, 1) := by decide +kernel
theorem dL_978 : decode code 978 = .ok (.invokevirtual 124, 3) := by decide +kernel
theorem dL_981 : decode code 981 = .ok (.aload_n 2, 1) := by decide +kernel
theorem dL_982 : decode code 982 = .ok (.aload_n 0, 1) := by decide +kernel
theorem dL_983 : decode code 983 = .ok (.iload_n 3, 1) := by decide +kernel
theorem dL_984 : decode code 984 = .ok (.iconst 1, 1) := by decide +kernel
theorem dL_985 : decode code 985 = .ok (.iadd, 1) := by decide +kernel
theorem dL_986 : decode code 986 = .ok (.iaload, 1) := by decide +kernel
theorem dL_987 : decode code 987 = .ok (.invokevirtual 127, 3) := by decide +kernel
theorem dL_990 : decode code 990 = .ok (.if_icmp .eq 5, 3) := by decide +kernel
theorem dL_993 : decode code 993 = .ok (.iconst 0, 1) := by decide +kernel
theorem dL_994 : decode code 994 = .ok (.ireturn, 1) := by decide +kernel
theorem dL_995 : decode code 995 = .ok (.iinc 3 7, 3) := by decide +kernel
theorem dL_998 : decode code 998 = .ok (.goto (-980), 3) := by decide +kernel
theorem dL_1001 : decode code 1001 = .ok (.iconst 1, 1) := by decide +kernel
theorem dL_1002 : decode code 1002 = .ok (.ireturn, 1) := by decide +kernel
