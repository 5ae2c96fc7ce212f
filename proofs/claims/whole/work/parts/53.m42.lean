/-! the law: decode rows, by wip/whole/m42.py; the head of the claim, of kit/laws' skeleton -/
theorem dl_0 : decode code 0 = .ok (.new 7, 3) := by decide +kernel
theorem dl_3 : decode code 3 = .ok (.dup, 1) := by decide +kernel
theorem dl_4 : decode code 4 = .ok (.invokespecial 9, 3) := by decide +kernel
theorem dl_7 : decode code 7 = .ok (.astore_n 1, 1) := by decide +kernel
theorem dl_8 : decode code 8 = .ok (.new 10, 3) := by decide +kernel
theorem dl_11 : decode code 11 = .ok (.dup, 1) := by decide +kernel
theorem dl_12 : decode code 12 = .ok (.invokespecial 12, 3) := by decide +kernel
theorem dl_15 : decode code 15 = .ok (.astore_n 2, 1) := by decide +kernel
theorem dl_16 : decode code 16 = .ok (.iconst 0, 1) := by decide +kernel
theorem dl_17 : decode code 17 = .ok (.istore_n 3, 1) := by decide +kernel
theorem dl_18 : decode code 18 = .ok (.iload_n 3, 1) := by decide +kernel
theorem dl_19 : decode code 19 = .ok (.aload_n 0, 1) := by decide +kernel
theorem dl_20 : decode code 20 = .ok (.arraylength, 1) := by decide +kernel
theorem dl_21 : decode code 21 = .ok (.iconst 5, 1) := by decide +kernel
theorem dl_22 : decode code 22 = .ok (.isub, 1) := by decide +kernel
theorem dl_23 : decode code 23 = .ok (.if_icmp .gt 883, 3) := by decide +kernel
theorem dl_26 : decode code 26 = .ok (.aload_n 0, 1) := by decide +kernel
theorem dl_27 : decode code 27 = .ok (.iload_n 3, 1) := by decide +kernel
theorem dl_28 : decode code 28 = .ok (.iaload, 1) := by decide +kernel
theorem dl_29 : decode code 29 = .ok (.bipush 31, 2) := by decide +kernel
theorem dl_31 : decode code 31 = .ok (.iand, 1) := by decide +kernel
theorem dl_32 : decode code 32 = .ok (.tableswitch 868 0 25 #[120, 143, 196, 229, 272, 315, 358, 391, 414, 427, 440, 493, 536, 569, 612, 625, 638, 671, 704, 717, 750, 763, 776, 809, 842, 855], 120) := by decide +kernel
theorem dl_152 : decode code 152 = .ok (.aload_n 1, 1) := by decide +kernel
theorem dl_153 : decode code 153 = .ok (.aload_n 0, 1) := by decide +kernel
theorem dl_154 : decode code 154 = .ok (.iload_n 3, 1) := by decide +kernel
theorem dl_155 : decode code 155 = .ok (.iconst 1, 1) := by decide +kernel
theorem dl_156 : decode code 156 = .ok (.iadd, 1) := by decide +kernel
theorem dl_157 : decode code 157 = .ok (.iaload, 1) := by decide +kernel
theorem dl_158 : decode code 158 = .ok (.invokevirtual 13, 3) := by decide +kernel
theorem dl_161 : decode code 161 = .ok (.aload_n 2, 1) := by decide +kernel
theorem dl_162 : decode code 162 = .ok (.aload_n 0, 1) := by decide +kernel
theorem dl_163 : decode code 163 = .ok (.iload_n 3, 1) := by decide +kernel
theorem dl_164 : decode code 164 = .ok (.iconst 1, 1) := by decide +kernel
theorem dl_165 : decode code 165 = .ok (.iadd, 1) := by decide +kernel
theorem dl_166 : decode code 166 = .ok (.iaload, 1) := by decide +kernel
theorem dl_167 : decode code 167 = .ok (.invokevirtual 17, 3) := by decide +kernel
theorem dl_170 : decode code 170 = .ok (.if_icmp .eq 730, 3) := by decide +kernel
theorem dl_173 : decode code 173 = .ok (.iconst 0, 1) := by decide +kernel
theorem dl_174 : decode code 174 = .ok (.ireturn, 1) := by decide +kernel
theorem dl_175 : decode code 175 = .ok (.aload_n 1, 1) := by decide +kernel
theorem dl_176 : decode code 176 = .ok (.aload_n 0, 1) := by decide +kernel
theorem dl_177 : decode code 177 = .ok (.iload_n 3, 1) := by decide +kernel
theorem dl_178 : decode code 178 = .ok (.iconst 1, 1) := by decide +kernel
theorem dl_179 : decode code 179 = .ok (.iadd, 1) := by decide +kernel
theorem dl_180 : decode code 180 = .ok (.iaload, 1) := by decide +kernel
theorem dl_181 : decode code 181 = .ok (.aload_n 0, 1) := by decide +kernel
theorem dl_182 : decode code 182 = .ok (.iload_n 3, 1) := by decide +kernel
theorem dl_183 : decode code 183 = .ok (.iconst 2, 1) := by decide +kernel
theorem dl_184 : decode code 184 = .ok (.iadd, 1) := by decide +kernel
theorem dl_185 : decode code 185 = .ok (.iaload, 1) := by decide +kernel
theorem dl_186 : decode code 186 = .ok (.aload_n 0, 1) := by decide +kernel
theorem dl_187 : decode code 187 = .ok (.iload_n 3, 1) := by decide +kernel
theorem dl_188 : decode code 188 = .ok (.iconst 3, 1) := by decide +kernel
theorem dl_189 : decode code 189 = .ok (.iadd, 1) := by decide +kernel
theorem dl_190 : decode code 190 = .ok (.iaload, 1) := by decide +kernel
theorem dl_191 : decode code 191 = .ok (.aload_n 0, 1) := by decide +kernel
theorem dl_192 : decode code 192 = .ok (.iload_n 3, 1) := by decide +kernel
theorem dl_193 : decode code 193 = .ok (.iconst 4, 1) := by decide +kernel
theorem dl_194 : decode code 194 = .ok (.iadd, 1) := by decide +kernel
theorem dl_195 : decode code 195 = .ok (.iaload, 1) := by decide +kernel
theorem dl_196 : decode code 196 = .ok (.invokevirtual 18, 3) := by decide +kernel
theorem dl_199 : decode code 199 = .ok (.aload_n 2, 1) := by decide +kernel
theorem dl_200 : decode code 200 = .ok (.aload_n 0, 1) := by decide +kernel
theorem dl_201 : decode code 201 = .ok (.iload_n 3, 1) := by decide +kernel
theorem dl_202 : decode code 202 = .ok (.iconst 1, 1) := by decide +kernel
theorem dl_203 : decode code 203 = .ok (.iadd, 1) := by decide +kernel
theorem dl_204 : decode code 204 = .ok (.iaload, 1) := by decide +kernel
theorem dl_205 : decode code 205 = .ok (.aload_n 0, 1) := by decide +kernel
theorem dl_206 : decode code 206 = .ok (.iload_n 3, 1) := by decide +kernel
theorem dl_207 : decode code 207 = .ok (.iconst 2, 1) := by decide +kernel
theorem dl_208 : decode code 208 = .ok (.iadd, 1) := by decide +kernel
theorem dl_209 : decode code 209 = .ok (.iaload, 1) := by decide +kernel
theorem dl_210 : decode code 210 = .ok (.aload_n 0, 1) := by decide +kernel
theorem dl_211 : decode code 211 = .ok (.iload_n 3, 1) := by decide +kernel
theorem dl_212 : decode code 212 = .ok (.iconst 3, 1) := by decide +kernel
theorem dl_213 : decode code 213 = .ok (.iadd, 1) := by decide +kernel
theorem dl_214 : decode code 214 = .ok (.iaload, 1) := by decide +kernel
theorem dl_215 : decode code 215 = .ok (.aload_n 0, 1) := by decide +kernel
theorem dl_216 : decode code 216 = .ok (.iload_n 3, 1) := by decide +kernel
theorem dl_217 : decode code 217 = .ok (.iconst 4, 1) := by decide +kernel
theorem dl_218 : decode code 218 = .ok (.iadd, 1) := by decide +kernel
theorem dl_219 : decode code 219 = .ok (.iaload, 1) := by decide +kernel
theorem dl_220 : decode code 220 = .ok (.invokevirtual 22, 3) := by decide +kernel
theorem dl_223 : decode code 223 = .ok (.if_icmp .eq 677, 3) := by decide +kernel
theorem dl_226 : decode code 226 = .ok (.iconst 0, 1) := by decide +kernel
theorem dl_227 : decode code 227 = .ok (.ireturn, 1) := by decide +kernel
theorem dl_228 : decode code 228 = .ok (.aload_n 1, 1) := by decide +kernel
theorem dl_229 : decode code 229 = .ok (.aload_n 0, 1) := by decide +kernel
theorem dl_230 : decode code 230 = .ok (.iload_n 3, 1) := by decide +kernel
theorem dl_231 : decode code 231 = .ok (.iconst 1, 1) := by decide +kernel
theorem dl_232 : decode code 232 = .ok (.iadd, 1) := by decide +kernel
theorem dl_233 : decode code 233 = .ok (.iaload, 1) := by decide +kernel
theorem dl_234 : decode code 234 = .ok (.aload_n 0, 1) := by decide +kernel
theorem dl_235 : decode code 235 = .ok (.iload_n 3, 1) := by decide +kernel
theorem dl_236 : decode code 236 = .ok (.iconst 2, 1) := by decide +kernel
theorem dl_237 : decode code 237 = .ok (.iadd, 1) := by decide +kernel
theorem dl_238 : decode code 238 = .ok (.iaload, 1) := by decide +kernel
theorem dl_239 : decode code 239 = .ok (.invokevirtual 23, 3) := by decide +kernel
theorem dl_242 : decode code 242 = .ok (.aload_n 2, 1) := by decide +kernel
theorem dl_243 : decode code 243 = .ok (.aload_n 0, 1) := by decide +kernel
theorem dl_244 : decode code 244 = .ok (.iload_n 3, 1) := by decide +kernel
theorem dl_245 : decode code 245 = .ok (.iconst 1, 1) := by decide +kernel
theorem dl_246 : decode code 246 = .ok (.iadd, 1) := by decide +kernel
theorem dl_247 : decode code 247 = .ok (.iaload, 1) := by decide +kernel
theorem dl_248 : decode code 248 = .ok (.aload_n 0, 1) := by decide +kernel
theorem dl_249 : decode code 249 = .ok (.iload_n 3, 1) := by decide +kernel
theorem dl_250 : decode code 250 = .ok (.iconst 2, 1) := by decide +kernel
theorem dl_251 : decode code 251 = .ok (.iadd, 1) := by decide +kernel
theorem dl_252 : decode code 252 = .ok (.iaload, 1) := by decide +kernel
theorem dl_253 : decode code 253 = .ok (.invokevirtual 27, 3) := by decide +kernel
theorem dl_256 : decode code 256 = .ok (.if_icmp .eq 644, 3) := by decide +kernel
theorem dl_259 : decode code 259 = .ok (.iconst 0, 1) := by decide +kernel
theorem dl_260 : decode code 260 = .ok (.ireturn, 1) := by decide +kernel
theorem dl_261 : decode code 261 = .ok (.aload_n 1, 1) := by decide +kernel
theorem dl_262 : decode code 262 = .ok (.aload_n 0, 1) := by decide +kernel
theorem dl_263 : decode code 263 = .ok (.iload_n 3, 1) := by decide +kernel
theorem dl_264 : decode code 264 = .ok (.iconst 1, 1) := by decide +kernel
theorem dl_265 : decode code 265 = .ok (.iadd, 1) := by decide +kernel
theorem dl_266 : decode code 266 = .ok (.iaload, 1) := by decide +kernel
theorem dl_267 : decode code 267 = .ok (.aload_n 0, 1) := by decide +kernel
theorem dl_268 : decode code 268 = .ok (.iload_n 3, 1) := by decide +kernel
theorem dl_269 : decode code 269 = .ok (.iconst 2, 1) := by decide +kernel
theorem dl_270 : decode code 270 = .ok (.iadd, 1) := by decide +kernel
theorem dl_271 : decode code 271 = .ok (.iaload, 1) := by decide +kernel
theorem dl_272 : decode code 272 = .ok (.aload_n 0, 1) := by decide +kernel
theorem dl_273 : decode code 273 = .ok (.iload_n 3, 1) := by decide +kernel
theorem dl_274 : decode code 274 = .ok (.iconst 3, 1) := by decide +kernel
theorem dl_275 : decode code 275 = .ok (.iadd, 1) := by decide +kernel
theorem dl_276 : decode code 276 = .ok (.iaload, 1) := by decide +kernel
theorem dl_277 : decode code 277 = .ok (.invokevirtual 28, 3) := by decide +kernel
theorem dl_280 : decode code 280 = .ok (.aload_n 2, 1) := by decide +kernel
theorem dl_281 : decode code 281 = .ok (.aload_n 0, 1) := by decide +kernel
theorem dl_282 : decode code 282 = .ok (.iload_n 3, 1) := by decide +kernel
theorem dl_283 : decode code 283 = .ok (.iconst 1, 1) := by decide +kernel
theorem dl_284 : decode code 284 = .ok (.iadd, 1) := by decide +kernel
theorem dl_285 : decode code 285 = .ok (.iaload, 1) := by decide +kernel
theorem dl_286 : decode code 286 = .ok (.aload_n 0, 1) := by decide +kernel
theorem dl_287 : decode code 287 = .ok (.iload_n 3, 1) := by decide +kernel
theorem dl_288 : decode code 288 = .ok (.iconst 2, 1) := by decide +kernel
theorem dl_289 : decode code 289 = .ok (.iadd, 1) := by decide +kernel
theorem dl_290 : decode code 290 = .ok (.iaload, 1) := by decide +kernel
theorem dl_291 : decode code 291 = .ok (.aload_n 0, 1) := by decide +kernel
theorem dl_292 : decode code 292 = .ok (.iload_n 3, 1) := by decide +kernel
theorem dl_293 : decode code 293 = .ok (.iconst 3, 1) := by decide +kernel
theorem dl_294 : decode code 294 = .ok (.iadd, 1) := by decide +kernel
theorem dl_295 : decode code 295 = .ok (.iaload, 1) := by decide +kernel
theorem dl_296 : decode code 296 = .ok (.invokevirtual 32, 3) := by decide +kernel
theorem dl_299 : decode code 299 = .ok (.if_icmp .eq 601, 3) := by decide +kernel
theorem dl_302 : decode code 302 = .ok (.iconst 0, 1) := by decide +kernel
theorem dl_303 : decode code 303 = .ok (.ireturn, 1) := by decide +kernel
theorem dl_304 : decode code 304 = .ok (.aload_n 1, 1) := by decide +kernel
theorem dl_305 : decode code 305 = .ok (.aload_n 0, 1) := by decide +kernel
theorem dl_306 : decode code 306 = .ok (.iload_n 3, 1) := by decide +kernel
theorem dl_307 : decode code 307 = .ok (.iconst 1, 1) := by decide +kernel
theorem dl_308 : decode code 308 = .ok (.iadd, 1) := by decide +kernel
theorem dl_309 : decode code 309 = .ok (.iaload, 1) := by decide +kernel
theorem dl_310 : decode code 310 = .ok (.aload_n 0, 1) := by decide +kernel
theorem dl_311 : decode code 311 = .ok (.iload_n 3, 1) := by decide +kernel
theorem dl_312 : decode code 312 = .ok (.iconst 2, 1) := by decide +kernel
theorem dl_313 : decode code 313 = .ok (.iadd, 1) := by decide +kernel
theorem dl_314 : decode code 314 = .ok (.iaload, 1) := by decide +kernel
theorem dl_315 : decode code 315 = .ok (.aload_n 0, 1) := by decide +kernel
theorem dl_316 : decode code 316 = .ok (.iload_n 3, 1) := by decide +kernel
theorem dl_317 : decode code 317 = .ok (.iconst 3, 1) := by decide +kernel
theorem dl_318 : decode code 318 = .ok (.iadd, 1) := by decide +kernel
theorem dl_319 : decode code 319 = .ok (.iaload, 1) := by decide +kernel
theorem dl_320 : decode code 320 = .ok (.invokevirtual 33, 3) := by decide +kernel
theorem dl_323 : decode code 323 = .ok (.aload_n 2, 1) := by decide +kernel
theorem dl_324 : decode code 324 = .ok (.aload_n 0, 1) := by decide +kernel
theorem dl_325 : decode code 325 = .ok (.iload_n 3, 1) := by decide +kernel
theorem dl_326 : decode code 326 = .ok (.iconst 1, 1) := by decide +kernel
theorem dl_327 : decode code 327 = .ok (.iadd, 1) := by decide +kernel
theorem dl_328 : decode code 328 = .ok (.iaload, 1) := by decide +kernel
theorem dl_329 : decode code 329 = .ok (.aload_n 0, 1) := by decide +kernel
theorem dl_330 : decode code 330 = .ok (.iload_n 3, 1) := by decide +kernel
theorem dl_331 : decode code 331 = .ok (.iconst 2, 1) := by decide +kernel
theorem dl_332 : decode code 332 = .ok (.iadd, 1) := by decide +kernel
theorem dl_333 : decode code 333 = .ok (.iaload, 1) := by decide +kernel
theorem dl_334 : decode code 334 = .ok (.aload_n 0, 1) := by decide +kernel
theorem dl_335 : decode code 335 = .ok (.iload_n 3, 1) := by decide +kernel
theorem dl_336 : decode code 336 = .ok (.iconst 3, 1) := by decide +kernel
theorem dl_337 : decode code 337 = .ok (.iadd, 1) := by decide +kernel
theorem dl_338 : decode code 338 = .ok (.iaload, 1) := by decide +kernel
theorem dl_339 : decode code 339 = .ok (.invokevirtual 36, 3) := by decide +kernel
theorem dl_342 : decode code 342 = .ok (.if_icmp .eq 558, 3) := by decide +kernel
theorem dl_345 : decode code 345 = .ok (.iconst 0, 1) := by decide +kernel
theorem dl_346 : decode code 346 = .ok (.ireturn, 1) := by decide +kernel
theorem dl_347 : decode code 347 = .ok (.aload_n 1, 1) := by decide +kernel
theorem dl_348 : decode code 348 = .ok (.aload_n 0, 1) := by decide +kernel
theorem dl_349 : decode code 349 = .ok (.iload_n 3, 1) := by decide +kernel
theorem dl_350 : decode code 350 = .ok (.iconst 1, 1) := by decide +kernel
theorem dl_351 : decode code 351 = .ok (.iadd, 1) := by decide +kernel
theorem dl_352 : decode code 352 = .ok (.iaload, 1) := by decide +kernel
theorem dl_353 : decode code 353 = .ok (.aload_n 0, 1) := by decide +kernel
theorem dl_354 : decode code 354 = .ok (.iload_n 3, 1) := by decide +kernel
theorem dl_355 : decode code 355 = .ok (.iconst 2, 1) := by decide +kernel
theorem dl_356 : decode code 356 = .ok (.iadd, 1) := by decide +kernel
theorem dl_357 : decode code 357 = .ok (.iaload, 1) := by decide +kernel
theorem dl_358 : decode code 358 = .ok (.aload_n 0, 1) := by decide +kernel
theorem dl_359 : decode code 359 = .ok (.iload_n 3, 1) := by decide +kernel
theorem dl_360 : decode code 360 = .ok (.iconst 3, 1) := by decide +kernel
theorem dl_361 : decode code 361 = .ok (.iadd, 1) := by decide +kernel
theorem dl_362 : decode code 362 = .ok (.iaload, 1) := by decide +kernel
theorem dl_363 : decode code 363 = .ok (.invokevirtual 37, 3) := by decide +kernel
theorem dl_366 : decode code 366 = .ok (.aload_n 2, 1) := by decide +kernel
theorem dl_367 : decode code 367 = .ok (.aload_n 0, 1) := by decide +kernel
theorem dl_368 : decode code 368 = .ok (.iload_n 3, 1) := by decide +kernel
theorem dl_369 : decode code 369 = .ok (.iconst 1, 1) := by decide +kernel
theorem dl_370 : decode code 370 = .ok (.iadd, 1) := by decide +kernel
theorem dl_371 : decode code 371 = .ok (.iaload, 1) := by decide +kernel
theorem dl_372 : decode code 372 = .ok (.aload_n 0, 1) := by decide +kernel
theorem dl_373 : decode code 373 = .ok (.iload_n 3, 1) := by decide +kernel
theorem dl_374 : decode code 374 = .ok (.iconst 2, 1) := by decide +kernel
theorem dl_375 : decode code 375 = .ok (.iadd, 1) := by decide +kernel
theorem dl_376 : decode code 376 = .ok (.iaload, 1) := by decide +kernel
theorem dl_377 : decode code 377 = .ok (.aload_n 0, 1) := by decide +kernel
theorem dl_378 : decode code 378 = .ok (.iload_n 3, 1) := by decide +kernel
theorem dl_379 : decode code 379 = .ok (.iconst 3, 1) := by decide +kernel
theorem dl_380 : decode code 380 = .ok (.iadd, 1) := by decide +kernel
theorem dl_381 : decode code 381 = .ok (.iaload, 1) := by decide +kernel
theorem dl_382 : decode code 382 = .ok (.invokevirtual 40, 3) := by decide +kernel
theorem dl_385 : decode code 385 = .ok (.if_icmp .eq 515, 3) := by decide +kernel
theorem dl_388 : decode code 388 = .ok (.iconst 0, 1) := by decide +kernel
theorem dl_389 : decode code 389 = .ok (.ireturn, 1) := by decide +kernel
theorem dl_390 : decode code 390 = .ok (.aload_n 1, 1) := by decide +kernel
theorem dl_391 : decode code 391 = .ok (.aload_n 0, 1) := by decide +kernel
theorem dl_392 : decode code 392 = .ok (.iload_n 3, 1) := by decide +kernel
theorem dl_393 : decode code 393 = .ok (.iconst 1, 1) := by decide +kernel
theorem dl_394 : decode code 394 = .ok (.iadd, 1) := by decide +kernel
theorem dl_395 : decode code 395 = .ok (.iaload, 1) := by decide +kernel
theorem dl_396 : decode code 396 = .ok (.aload_n 0, 1) := by decide +kernel
theorem dl_397 : decode code 397 = .ok (.iload_n 3, 1) := by decide +kernel
theorem dl_398 : decode code 398 = .ok (.iconst 2, 1) := by decide +kernel
theorem dl_399 : decode code 399 = .ok (.iadd, 1) := by decide +kernel
theorem dl_400 : decode code 400 = .ok (.iaload, 1) := by decide +kernel
theorem dl_401 : decode code 401 = .ok (.invokevirtual 41, 3) := by decide +kernel
theorem dl_404 : decode code 404 = .ok (.aload_n 2, 1) := by decide +kernel
theorem dl_405 : decode code 405 = .ok (.aload_n 0, 1) := by decide +kernel
theorem dl_406 : decode code 406 = .ok (.iload_n 3, 1) := by decide +kernel
theorem dl_407 : decode code 407 = .ok (.iconst 1, 1) := by decide +kernel
theorem dl_408 : decode code 408 = .ok (.iadd, 1) := by decide +kernel
theorem dl_409 : decode code 409 = .ok (.iaload, 1) := by decide +kernel
theorem dl_410 : decode code 410 = .ok (.aload_n 0, 1) := by decide +kernel
theorem dl_411 : decode code 411 = .ok (.iload_n 3, 1) := by decide +kernel
theorem dl_412 : decode code 412 = .ok (.iconst 2, 1) := by decide +kernel
theorem dl_413 : decode code 413 = .ok (.iadd, 1) := by decide +kernel
theorem dl_414 : decode code 414 = .ok (.iaload, 1) := by decide +kernel
theorem dl_415 : decode code 415 = .ok (.invokevirtual 44, 3) := by decide +kernel
theorem dl_418 : decode code 418 = .ok (.if_icmp .eq 482, 3) := by decide +kernel
theorem dl_421 : decode code 421 = .ok (.iconst 0, 1) := by decide +kernel
theorem dl_422 : decode code 422 = .ok (.ireturn, 1) := by decide +kernel
theorem dl_423 : decode code 423 = .ok (.aload_n 1, 1) := by decide +kernel
theorem dl_424 : decode code 424 = .ok (.aload_n 0, 1) := by decide +kernel
theorem dl_425 : decode code 425 = .ok (.iload_n 3, 1) := by decide +kernel
theorem dl_426 : decode code 426 = .ok (.iconst 1, 1) := by decide +kernel
theorem dl_427 : decode code 427 = .ok (.iadd, 1) := by decide +kernel
theorem dl_428 : decode code 428 = .ok (.iaload, 1) := by decide +kernel
theorem dl_429 : decode code 429 = .ok (.invokevirtual 45, 3) := by decide +kernel
theorem dl_432 : decode code 432 = .ok (.aload_n 2, 1) := by decide +kernel
theorem dl_433 : decode code 433 = .ok (.aload_n 0, 1) := by decide +kernel
theorem dl_434 : decode code 434 = .ok (.iload_n 3, 1) := by decide +kernel
theorem dl_435 : decode code 435 = .ok (.iconst 1, 1) := by decide +kernel
theorem dl_436 : decode code 436 = .ok (.iadd, 1) := by decide +kernel
theorem dl_437 : decode code 437 = .ok (.iaload, 1) := by decide +kernel
theorem dl_438 : decode code 438 = .ok (.invokevirtual 48, 3) := by decide +kernel
theorem dl_441 : decode code 441 = .ok (.if_icmp .eq 459, 3) := by decide +kernel
theorem dl_444 : decode code 444 = .ok (.iconst 0, 1) := by decide +kernel
theorem dl_445 : decode code 445 = .ok (.ireturn, 1) := by decide +kernel
theorem dl_446 : decode code 446 = .ok (.aload_n 1, 1) := by decide +kernel
theorem dl_447 : decode code 447 = .ok (.invokevirtual 49, 3) := by decide +kernel
theorem dl_450 : decode code 450 = .ok (.aload_n 2, 1) := by decide +kernel
theorem dl_451 : decode code 451 = .ok (.invokevirtual 53, 3) := by decide +kernel
theorem dl_454 : decode code 454 = .ok (.if_icmp .eq 446, 3) := by decide +kernel
theorem dl_457 : decode code 457 = .ok (.iconst 0, 1) := by decide +kernel
theorem dl_458 : decode code 458 = .ok (.ireturn, 1) := by decide +kernel
theorem dl_459 : decode code 459 = .ok (.aload_n 1, 1) := by decide +kernel
theorem dl_460 : decode code 460 = .ok (.invokevirtual 54, 3) := by decide +kernel
theorem dl_463 : decode code 463 = .ok (.aload_n 2, 1) := by decide +kernel
theorem dl_464 : decode code 464 = .ok (.invokevirtual 57, 3) := by decide +kernel
theorem dl_467 : decode code 467 = .ok (.if_icmp .eq 433, 3) := by decide +kernel
theorem dl_470 : decode code 470 = .ok (.iconst 0, 1) := by decide +kernel
theorem dl_471 : decode code 471 = .ok (.ireturn, 1) := by decide +kernel
theorem dl_472 : decode code 472 = .ok (.aload_n 1, 1) := by decide +kernel
theorem dl_473 : decode code 473 = .ok (.aload_n 0, 1) := by decide +kernel
theorem dl_474 : decode code 474 = .ok (.iload_n 3, 1) := by decide +kernel
theorem dl_475 : decode code 475 = .ok (.iconst 1, 1) := by decide +kernel
theorem dl_476 : decode code 476 = .ok (.iadd, 1) := by decide +kernel
theorem dl_477 : decode code 477 = .ok (.iaload, 1) := by decide +kernel
theorem dl_478 : decode code 478 = .ok (.aload_n 0, 1) := by decide +kernel
theorem dl_479 : decode code 479 = .ok (.iload_n 3, 1) := by decide +kernel
theorem dl_480 : decode code 480 = .ok (.iconst 2, 1) := by decide +kernel
theorem dl_481 : decode code 481 = .ok (.iadd, 1) := by decide +kernel
theorem dl_482 : decode code 482 = .ok (.iaload, 1) := by decide +kernel
theorem dl_483 : decode code 483 = .ok (.aload_n 0, 1) := by decide +kernel
theorem dl_484 : decode code 484 = .ok (.iload_n 3, 1) := by decide +kernel
theorem dl_485 : decode code 485 = .ok (.iconst 3, 1) := by decide +kernel
theorem dl_486 : decode code 486 = .ok (.iadd, 1) := by decide +kernel
theorem dl_487 : decode code 487 = .ok (.iaload, 1) := by decide +kernel
theorem dl_488 : decode code 488 = .ok (.aload_n 0, 1) := by decide +kernel
theorem dl_489 : decode code 489 = .ok (.iload_n 3, 1) := by decide +kernel
theorem dl_490 : decode code 490 = .ok (.iconst 4, 1) := by decide +kernel
theorem dl_491 : decode code 491 = .ok (.iadd, 1) := by decide +kernel
theorem dl_492 : decode code 492 = .ok (.iaload, 1) := by decide +kernel
theorem dl_493 : decode code 493 = .ok (.invokevirtual 58, 3) := by decide +kernel
theorem dl_496 : decode code 496 = .ok (.aload_n 2, 1) := by decide +kernel
theorem dl_497 : decode code 497 = .ok (.aload_n 0, 1) := by decide +kernel
theorem dl_498 : decode code 498 = .ok (.iload_n 3, 1) := by decide +kernel
theorem dl_499 : decode code 499 = .ok (.iconst 1, 1) := by decide +kernel
theorem dl_500 : decode code 500 = .ok (.iadd, 1) := by decide +kernel
theorem dl_501 : decode code 501 = .ok (.iaload, 1) := by decide +kernel
theorem dl_502 : decode code 502 = .ok (.aload_n 0, 1) := by decide +kernel
theorem dl_503 : decode code 503 = .ok (.iload_n 3, 1) := by decide +kernel
theorem dl_504 : decode code 504 = .ok (.iconst 2, 1) := by decide +kernel
theorem dl_505 : decode code 505 = .ok (.iadd, 1) := by decide +kernel
theorem dl_506 : decode code 506 = .ok (.iaload, 1) := by decide +kernel
theorem dl_507 : decode code 507 = .ok (.aload_n 0, 1) := by decide +kernel
theorem dl_508 : decode code 508 = .ok (.iload_n 3, 1) := by decide +kernel
theorem dl_509 : decode code 509 = .ok (.iconst 3, 1) := by decide +kernel
theorem dl_510 : decode code 510 = .ok (.iadd, 1) := by decide +kernel
theorem dl_511 : decode code 511 = .ok (.iaload, 1) := by decide +kernel
theorem dl_512 : decode code 512 = .ok (.aload_n 0, 1) := by decide +kernel
theorem dl_513 : decode code 513 = .ok (.iload_n 3, 1) := by decide +kernel
theorem dl_514 : decode code 514 = .ok (.iconst 4, 1) := by decide +kernel
theorem dl_515 : decode code 515 = .ok (.iadd, 1) := by decide +kernel
theorem dl_516 : decode code 516 = .ok (.iaload, 1) := by decide +kernel
theorem dl_517 : decode code 517 = .ok (.invokevirtual 61, 3) := by decide +kernel
theorem dl_520 : decode code 520 = .ok (.if_icmp .eq 380, 3) := by decide +kernel
theorem dl_523 : decode code 523 = .ok (.iconst 0, 1) := by decide +kernel
theorem dl_524 : decode code 524 = .ok (.ireturn, 1) := by decide +kernel
theorem dl_525 : decode code 525 = .ok (.aload_n 1, 1) := by decide +kernel
theorem dl_526 : decode code 526 = .ok (.aload_n 0, 1) := by decide +kernel
theorem dl_527 : decode code 527 = .ok (.iload_n 3, 1) := by decide +kernel
theorem dl_528 : decode code 528 = .ok (.iconst 1, 1) := by decide +kernel
theorem dl_529 : decode code 529 = .ok (.iadd, 1) := by decide +kernel
theorem dl_530 : decode code 530 = .ok (.iaload, 1) := by decide +kernel
theorem dl_531 : decode code 531 = .ok (.aload_n 0, 1) := by decide +kernel
theorem dl_532 : decode code 532 = .ok (.iload_n 3, 1) := by decide +kernel
theorem dl_533 : decode code 533 = .ok (.iconst 2, 1) := by decide +kernel
theorem dl_534 : decode code 534 = .ok (.iadd, 1) := by decide +kernel
theorem dl_535 : decode code 535 = .ok (.iaload, 1) := by decide +kernel
theorem dl_536 : decode code 536 = .ok (.aload_n 0, 1) := by decide +kernel
theorem dl_537 : decode code 537 = .ok (.iload_n 3, 1) := by decide +kernel
theorem dl_538 : decode code 538 = .ok (.iconst 3, 1) := by decide +kernel
theorem dl_539 : decode code 539 = .ok (.iadd, 1) := by decide +kernel
theorem dl_540 : decode code 540 = .ok (.iaload, 1) := by decide +kernel
theorem dl_541 : decode code 541 = .ok (.invokevirtual 62, 3) := by decide +kernel
theorem dl_544 : decode code 544 = .ok (.aload_n 2, 1) := by decide +kernel
theorem dl_545 : decode code 545 = .ok (.aload_n 0, 1) := by decide +kernel
theorem dl_546 : decode code 546 = .ok (.iload_n 3, 1) := by decide +kernel
theorem dl_547 : decode code 547 = .ok (.iconst 1, 1) := by decide +kernel
theorem dl_548 : decode code 548 = .ok (.iadd, 1) := by decide +kernel
theorem dl_549 : decode code 549 = .ok (.iaload, 1) := by decide +kernel
theorem dl_550 : decode code 550 = .ok (.aload_n 0, 1) := by decide +kernel
theorem dl_551 : decode code 551 = .ok (.iload_n 3, 1) := by decide +kernel
theorem dl_552 : decode code 552 = .ok (.iconst 2, 1) := by decide +kernel
theorem dl_553 : decode code 553 = .ok (.iadd, 1) := by decide +kernel
theorem dl_554 : decode code 554 = .ok (.iaload, 1) := by decide +kernel
theorem dl_555 : decode code 555 = .ok (.aload_n 0, 1) := by decide +kernel
theorem dl_556 : decode code 556 = .ok (.iload_n 3, 1) := by decide +kernel
theorem dl_557 : decode code 557 = .ok (.iconst 3, 1) := by decide +kernel
theorem dl_558 : decode code 558 = .ok (.iadd, 1) := by decide +kernel
theorem dl_559 : decode code 559 = .ok (.iaload, 1) := by decide +kernel
theorem dl_560 : decode code 560 = .ok (.invokevirtual 65, 3) := by decide +kernel
theorem dl_563 : decode code 563 = .ok (.if_icmp .eq 337, 3) := by decide +kernel
theorem dl_566 : decode code 566 = .ok (.iconst 0, 1) := by decide +kernel
theorem dl_567 : decode code 567 = .ok (.ireturn, 1) := by decide +kernel
theorem dl_568 : decode code 568 = .ok (.aload_n 1, 1) := by decide +kernel
theorem dl_569 : decode code 569 = .ok (.aload_n 0, 1) := by decide +kernel
theorem dl_570 : decode code 570 = .ok (.iload_n 3, 1) := by decide +kernel
theorem dl_571 : decode code 571 = .ok (.iconst 1, 1) := by decide +kernel
theorem dl_572 : decode code 572 = .ok (.iadd, 1) := by decide +kernel
theorem dl_573 : decode code 573 = .ok (.iaload, 1) := by decide +kernel
theorem dl_574 : decode code 574 = .ok (.aload_n 0, 1) := by decide +kernel
theorem dl_575 : decode code 575 = .ok (.iload_n 3, 1) := by decide +kernel
theorem dl_576 : decode code 576 = .ok (.iconst 2, 1) := by decide +kernel
theorem dl_577 : decode code 577 = .ok (.iadd, 1) := by decide +kernel
theorem dl_578 : decode code 578 = .ok (.iaload, 1) := by decide +kernel
theorem dl_579 : decode code 579 = .ok (.invokevirtual 66, 3) := by decide +kernel
theorem dl_582 : decode code 582 = .ok (.aload_n 2, 1) := by decide +kernel
theorem dl_583 : decode code 583 = .ok (.aload_n 0, 1) := by decide +kernel
theorem dl_584 : decode code 584 = .ok (.iload_n 3, 1) := by decide +kernel
theorem dl_585 : decode code 585 = .ok (.iconst 1, 1) := by decide +kernel
theorem dl_586 : decode code 586 = .ok (.iadd, 1) := by decide +kernel
theorem dl_587 : decode code 587 = .ok (.iaload, 1) := by decide +kernel
theorem dl_588 : decode code 588 = .ok (.aload_n 0, 1) := by decide +kernel
theorem dl_589 : decode code 589 = .ok (.iload_n 3, 1) := by decide +kernel
theorem dl_590 : decode code 590 = .ok (.iconst 2, 1) := by decide +kernel
theorem dl_591 : decode code 591 = .ok (.iadd, 1) := by decide +kernel
theorem dl_592 : decode code 592 = .ok (.iaload, 1) := by decide +kernel
theorem dl_593 : decode code 593 = .ok (.invokevirtual 69, 3) := by decide +kernel
theorem dl_596 : decode code 596 = .ok (.if_icmp .eq 304, 3) := by decide +kernel
theorem dl_599 : decode code 599 = .ok (.iconst 0, 1) := by decide +kernel
theorem dl_600 : decode code 600 = .ok (.ireturn, 1) := by decide +kernel
theorem dl_601 : decode code 601 = .ok (.aload_n 1, 1) := by decide +kernel
theorem dl_602 : decode code 602 = .ok (.aload_n 0, 1) := by decide +kernel
theorem dl_603 : decode code 603 = .ok (.iload_n 3, 1) := by decide +kernel
theorem dl_604 : decode code 604 = .ok (.iconst 1, 1) := by decide +kernel
theorem dl_605 : decode code 605 = .ok (.iadd, 1) := by decide +kernel
theorem dl_606 : decode code 606 = .ok (.iaload, 1) := by decide +kernel
theorem dl_607 : decode code 607 = .ok (.aload_n 0, 1) := by decide +kernel
theorem dl_608 : decode code 608 = .ok (.iload_n 3, 1) := by decide +kernel
theorem dl_609 : decode code 609 = .ok (.iconst 2, 1) := by decide +kernel
theorem dl_610 : decode code 610 = .ok (.iadd, 1) := by decide +kernel
theorem dl_611 : decode code 611 = .ok (.iaload, 1) := by decide +kernel
theorem dl_612 : decode code 612 = .ok (.aload_n 0, 1) := by decide +kernel
theorem dl_613 : decode code 613 = .ok (.iload_n 3, 1) := by decide +kernel
theorem dl_614 : decode code 614 = .ok (.iconst 3, 1) := by decide +kernel
theorem dl_615 : decode code 615 = .ok (.iadd, 1) := by decide +kernel
theorem dl_616 : decode code 616 = .ok (.iaload, 1) := by decide +kernel
theorem dl_617 : decode code 617 = .ok (.invokevirtual 70, 3) := by decide +kernel
theorem dl_620 : decode code 620 = .ok (.aload_n 2, 1) := by decide +kernel
theorem dl_621 : decode code 621 = .ok (.aload_n 0, 1) := by decide +kernel
theorem dl_622 : decode code 622 = .ok (.iload_n 3, 1) := by decide +kernel
theorem dl_623 : decode code 623 = .ok (.iconst 1, 1) := by decide +kernel
theorem dl_624 : decode code 624 = .ok (.iadd, 1) := by decide +kernel
theorem dl_625 : decode code 625 = .ok (.iaload, 1) := by decide +kernel
theorem dl_626 : decode code 626 = .ok (.aload_n 0, 1) := by decide +kernel
theorem dl_627 : decode code 627 = .ok (.iload_n 3, 1) := by decide +kernel
theorem dl_628 : decode code 628 = .ok (.iconst 2, 1) := by decide +kernel
theorem dl_629 : decode code 629 = .ok (.iadd, 1) := by decide +kernel
theorem dl_630 : decode code 630 = .ok (.iaload, 1) := by decide +kernel
theorem dl_631 : decode code 631 = .ok (.aload_n 0, 1) := by decide +kernel
theorem dl_632 : decode code 632 = .ok (.iload_n 3, 1) := by decide +kernel
theorem dl_633 : decode code 633 = .ok (.iconst 3, 1) := by decide +kernel
theorem dl_634 : decode code 634 = .ok (.iadd, 1) := by decide +kernel
theorem dl_635 : decode code 635 = .ok (.iaload, 1) := by decide +kernel
theorem dl_636 : decode code 636 = .ok (.invokevirtual 73, 3) := by decide +kernel
theorem dl_639 : decode code 639 = .ok (.if_icmp .eq 261, 3) := by decide +kernel
theorem dl_642 : decode code 642 = .ok (.iconst 0, 1) := by decide +kernel
theorem dl_643 : decode code 643 = .ok (.ireturn, 1) := by decide +kernel
theorem dl_644 : decode code 644 = .ok (.aload_n 1, 1) := by decide +kernel
theorem dl_645 : decode code 645 = .ok (.invokevirtual 74, 3) := by decide +kernel
theorem dl_648 : decode code 648 = .ok (.aload_n 2, 1) := by decide +kernel
theorem dl_649 : decode code 649 = .ok (.invokevirtual 77, 3) := by decide +kernel
theorem dl_652 : decode code 652 = .ok (.if_icmp .eq 248, 3) := by decide +kernel
theorem dl_655 : decode code 655 = .ok (.iconst 0, 1) := by decide +kernel
theorem dl_656 : decode code 656 = .ok (.ireturn, 1) := by decide +kernel
theorem dl_657 : decode code 657 = .ok (.aload_n 1, 1) := by decide +kernel
theorem dl_658 : decode code 658 = .ok (.invokevirtual 78, 3) := by decide +kernel
theorem dl_661 : decode code 661 = .ok (.aload_n 2, 1) := by decide +kernel
theorem dl_662 : decode code 662 = .ok (.invokevirtual 81, 3) := by decide +kernel
theorem dl_665 : decode code 665 = .ok (.if_icmp .eq 235, 3) := by decide +kernel
theorem dl_668 : decode code 668 = .ok (.iconst 0, 1) := by decide +kernel
theorem dl_669 : decode code 669 = .ok (.ireturn, 1) := by decide +kernel
theorem dl_670 : decode code 670 = .ok (.aload_n 1, 1) := by decide +kernel
theorem dl_671 : decode code 671 = .ok (.aload_n 0, 1) := by decide +kernel
theorem dl_672 : decode code 672 = .ok (.iload_n 3, 1) := by decide +kernel
theorem dl_673 : decode code 673 = .ok (.iconst 1, 1) := by decide +kernel
theorem dl_674 : decode code 674 = .ok (.iadd, 1) := by decide +kernel
theorem dl_675 : decode code 675 = .ok (.iaload, 1) := by decide +kernel
theorem dl_676 : decode code 676 = .ok (.aload_n 0, 1) := by decide +kernel
theorem dl_677 : decode code 677 = .ok (.iload_n 3, 1) := by decide +kernel
theorem dl_678 : decode code 678 = .ok (.iconst 2, 1) := by decide +kernel
theorem dl_679 : decode code 679 = .ok (.iadd, 1) := by decide +kernel
theorem dl_680 : decode code 680 = .ok (.iaload, 1) := by decide +kernel
theorem dl_681 : decode code 681 = .ok (.invokevirtual 82, 3) := by decide +kernel
theorem dl_684 : decode code 684 = .ok (.aload_n 2, 1) := by decide +kernel
theorem dl_685 : decode code 685 = .ok (.aload_n 0, 1) := by decide +kernel
theorem dl_686 : decode code 686 = .ok (.iload_n 3, 1) := by decide +kernel
theorem dl_687 : decode code 687 = .ok (.iconst 1, 1) := by decide +kernel
theorem dl_688 : decode code 688 = .ok (.iadd, 1) := by decide +kernel
theorem dl_689 : decode code 689 = .ok (.iaload, 1) := by decide +kernel
theorem dl_690 : decode code 690 = .ok (.aload_n 0, 1) := by decide +kernel
theorem dl_691 : decode code 691 = .ok (.iload_n 3, 1) := by decide +kernel
theorem dl_692 : decode code 692 = .ok (.iconst 2, 1) := by decide +kernel
theorem dl_693 : decode code 693 = .ok (.iadd, 1) := by decide +kernel
theorem dl_694 : decode code 694 = .ok (.iaload, 1) := by decide +kernel
theorem dl_695 : decode code 695 = .ok (.invokevirtual 85, 3) := by decide +kernel
theorem dl_698 : decode code 698 = .ok (.if_icmp .eq 202, 3) := by decide +kernel
theorem dl_701 : decode code 701 = .ok (.iconst 0, 1) := by decide +kernel
theorem dl_702 : decode code 702 = .ok (.ireturn, 1) := by decide +kernel
theorem dl_703 : decode code 703 = .ok (.aload_n 1, 1) := by decide +kernel
theorem dl_704 : decode code 704 = .ok (.aload_n 0, 1) := by decide +kernel
theorem dl_705 : decode code 705 = .ok (.iload_n 3, 1) := by decide +kernel
theorem dl_706 : decode code 706 = .ok (.iconst 1, 1) := by decide +kernel
theorem dl_707 : decode code 707 = .ok (.iadd, 1) := by decide +kernel
theorem dl_708 : decode code 708 = .ok (.iaload, 1) := by decide +kernel
theorem dl_709 : decode code 709 = .ok (.aload_n 0, 1) := by decide +kernel
theorem dl_710 : decode code 710 = .ok (.iload_n 3, 1) := by decide +kernel
theorem dl_711 : decode code 711 = .ok (.iconst 2, 1) := by decide +kernel
theorem dl_712 : decode code 712 = .ok (.iadd, 1) := by decide +kernel
theorem dl_713 : decode code 713 = .ok (.iaload, 1) := by decide +kernel
theorem dl_714 : decode code 714 = .ok (.invokevirtual 86, 3) := by decide +kernel
theorem dl_717 : decode code 717 = .ok (.aload_n 2, 1) := by decide +kernel
theorem dl_718 : decode code 718 = .ok (.aload_n 0, 1) := by decide +kernel
theorem dl_719 : decode code 719 = .ok (.iload_n 3, 1) := by decide +kernel
theorem dl_720 : decode code 720 = .ok (.iconst 1, 1) := by decide +kernel
theorem dl_721 : decode code 721 = .ok (.iadd, 1) := by decide +kernel
theorem dl_722 : decode code 722 = .ok (.iaload, 1) := by decide +kernel
theorem dl_723 : decode code 723 = .ok (.aload_n 0, 1) := by decide +kernel
theorem dl_724 : decode code 724 = .ok (.iload_n 3, 1) := by decide +kernel
theorem dl_725 : decode code 725 = .ok (.iconst 2, 1) := by decide +kernel
theorem dl_726 : decode code 726 = .ok (.iadd, 1) := by decide +kernel
theorem dl_727 : decode code 727 = .ok (.iaload, 1) := by decide +kernel
theorem dl_728 : decode code 728 = .ok (.invokevirtual 89, 3) := by decide +kernel
theorem dl_731 : decode code 731 = .ok (.if_icmp .eq 169, 3) := by decide +kernel
theorem dl_734 : decode code 734 = .ok (.iconst 0, 1) := by decide +kernel
theorem dl_735 : decode code 735 = .ok (.ireturn, 1) := by decide +kernel
theorem dl_736 : decode code 736 = .ok (.aload_n 1, 1) := by decide +kernel
theorem dl_737 : decode code 737 = .ok (.invokevirtual 90, 3) := by decide +kernel
theorem dl_740 : decode code 740 = .ok (.aload_n 2, 1) := by decide +kernel
theorem dl_741 : decode code 741 = .ok (.invokevirtual 93, 3) := by decide +kernel
theorem dl_744 : decode code 744 = .ok (.if_icmp .eq 156, 3) := by decide +kernel
theorem dl_747 : decode code 747 = .ok (.iconst 0, 1) := by decide +kernel
theorem dl_748 : decode code 748 = .ok (.ireturn, 1) := by decide +kernel
theorem dl_749 : decode code 749 = .ok (.aload_n 1, 1) := by decide +kernel
theorem dl_750 : decode code 750 = .ok (.aload_n 0, 1) := by decide +kernel
theorem dl_751 : decode code 751 = .ok (.iload_n 3, 1) := by decide +kernel
theorem dl_752 : decode code 752 = .ok (.iconst 1, 1) := by decide +kernel
theorem dl_753 : decode code 753 = .ok (.iadd, 1) := by decide +kernel
theorem dl_754 : decode code 754 = .ok (.iaload, 1) := by decide +kernel
theorem dl_755 : decode code 755 = .ok (.aload_n 0, 1) := by decide +kernel
theorem dl_756 : decode code 756 = .ok (.iload_n 3, 1) := by decide +kernel
theorem dl_757 : decode code 757 = .ok (.iconst 2, 1) := by decide +kernel
theorem dl_758 : decode code 758 = .ok (.iadd, 1) := by decide +kernel
theorem dl_759 : decode code 759 = .ok (.iaload, 1) := by decide +kernel
theorem dl_760 : decode code 760 = .ok (.invokevirtual 94, 3) := by decide +kernel
theorem dl_763 : decode code 763 = .ok (.aload_n 2, 1) := by decide +kernel
theorem dl_764 : decode code 764 = .ok (.aload_n 0, 1) := by decide +kernel
theorem dl_765 : decode code 765 = .ok (.iload_n 3, 1) := by decide +kernel
theorem dl_766 : decode code 766 = .ok (.iconst 1, 1) := by decide +kernel
theorem dl_767 : decode code 767 = .ok (.iadd, 1) := by decide +kernel
theorem dl_768 : decode code 768 = .ok (.iaload, 1) := by decide +kernel
theorem dl_769 : decode code 769 = .ok (.aload_n 0, 1) := by decide +kernel
theorem dl_770 : decode code 770 = .ok (.iload_n 3, 1) := by decide +kernel
theorem dl_771 : decode code 771 = .ok (.iconst 2, 1) := by decide +kernel
theorem dl_772 : decode code 772 = .ok (.iadd, 1) := by decide +kernel
theorem dl_773 : decode code 773 = .ok (.iaload, 1) := by decide +kernel
theorem dl_774 : decode code 774 = .ok (.invokevirtual 97, 3) := by decide +kernel
theorem dl_777 : decode code 777 = .ok (.if_icmp .eq 123, 3) := by decide +kernel
theorem dl_780 : decode code 780 = .ok (.iconst 0, 1) := by decide +kernel
theorem dl_781 : decode code 781 = .ok (.ireturn, 1) := by decide +kernel
theorem dl_782 : decode code 782 = .ok (.aload_n 1, 1) := by decide +kernel
theorem dl_783 : decode code 783 = .ok (.invokevirtual 98, 3) := by decide +kernel
theorem dl_786 : decode code 786 = .ok (.aload_n 2, 1) := by decide +kernel
theorem dl_787 : decode code 787 = .ok (.invokevirtual 101, 3) := by decide +kernel
theorem dl_790 : decode code 790 = .ok (.if_icmp .eq 110, 3) := by decide +kernel
theorem dl_793 : decode code 793 = .ok (.iconst 0, 1) := by decide +kernel
theorem dl_794 : decode code 794 = .ok (.ireturn, 1) := by decide +kernel
theorem dl_795 : decode code 795 = .ok (.aload_n 1, 1) := by decide +kernel
theorem dl_796 : decode code 796 = .ok (.invokevirtual 102, 3) := by decide +kernel
theorem dl_799 : decode code 799 = .ok (.aload_n 2, 1) := by decide +kernel
theorem dl_800 : decode code 800 = .ok (.invokevirtual 105, 3) := by decide +kernel
theorem dl_803 : decode code 803 = .ok (.if_icmp .eq 97, 3) := by decide +kernel
theorem dl_806 : decode code 806 = .ok (.iconst 0, 1) := by decide +kernel
theorem dl_807 : decode code 807 = .ok (.ireturn, 1) := by decide +kernel
theorem dl_808 : decode code 808 = .ok (.aload_n 1, 1) := by decide +kernel
theorem dl_809 : decode code 809 = .ok (.aload_n 0, 1) := by decide +kernel
theorem dl_810 : decode code 810 = .ok (.iload_n 3, 1) := by decide +kernel
theorem dl_811 : decode code 811 = .ok (.iconst 1, 1) := by decide +kernel
theorem dl_812 : decode code 812 = .ok (.iadd, 1) := by decide +kernel
theorem dl_813 : decode code 813 = .ok (.iaload, 1) := by decide +kernel
theorem dl_814 : decode code 814 = .ok (.aload_n 0, 1) := by decide +kernel
theorem dl_815 : decode code 815 = .ok (.iload_n 3, 1) := by decide +kernel
theorem dl_816 : decode code 816 = .ok (.iconst 2, 1) := by decide +kernel
theorem dl_817 : decode code 817 = .ok (.iadd, 1) := by decide +kernel
theorem dl_818 : decode code 818 = .ok (.iaload, 1) := by decide +kernel
theorem dl_819 : decode code 819 = .ok (.invokevirtual 106, 3) := by decide +kernel
theorem dl_822 : decode code 822 = .ok (.aload_n 2, 1) := by decide +kernel
theorem dl_823 : decode code 823 = .ok (.aload_n 0, 1) := by decide +kernel
theorem dl_824 : decode code 824 = .ok (.iload_n 3, 1) := by decide +kernel
theorem dl_825 : decode code 825 = .ok (.iconst 1, 1) := by decide +kernel
theorem dl_826 : decode code 826 = .ok (.iadd, 1) := by decide +kernel
theorem dl_827 : decode code 827 = .ok (.iaload, 1) := by decide +kernel
theorem dl_828 : decode code 828 = .ok (.aload_n 0, 1) := by decide +kernel
theorem dl_829 : decode code 829 = .ok (.iload_n 3, 1) := by decide +kernel
theorem dl_830 : decode code 830 = .ok (.iconst 2, 1) := by decide +kernel
theorem dl_831 : decode code 831 = .ok (.iadd, 1) := by decide +kernel
theorem dl_832 : decode code 832 = .ok (.iaload, 1) := by decide +kernel
theorem dl_833 : decode code 833 = .ok (.invokevirtual 109, 3) := by decide +kernel
theorem dl_836 : decode code 836 = .ok (.if_icmp .eq 64, 3) := by decide +kernel
theorem dl_839 : decode code 839 = .ok (.iconst 0, 1) := by decide +kernel
theorem dl_840 : decode code 840 = .ok (.ireturn, 1) := by decide +kernel
theorem dl_841 : decode code 841 = .ok (.aload_n 1, 1) := by decide +kernel
theorem dl_842 : decode code 842 = .ok (.aload_n 0, 1) := by decide +kernel
theorem dl_843 : decode code 843 = .ok (.iload_n 3, 1) := by decide +kernel
theorem dl_844 : decode code 844 = .ok (.iconst 1, 1) := by decide +kernel
theorem dl_845 : decode code 845 = .ok (.iadd, 1) := by decide +kernel
theorem dl_846 : decode code 846 = .ok (.iaload, 1) := by decide +kernel
theorem dl_847 : decode code 847 = .ok (.aload_n 0, 1) := by decide +kernel
theorem dl_848 : decode code 848 = .ok (.iload_n 3, 1) := by decide +kernel
theorem dl_849 : decode code 849 = .ok (.iconst 2, 1) := by decide +kernel
theorem dl_850 : decode code 850 = .ok (.iadd, 1) := by decide +kernel
theorem dl_851 : decode code 851 = .ok (.iaload, 1) := by decide +kernel
theorem dl_852 : decode code 852 = .ok (.invokevirtual 110, 3) := by decide +kernel
theorem dl_855 : decode code 855 = .ok (.aload_n 2, 1) := by decide +kernel
theorem dl_856 : decode code 856 = .ok (.aload_n 0, 1) := by decide +kernel
theorem dl_857 : decode code 857 = .ok (.iload_n 3, 1) := by decide +kernel
theorem dl_858 : decode code 858 = .ok (.iconst 1, 1) := by decide +kernel
theorem dl_859 : decode code 859 = .ok (.iadd, 1) := by decide +kernel
theorem dl_860 : decode code 860 = .ok (.iaload, 1) := by decide +kernel
theorem dl_861 : decode code 861 = .ok (.aload_n 0, 1) := by decide +kernel
theorem dl_862 : decode code 862 = .ok (.iload_n 3, 1) := by decide +kernel
theorem dl_863 : decode code 863 = .ok (.iconst 2, 1) := by decide +kernel
theorem dl_864 : decode code 864 = .ok (.iadd, 1) := by decide +kernel
theorem dl_865 : decode code 865 = .ok (.iaload, 1) := by decide +kernel
theorem dl_866 : decode code 866 = .ok (.invokevirtual 113, 3) := by decide +kernel
theorem dl_869 : decode code 869 = .ok (.if_icmp .eq 31, 3) := by decide +kernel
theorem dl_872 : decode code 872 = .ok (.iconst 0, 1) := by decide +kernel
theorem dl_873 : decode code 873 = .ok (.ireturn, 1) := by decide +kernel
theorem dl_874 : decode code 874 = .ok (.aload_n 1, 1) := by decide +kernel
theorem dl_875 : decode code 875 = .ok (.invokevirtual 114, 3) := by decide +kernel
theorem dl_878 : decode code 878 = .ok (.aload_n 2, 1) := by decide +kernel
theorem dl_879 : decode code 879 = .ok (.invokevirtual 117, 3) := by decide +kernel
theorem dl_882 : decode code 882 = .ok (.if_icmp .eq 18, 3) := by decide +kernel
theorem dl_885 : decode code 885 = .ok (.iconst 0, 1) := by decide +kernel
theorem dl_886 : decode code 886 = .ok (.ireturn, 1) := by decide +kernel
theorem dl_887 : decode code 887 = .ok (.aload_n 1, 1) := by decide +kernel
theorem dl_888 : decode code 888 = .ok (.invokevirtual 118, 3) := by decide +kernel
theorem dl_891 : decode code 891 = .ok (.aload_n 2, 1) := by decide +kernel
theorem dl_892 : decode code 892 = .ok (.invokevirtual 121, 3) := by decide +kernel
theorem dl_895 : decode code 895 = .ok (.if_icmp .eq 5, 3) := by decide +kernel
theorem dl_898 : decode code 898 = .ok (.iconst 0, 1) := by decide +kernel
theorem dl_899 : decode code 899 = .ok (.ireturn, 1) := by decide +kernel
theorem dl_900 : decode code 900 = .ok (.iinc 3 5, 3) := by decide +kernel
theorem dl_903 : decode code 903 = .ok (.goto (-885), 3) := by decide +kernel
theorem dl_906 : decode code 906 = .ok (.iconst 1, 1) := by decide +kernel
theorem dl_907 : decode code 907 = .ok (.ireturn, 1) := by decide +kernel
/-! THE CLAIM OUT OF ONE WALK OF THE LAW'S BODY. Your part is whole_start (and what it stands on); all else here is the same for every law, but numbers. -/
def R_law : String := "IntervalRoutingLaw"
def lw_P (b : Addr) (xs : List Int32) (args : Array Value) (s : State) : Prop := args = #[.ref b] ∧ s.IntsAt b xs ∧ xs.length ≤ 2560 ∧ (Jvm.Cond.and given_1 narrow_1).before args s = true
/-- what a walk over the start with the record d0 says of its end, said of the start itself -/
theorem lw_closed {s t : State} {o : Outcome} {d0 : Drawn} {L : List Loc} {k n : Nat} (hd0 : s.drawn.sameBut d0 lw_cs) (hv : ∃ v, o = .returned v) (hW : (s.setDrawn d0).WarmedH t.vm) (hs : (s.setDrawn d0).sameButNew ({ t with vm := s.vm } : State) L k n) : State.butDraws s t lw_cs (fun t1 => Framed s o t1 L k n) := by
  have h2 : t.drawn = d0 := congrArg State.drawn hs.1
  refine ⟨⟨hv, hW, State.sameButNew.setDrawn hs s.drawn⟩, ?_, by decide⟩
  rw [h2]
  exact hd0
def lw_Q (_ : Array Value) (s : State) (o : Outcome) (t : State) : Prop := o = .returned (some (.int 1)) ∧ State.butDraws s t lw_cs (fun t1 => Framed s o t1 [] 600000 7302250)
def lw_Z (below : List Frame) (a : Array Value) (s : State) : State → Prop := fun t => ∃ o, t.status = .running ∧ Ended t below o ∧ lw_Q a s o t
/-- the law's own end, with 1 on the stack, nothing written that was there before, its room as the claim has it; d0: the record of draws at this point (at the entry s.drawn: begin with 'refine W.base ?_' and 'have hd0 := Drawn.sameBut.refl s.drawn lw_cs') -/
theorem lw_ret {p : Program} {l : Launch} {e : Env} {s : State} {m : MethodId} {below : List Frame} {meth : Method} {c : Code} {b : Nat} {d0 : Drawn} (hd0 : s.drawn.sameBut d0 lw_cs) (hx : p.tables.exec = Jvm.exec) (hb : c.code = code) (hr : meth.sig.returnType = ret) (hlocks : meth.locks = false) {pc : Nat} {H : Heap} {ls : Array Slot} (hdg : decode code pc = .ok (.ireturn, 1)) : W p l e room_1 (s.setDrawn d0) m #[Value.ref b] below meth c H [] 600000 7302250 (lw_Z below #[Value.ref b] s) (F0 m pc ls [.int 1]) := by
  intro T hT X
  obtain ⟨fs, hret, hrun, hended, hW, hframe⟩ := X.leave (v := some (.int 1)) (hlocks := hlocks) (fun h => by rw [hr] at h; cases h)
  have hmeth' : T.vm.method? m = some meth := X.method'
  refine ⟨T.setFrames fs, ?_, .returned (some (.int 1)), hrun, hended, rfl, lw_closed hd0 ⟨_, rfl⟩ hW hframe⟩
  jvm_step X.here [X.here.top, hx, hb, hdg, hmeth', hr, ret, narrow_b1]
  (try refine ⟨rfl, ?_⟩); (try refine ⟨rfl, ?_⟩)
  first | (intro acts; rw [hret _ acts rfl rfl rfl]) | rw [hret _ _ rfl rfl rfl]
  exact Steps.refl _
/-- what holds at the law's entry: the machine, the code, the tables' words (any of lw_tbl by 'hts w (by decide +kernel)'), the script of L ints xs at the cell b, what the Statement gives of the start (any of its parts by flat_of_before) -/
def lw_At (p : Program) (s : State) (m : MethodId) (meth : Method) (c : Code) (b L : Nat) (xs : Nat → Int32) : Prop :=
  p.tables.exec = Jvm.exec ∧ c.code = code ∧ meth.sig.returnType = ret ∧ c.maxLocals = 4 ∧ s.vm.findClass R_law = some m.cls ∧ (∀ w ∈ lw_tbl, w.before #[Value.ref b] s = true) ∧ va_X b L xs s s.heap ∧ b < s.heap.size ∧ meth.locks = false ∧ (Jvm.Cond.and given_1 narrow_1).before #[Value.ref b] s = true
