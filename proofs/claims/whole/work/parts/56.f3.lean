theorem q0_0 : z_m0.2.2.2.2.2.lookup 0 = some (.new 7, 3) := by decide +kernel
theorem q0_3 : z_m0.2.2.2.2.2.lookup 3 = some (.dup, 1) := by decide +kernel
theorem q0_4 : z_m0.2.2.2.2.2.lookup 4 = some (.invokespecial 9, 3) := by decide +kernel
theorem q0_7 : z_m0.2.2.2.2.2.lookup 7 = some (.astore_n 1, 1) := by decide +kernel
theorem q0_8 : z_m0.2.2.2.2.2.lookup 8 = some (.new 10, 3) := by decide +kernel
theorem q0_11 : z_m0.2.2.2.2.2.lookup 11 = some (.dup, 1) := by decide +kernel
theorem q0_12 : z_m0.2.2.2.2.2.lookup 12 = some (.invokespecial 12, 3) := by decide +kernel
theorem q0_15 : z_m0.2.2.2.2.2.lookup 15 = some (.astore_n 2, 1) := by decide +kernel
theorem q0_16 : z_m0.2.2.2.2.2.lookup 16 = some (.iconst 0, 1) := by decide +kernel
theorem q0_17 : z_m0.2.2.2.2.2.lookup 17 = some (.istore_n 3, 1) := by decide +kernel
theorem q0_18 : z_m0.2.2.2.2.2.lookup 18 = some (.iload_n 3, 1) := by decide +kernel
theorem q0_19 : z_m0.2.2.2.2.2.lookup 19 = some (.aload_n 0, 1) := by decide +kernel
theorem q0_20 : z_m0.2.2.2.2.2.lookup 20 = some (.arraylength, 1) := by decide +kernel
theorem q0_21 : z_m0.2.2.2.2.2.lookup 21 = some (.bipush 7, 2) := by decide +kernel
theorem q0_23 : z_m0.2.2.2.2.2.lookup 23 = some (.isub, 1) := by decide +kernel
theorem q0_24 : z_m0.2.2.2.2.2.lookup 24 = some (.if_icmp .gt 1578, 3) := by decide +kernel
theorem q0_27 : z_m0.2.2.2.2.2.lookup 27 = some (.aload_n 0, 1) := by decide +kernel
theorem q0_28 : z_m0.2.2.2.2.2.lookup 28 = some (.iload_n 3, 1) := by decide +kernel
theorem q0_29 : z_m0.2.2.2.2.2.lookup 29 = some (.iaload, 1) := by decide +kernel
theorem q0_30 : z_m0.2.2.2.2.2.lookup 30 = some (.bipush 63, 2) := by decide +kernel
theorem q0_32 : z_m0.2.2.2.2.2.lookup 32 = some (.iand, 1) := by decide +kernel
theorem q0_33 : z_m0.2.2.2.2.2.lookup 33 = some (.tableswitch 1563 0 36 #[163, 186, 261, 294, 327, 360, 383, 406, 439, 482, 525, 588, 601, 644, 677, 711, 755, 798, 821, 845, 898, 921, 964, 997, 1051, 1094, 1127, 1160, 1193, 1226, 1259, 1283, 1306, 1349, 1392, 1455, 1530], 163) := by decide +kernel
theorem q0_196 : z_m0.2.2.2.2.2.lookup 196 = some (.aload_n 1, 1) := by decide +kernel
theorem q0_197 : z_m0.2.2.2.2.2.lookup 197 = some (.aload_n 0, 1) := by decide +kernel
theorem q0_198 : z_m0.2.2.2.2.2.lookup 198 = some (.iload_n 3, 1) := by decide +kernel
theorem q0_199 : z_m0.2.2.2.2.2.lookup 199 = some (.iconst 1, 1) := by decide +kernel
theorem q0_200 : z_m0.2.2.2.2.2.lookup 200 = some (.iadd, 1) := by decide +kernel
theorem q0_201 : z_m0.2.2.2.2.2.lookup 201 = some (.iaload, 1) := by decide +kernel
theorem q0_202 : z_m0.2.2.2.2.2.lookup 202 = some (.invokevirtual 13, 3) := by decide +kernel
theorem q0_205 : z_m0.2.2.2.2.2.lookup 205 = some (.aload_n 2, 1) := by decide +kernel
theorem q0_206 : z_m0.2.2.2.2.2.lookup 206 = some (.aload_n 0, 1) := by decide +kernel
theorem q0_207 : z_m0.2.2.2.2.2.lookup 207 = some (.iload_n 3, 1) := by decide +kernel
theorem q0_208 : z_m0.2.2.2.2.2.lookup 208 = some (.iconst 1, 1) := by decide +kernel
theorem q0_209 : z_m0.2.2.2.2.2.lookup 209 = some (.iadd, 1) := by decide +kernel
theorem q0_210 : z_m0.2.2.2.2.2.lookup 210 = some (.iaload, 1) := by decide +kernel
theorem q0_211 : z_m0.2.2.2.2.2.lookup 211 = some (.invokevirtual 17, 3) := by decide +kernel
theorem q0_214 : z_m0.2.2.2.2.2.lookup 214 = some (.if_icmp .eq 1382, 3) := by decide +kernel
theorem q0_217 : z_m0.2.2.2.2.2.lookup 217 = some (.iconst 0, 1) := by decide +kernel
theorem q0_218 : z_m0.2.2.2.2.2.lookup 218 = some (.ireturn, 1) := by decide +kernel
theorem q0_219 : z_m0.2.2.2.2.2.lookup 219 = some (.aload_n 1, 1) := by decide +kernel
theorem q0_220 : z_m0.2.2.2.2.2.lookup 220 = some (.aload_n 0, 1) := by decide +kernel
theorem q0_221 : z_m0.2.2.2.2.2.lookup 221 = some (.iload_n 3, 1) := by decide +kernel
theorem q0_222 : z_m0.2.2.2.2.2.lookup 222 = some (.iconst 1, 1) := by decide +kernel
theorem q0_223 : z_m0.2.2.2.2.2.lookup 223 = some (.iadd, 1) := by decide +kernel
theorem q0_224 : z_m0.2.2.2.2.2.lookup 224 = some (.iaload, 1) := by decide +kernel
theorem q0_225 : z_m0.2.2.2.2.2.lookup 225 = some (.aload_n 0, 1) := by decide +kernel
theorem q0_226 : z_m0.2.2.2.2.2.lookup 226 = some (.iload_n 3, 1) := by decide +kernel
theorem q0_227 : z_m0.2.2.2.2.2.lookup 227 = some (.iconst 2, 1) := by decide +kernel
theorem q0_228 : z_m0.2.2.2.2.2.lookup 228 = some (.iadd, 1) := by decide +kernel
theorem q0_229 : z_m0.2.2.2.2.2.lookup 229 = some (.iaload, 1) := by decide +kernel
theorem q0_230 : z_m0.2.2.2.2.2.lookup 230 = some (.aload_n 0, 1) := by decide +kernel
theorem q0_231 : z_m0.2.2.2.2.2.lookup 231 = some (.iload_n 3, 1) := by decide +kernel
theorem q0_232 : z_m0.2.2.2.2.2.lookup 232 = some (.iconst 3, 1) := by decide +kernel
theorem q0_233 : z_m0.2.2.2.2.2.lookup 233 = some (.iadd, 1) := by decide +kernel
theorem q0_234 : z_m0.2.2.2.2.2.lookup 234 = some (.iaload, 1) := by decide +kernel
theorem q0_235 : z_m0.2.2.2.2.2.lookup 235 = some (.aload_n 0, 1) := by decide +kernel
theorem q0_236 : z_m0.2.2.2.2.2.lookup 236 = some (.iload_n 3, 1) := by decide +kernel
theorem q0_237 : z_m0.2.2.2.2.2.lookup 237 = some (.iconst 4, 1) := by decide +kernel
theorem q0_238 : z_m0.2.2.2.2.2.lookup 238 = some (.iadd, 1) := by decide +kernel
theorem q0_239 : z_m0.2.2.2.2.2.lookup 239 = some (.iaload, 1) := by decide +kernel
theorem q0_240 : z_m0.2.2.2.2.2.lookup 240 = some (.aload_n 0, 1) := by decide +kernel
theorem q0_241 : z_m0.2.2.2.2.2.lookup 241 = some (.iload_n 3, 1) := by decide +kernel
theorem q0_242 : z_m0.2.2.2.2.2.lookup 242 = some (.iconst 5, 1) := by decide +kernel
theorem q0_243 : z_m0.2.2.2.2.2.lookup 243 = some (.iadd, 1) := by decide +kernel
theorem q0_244 : z_m0.2.2.2.2.2.lookup 244 = some (.iaload, 1) := by decide +kernel
theorem q0_245 : z_m0.2.2.2.2.2.lookup 245 = some (.aload_n 0, 1) := by decide +kernel
theorem q0_246 : z_m0.2.2.2.2.2.lookup 246 = some (.iload_n 3, 1) := by decide +kernel
theorem q0_247 : z_m0.2.2.2.2.2.lookup 247 = some (.bipush 6, 2) := by decide +kernel
theorem q0_249 : z_m0.2.2.2.2.2.lookup 249 = some (.iadd, 1) := by decide +kernel
theorem q0_250 : z_m0.2.2.2.2.2.lookup 250 = some (.iaload, 1) := by decide +kernel
theorem q0_251 : z_m0.2.2.2.2.2.lookup 251 = some (.invokevirtual 18, 3) := by decide +kernel
theorem q0_254 : z_m0.2.2.2.2.2.lookup 254 = some (.aload_n 2, 1) := by decide +kernel
theorem q0_255 : z_m0.2.2.2.2.2.lookup 255 = some (.aload_n 0, 1) := by decide +kernel
theorem q0_256 : z_m0.2.2.2.2.2.lookup 256 = some (.iload_n 3, 1) := by decide +kernel
theorem q0_257 : z_m0.2.2.2.2.2.lookup 257 = some (.iconst 1, 1) := by decide +kernel
theorem q0_258 : z_m0.2.2.2.2.2.lookup 258 = some (.iadd, 1) := by decide +kernel
theorem q0_259 : z_m0.2.2.2.2.2.lookup 259 = some (.iaload, 1) := by decide +kernel
theorem q0_260 : z_m0.2.2.2.2.2.lookup 260 = some (.aload_n 0, 1) := by decide +kernel
theorem q0_261 : z_m0.2.2.2.2.2.lookup 261 = some (.iload_n 3, 1) := by decide +kernel
theorem q0_262 : z_m0.2.2.2.2.2.lookup 262 = some (.iconst 2, 1) := by decide +kernel
theorem q0_263 : z_m0.2.2.2.2.2.lookup 263 = some (.iadd, 1) := by decide +kernel
theorem q0_264 : z_m0.2.2.2.2.2.lookup 264 = some (.iaload, 1) := by decide +kernel
theorem q0_265 : z_m0.2.2.2.2.2.lookup 265 = some (.aload_n 0, 1) := by decide +kernel
theorem q0_266 : z_m0.2.2.2.2.2.lookup 266 = some (.iload_n 3, 1) := by decide +kernel
theorem q0_267 : z_m0.2.2.2.2.2.lookup 267 = some (.iconst 3, 1) := by decide +kernel
theorem q0_268 : z_m0.2.2.2.2.2.lookup 268 = some (.iadd, 1) := by decide +kernel
theorem q0_269 : z_m0.2.2.2.2.2.lookup 269 = some (.iaload, 1) := by decide +kernel
theorem q0_270 : z_m0.2.2.2.2.2.lookup 270 = some (.aload_n 0, 1) := by decide +kernel
theorem q0_271 : z_m0.2.2.2.2.2.lookup 271 = some (.iload_n 3, 1) := by decide +kernel
theorem q0_272 : z_m0.2.2.2.2.2.lookup 272 = some (.iconst 4, 1) := by decide +kernel
theorem q0_273 : z_m0.2.2.2.2.2.lookup 273 = some (.iadd, 1) := by decide +kernel
theorem q0_274 : z_m0.2.2.2.2.2.lookup 274 = some (.iaload, 1) := by decide +kernel
theorem q0_275 : z_m0.2.2.2.2.2.lookup 275 = some (.aload_n 0, 1) := by decide +kernel
theorem q0_276 : z_m0.2.2.2.2.2.lookup 276 = some (.iload_n 3, 1) := by decide +kernel
theorem q0_277 : z_m0.2.2.2.2.2.lookup 277 = some (.iconst 5, 1) := by decide +kernel
theorem q0_278 : z_m0.2.2.2.2.2.lookup 278 = some (.iadd, 1) := by decide +kernel
theorem q0_279 : z_m0.2.2.2.2.2.lookup 279 = some (.iaload, 1) := by decide +kernel
theorem q0_280 : z_m0.2.2.2.2.2.lookup 280 = some (.aload_n 0, 1) := by decide +kernel
theorem q0_281 : z_m0.2.2.2.2.2.lookup 281 = some (.iload_n 3, 1) := by decide +kernel
theorem q0_282 : z_m0.2.2.2.2.2.lookup 282 = some (.bipush 6, 2) := by decide +kernel
theorem q0_284 : z_m0.2.2.2.2.2.lookup 284 = some (.iadd, 1) := by decide +kernel
theorem q0_285 : z_m0.2.2.2.2.2.lookup 285 = some (.iaload, 1) := by decide +kernel
theorem q0_286 : z_m0.2.2.2.2.2.lookup 286 = some (.invokevirtual 22, 3) := by decide +kernel
theorem q0_289 : z_m0.2.2.2.2.2.lookup 289 = some (.if_icmp .eq 1307, 3) := by decide +kernel
theorem q0_292 : z_m0.2.2.2.2.2.lookup 292 = some (.iconst 0, 1) := by decide +kernel
theorem q0_293 : z_m0.2.2.2.2.2.lookup 293 = some (.ireturn, 1) := by decide +kernel
theorem q0_294 : z_m0.2.2.2.2.2.lookup 294 = some (.aload_n 1, 1) := by decide +kernel
theorem q0_295 : z_m0.2.2.2.2.2.lookup 295 = some (.aload_n 0, 1) := by decide +kernel
theorem q0_296 : z_m0.2.2.2.2.2.lookup 296 = some (.iload_n 3, 1) := by decide +kernel
theorem q0_297 : z_m0.2.2.2.2.2.lookup 297 = some (.iconst 1, 1) := by decide +kernel
theorem q0_298 : z_m0.2.2.2.2.2.lookup 298 = some (.iadd, 1) := by decide +kernel
theorem q0_299 : z_m0.2.2.2.2.2.lookup 299 = some (.iaload, 1) := by decide +kernel
theorem q0_300 : z_m0.2.2.2.2.2.lookup 300 = some (.aload_n 0, 1) := by decide +kernel
theorem q0_301 : z_m0.2.2.2.2.2.lookup 301 = some (.iload_n 3, 1) := by decide +kernel
theorem q0_302 : z_m0.2.2.2.2.2.lookup 302 = some (.iconst 2, 1) := by decide +kernel
theorem q0_303 : z_m0.2.2.2.2.2.lookup 303 = some (.iadd, 1) := by decide +kernel
theorem q0_304 : z_m0.2.2.2.2.2.lookup 304 = some (.iaload, 1) := by decide +kernel
theorem q0_305 : z_m0.2.2.2.2.2.lookup 305 = some (.invokevirtual 23, 3) := by decide +kernel
theorem q0_308 : z_m0.2.2.2.2.2.lookup 308 = some (.aload_n 2, 1) := by decide +kernel
theorem q0_309 : z_m0.2.2.2.2.2.lookup 309 = some (.aload_n 0, 1) := by decide +kernel
theorem q0_310 : z_m0.2.2.2.2.2.lookup 310 = some (.iload_n 3, 1) := by decide +kernel
theorem q0_311 : z_m0.2.2.2.2.2.lookup 311 = some (.iconst 1, 1) := by decide +kernel
theorem q0_312 : z_m0.2.2.2.2.2.lookup 312 = some (.iadd, 1) := by decide +kernel
theorem q0_313 : z_m0.2.2.2.2.2.lookup 313 = some (.iaload, 1) := by decide +kernel
theorem q0_314 : z_m0.2.2.2.2.2.lookup 314 = some (.aload_n 0, 1) := by decide +kernel
theorem q0_315 : z_m0.2.2.2.2.2.lookup 315 = some (.iload_n 3, 1) := by decide +kernel
theorem q0_316 : z_m0.2.2.2.2.2.lookup 316 = some (.iconst 2, 1) := by decide +kernel
theorem q0_317 : z_m0.2.2.2.2.2.lookup 317 = some (.iadd, 1) := by decide +kernel
theorem q0_318 : z_m0.2.2.2.2.2.lookup 318 = some (.iaload, 1) := by decide +kernel
theorem q0_319 : z_m0.2.2.2.2.2.lookup 319 = some (.invokevirtual 27, 3) := by decide +kernel
theorem q0_322 : z_m0.2.2.2.2.2.lookup 322 = some (.if_icmp .eq 1274, 3) := by decide +kernel
theorem q0_325 : z_m0.2.2.2.2.2.lookup 325 = some (.iconst 0, 1) := by decide +kernel
theorem q0_326 : z_m0.2.2.2.2.2.lookup 326 = some (.ireturn, 1) := by decide +kernel
theorem q0_327 : z_m0.2.2.2.2.2.lookup 327 = some (.aload_n 1, 1) := by decide +kernel
theorem q0_328 : z_m0.2.2.2.2.2.lookup 328 = some (.aload_n 0, 1) := by decide +kernel
theorem q0_329 : z_m0.2.2.2.2.2.lookup 329 = some (.iload_n 3, 1) := by decide +kernel
theorem q0_330 : z_m0.2.2.2.2.2.lookup 330 = some (.iconst 1, 1) := by decide +kernel
theorem q0_331 : z_m0.2.2.2.2.2.lookup 331 = some (.iadd, 1) := by decide +kernel
theorem q0_332 : z_m0.2.2.2.2.2.lookup 332 = some (.iaload, 1) := by decide +kernel
theorem q0_333 : z_m0.2.2.2.2.2.lookup 333 = some (.aload_n 0, 1) := by decide +kernel
theorem q0_334 : z_m0.2.2.2.2.2.lookup 334 = some (.iload_n 3, 1) := by decide +kernel
theorem q0_335 : z_m0.2.2.2.2.2.lookup 335 = some (.iconst 2, 1) := by decide +kernel
theorem q0_336 : z_m0.2.2.2.2.2.lookup 336 = some (.iadd, 1) := by decide +kernel
theorem q0_337 : z_m0.2.2.2.2.2.lookup 337 = some (.iaload, 1) := by decide +kernel
theorem q0_338 : z_m0.2.2.2.2.2.lookup 338 = some (.invokevirtual 28, 3) := by decide +kernel
theorem q0_341 : z_m0.2.2.2.2.2.lookup 341 = some (.aload_n 2, 1) := by decide +kernel
theorem q0_342 : z_m0.2.2.2.2.2.lookup 342 = some (.aload_n 0, 1) := by decide +kernel
theorem q0_343 : z_m0.2.2.2.2.2.lookup 343 = some (.iload_n 3, 1) := by decide +kernel
theorem q0_344 : z_m0.2.2.2.2.2.lookup 344 = some (.iconst 1, 1) := by decide +kernel
theorem q0_345 : z_m0.2.2.2.2.2.lookup 345 = some (.iadd, 1) := by decide +kernel
theorem q0_346 : z_m0.2.2.2.2.2.lookup 346 = some (.iaload, 1) := by decide +kernel
theorem q0_347 : z_m0.2.2.2.2.2.lookup 347 = some (.aload_n 0, 1) := by decide +kernel
theorem q0_348 : z_m0.2.2.2.2.2.lookup 348 = some (.iload_n 3, 1) := by decide +kernel
theorem q0_349 : z_m0.2.2.2.2.2.lookup 349 = some (.iconst 2, 1) := by decide +kernel
theorem q0_350 : z_m0.2.2.2.2.2.lookup 350 = some (.iadd, 1) := by decide +kernel
theorem q0_351 : z_m0.2.2.2.2.2.lookup 351 = some (.iaload, 1) := by decide +kernel
theorem q0_352 : z_m0.2.2.2.2.2.lookup 352 = some (.invokevirtual 31, 3) := by decide +kernel
theorem q0_355 : z_m0.2.2.2.2.2.lookup 355 = some (.if_icmp .eq 1241, 3) := by decide +kernel
theorem q0_358 : z_m0.2.2.2.2.2.lookup 358 = some (.iconst 0, 1) := by decide +kernel
theorem q0_359 : z_m0.2.2.2.2.2.lookup 359 = some (.ireturn, 1) := by decide +kernel
theorem q0_360 : z_m0.2.2.2.2.2.lookup 360 = some (.aload_n 1, 1) := by decide +kernel
theorem q0_361 : z_m0.2.2.2.2.2.lookup 361 = some (.aload_n 0, 1) := by decide +kernel
theorem q0_362 : z_m0.2.2.2.2.2.lookup 362 = some (.iload_n 3, 1) := by decide +kernel
theorem q0_363 : z_m0.2.2.2.2.2.lookup 363 = some (.iconst 1, 1) := by decide +kernel
theorem q0_364 : z_m0.2.2.2.2.2.lookup 364 = some (.iadd, 1) := by decide +kernel
theorem q0_365 : z_m0.2.2.2.2.2.lookup 365 = some (.iaload, 1) := by decide +kernel
theorem q0_366 : z_m0.2.2.2.2.2.lookup 366 = some (.aload_n 0, 1) := by decide +kernel
theorem q0_367 : z_m0.2.2.2.2.2.lookup 367 = some (.iload_n 3, 1) := by decide +kernel
theorem q0_368 : z_m0.2.2.2.2.2.lookup 368 = some (.iconst 2, 1) := by decide +kernel
theorem q0_369 : z_m0.2.2.2.2.2.lookup 369 = some (.iadd, 1) := by decide +kernel
theorem q0_370 : z_m0.2.2.2.2.2.lookup 370 = some (.iaload, 1) := by decide +kernel
theorem q0_371 : z_m0.2.2.2.2.2.lookup 371 = some (.invokevirtual 32, 3) := by decide +kernel
theorem q0_374 : z_m0.2.2.2.2.2.lookup 374 = some (.aload_n 2, 1) := by decide +kernel
theorem q0_375 : z_m0.2.2.2.2.2.lookup 375 = some (.aload_n 0, 1) := by decide +kernel
theorem q0_376 : z_m0.2.2.2.2.2.lookup 376 = some (.iload_n 3, 1) := by decide +kernel
theorem q0_377 : z_m0.2.2.2.2.2.lookup 377 = some (.iconst 1, 1) := by decide +kernel
theorem q0_378 : z_m0.2.2.2.2.2.lookup 378 = some (.iadd, 1) := by decide +kernel
theorem q0_379 : z_m0.2.2.2.2.2.lookup 379 = some (.iaload, 1) := by decide +kernel
theorem q0_380 : z_m0.2.2.2.2.2.lookup 380 = some (.aload_n 0, 1) := by decide +kernel
theorem q0_381 : z_m0.2.2.2.2.2.lookup 381 = some (.iload_n 3, 1) := by decide +kernel
theorem q0_382 : z_m0.2.2.2.2.2.lookup 382 = some (.iconst 2, 1) := by decide +kernel
theorem q0_383 : z_m0.2.2.2.2.2.lookup 383 = some (.iadd, 1) := by decide +kernel
theorem q0_384 : z_m0.2.2.2.2.2.lookup 384 = some (.iaload, 1) := by decide +kernel
theorem q0_385 : z_m0.2.2.2.2.2.lookup 385 = some (.invokevirtual 35, 3) := by decide +kernel
theorem q0_388 : z_m0.2.2.2.2.2.lookup 388 = some (.if_icmp .eq 1208, 3) := by decide +kernel
theorem q0_391 : z_m0.2.2.2.2.2.lookup 391 = some (.iconst 0, 1) := by decide +kernel
theorem q0_392 : z_m0.2.2.2.2.2.lookup 392 = some (.ireturn, 1) := by decide +kernel
theorem q0_393 : z_m0.2.2.2.2.2.lookup 393 = some (.aload_n 1, 1) := by decide +kernel
theorem q0_394 : z_m0.2.2.2.2.2.lookup 394 = some (.aload_n 0, 1) := by decide +kernel
theorem q0_395 : z_m0.2.2.2.2.2.lookup 395 = some (.iload_n 3, 1) := by decide +kernel
theorem q0_396 : z_m0.2.2.2.2.2.lookup 396 = some (.iconst 1, 1) := by decide +kernel
theorem q0_397 : z_m0.2.2.2.2.2.lookup 397 = some (.iadd, 1) := by decide +kernel
theorem q0_398 : z_m0.2.2.2.2.2.lookup 398 = some (.iaload, 1) := by decide +kernel
theorem q0_399 : z_m0.2.2.2.2.2.lookup 399 = some (.invokevirtual 36, 3) := by decide +kernel
theorem q0_402 : z_m0.2.2.2.2.2.lookup 402 = some (.aload_n 2, 1) := by decide +kernel
theorem q0_403 : z_m0.2.2.2.2.2.lookup 403 = some (.aload_n 0, 1) := by decide +kernel
theorem q0_404 : z_m0.2.2.2.2.2.lookup 404 = some (.iload_n 3, 1) := by decide +kernel
theorem q0_405 : z_m0.2.2.2.2.2.lookup 405 = some (.iconst 1, 1) := by decide +kernel
theorem q0_406 : z_m0.2.2.2.2.2.lookup 406 = some (.iadd, 1) := by decide +kernel
theorem q0_407 : z_m0.2.2.2.2.2.lookup 407 = some (.iaload, 1) := by decide +kernel
theorem q0_408 : z_m0.2.2.2.2.2.lookup 408 = some (.invokevirtual 39, 3) := by decide +kernel
theorem q0_411 : z_m0.2.2.2.2.2.lookup 411 = some (.if_icmp .eq 1185, 3) := by decide +kernel
theorem q0_414 : z_m0.2.2.2.2.2.lookup 414 = some (.iconst 0, 1) := by decide +kernel
theorem q0_415 : z_m0.2.2.2.2.2.lookup 415 = some (.ireturn, 1) := by decide +kernel
theorem q0_416 : z_m0.2.2.2.2.2.lookup 416 = some (.aload_n 1, 1) := by decide +kernel
theorem q0_417 : z_m0.2.2.2.2.2.lookup 417 = some (.aload_n 0, 1) := by decide +kernel
theorem q0_418 : z_m0.2.2.2.2.2.lookup 418 = some (.iload_n 3, 1) := by decide +kernel
theorem q0_419 : z_m0.2.2.2.2.2.lookup 419 = some (.iconst 1, 1) := by decide +kernel
theorem q0_420 : z_m0.2.2.2.2.2.lookup 420 = some (.iadd, 1) := by decide +kernel
theorem q0_421 : z_m0.2.2.2.2.2.lookup 421 = some (.iaload, 1) := by decide +kernel
theorem q0_422 : z_m0.2.2.2.2.2.lookup 422 = some (.invokevirtual 40, 3) := by decide +kernel
theorem q0_425 : z_m0.2.2.2.2.2.lookup 425 = some (.aload_n 2, 1) := by decide +kernel
theorem q0_426 : z_m0.2.2.2.2.2.lookup 426 = some (.aload_n 0, 1) := by decide +kernel
theorem q0_427 : z_m0.2.2.2.2.2.lookup 427 = some (.iload_n 3, 1) := by decide +kernel
theorem q0_428 : z_m0.2.2.2.2.2.lookup 428 = some (.iconst 1, 1) := by decide +kernel
theorem q0_429 : z_m0.2.2.2.2.2.lookup 429 = some (.iadd, 1) := by decide +kernel
theorem q0_430 : z_m0.2.2.2.2.2.lookup 430 = some (.iaload, 1) := by decide +kernel
theorem q0_431 : z_m0.2.2.2.2.2.lookup 431 = some (.invokevirtual 43, 3) := by decide +kernel
theorem q0_434 : z_m0.2.2.2.2.2.lookup 434 = some (.if_icmp .eq 1162, 3) := by decide +kernel
theorem q0_437 : z_m0.2.2.2.2.2.lookup 437 = some (.iconst 0, 1) := by decide +kernel
theorem q0_438 : z_m0.2.2.2.2.2.lookup 438 = some (.ireturn, 1) := by decide +kernel
theorem q0_439 : z_m0.2.2.2.2.2.lookup 439 = some (.aload_n 1, 1) := by decide +kernel
theorem q0_440 : z_m0.2.2.2.2.2.lookup 440 = some (.aload_n 0, 1) := by decide +kernel
theorem q0_441 : z_m0.2.2.2.2.2.lookup 441 = some (.iload_n 3, 1) := by decide +kernel
theorem q0_442 : z_m0.2.2.2.2.2.lookup 442 = some (.iconst 1, 1) := by decide +kernel
theorem q0_443 : z_m0.2.2.2.2.2.lookup 443 = some (.iadd, 1) := by decide +kernel
theorem q0_444 : z_m0.2.2.2.2.2.lookup 444 = some (.iaload, 1) := by decide +kernel
theorem q0_445 : z_m0.2.2.2.2.2.lookup 445 = some (.aload_n 0, 1) := by decide +kernel
theorem q0_446 : z_m0.2.2.2.2.2.lookup 446 = some (.iload_n 3, 1) := by decide +kernel
theorem q0_447 : z_m0.2.2.2.2.2.lookup 447 = some (.iconst 2, 1) := by decide +kernel
theorem q0_448 : z_m0.2.2.2.2.2.lookup 448 = some (.iadd, 1) := by decide +kernel
theorem q0_449 : z_m0.2.2.2.2.2.lookup 449 = some (.iaload, 1) := by decide +kernel
theorem q0_450 : z_m0.2.2.2.2.2.lookup 450 = some (.invokevirtual 44, 3) := by decide +kernel
theorem q0_453 : z_m0.2.2.2.2.2.lookup 453 = some (.aload_n 2, 1) := by decide +kernel
theorem q0_454 : z_m0.2.2.2.2.2.lookup 454 = some (.aload_n 0, 1) := by decide +kernel
theorem q0_455 : z_m0.2.2.2.2.2.lookup 455 = some (.iload_n 3, 1) := by decide +kernel
theorem q0_456 : z_m0.2.2.2.2.2.lookup 456 = some (.iconst 1, 1) := by decide +kernel
theorem q0_457 : z_m0.2.2.2.2.2.lookup 457 = some (.iadd, 1) := by decide +kernel
theorem q0_458 : z_m0.2.2.2.2.2.lookup 458 = some (.iaload, 1) := by decide +kernel
theorem q0_459 : z_m0.2.2.2.2.2.lookup 459 = some (.aload_n 0, 1) := by decide +kernel
theorem q0_460 : z_m0.2.2.2.2.2.lookup 460 = some (.iload_n 3, 1) := by decide +kernel
theorem q0_461 : z_m0.2.2.2.2.2.lookup 461 = some (.iconst 2, 1) := by decide +kernel
theorem q0_462 : z_m0.2.2.2.2.2.lookup 462 = some (.iadd, 1) := by decide +kernel
theorem q0_463 : z_m0.2.2.2.2.2.lookup 463 = some (.iaload, 1) := by decide +kernel
theorem q0_464 : z_m0.2.2.2.2.2.lookup 464 = some (.invokevirtual 47, 3) := by decide +kernel
theorem q0_467 : z_m0.2.2.2.2.2.lookup 467 = some (.if_icmp .eq 1129, 3) := by decide +kernel
theorem q0_470 : z_m0.2.2.2.2.2.lookup 470 = some (.iconst 0, 1) := by decide +kernel
theorem q0_471 : z_m0.2.2.2.2.2.lookup 471 = some (.ireturn, 1) := by decide +kernel
theorem q0_472 : z_m0.2.2.2.2.2.lookup 472 = some (.aload_n 1, 1) := by decide +kernel
theorem q0_473 : z_m0.2.2.2.2.2.lookup 473 = some (.aload_n 0, 1) := by decide +kernel
theorem q0_474 : z_m0.2.2.2.2.2.lookup 474 = some (.iload_n 3, 1) := by decide +kernel
theorem q0_475 : z_m0.2.2.2.2.2.lookup 475 = some (.iconst 1, 1) := by decide +kernel
theorem q0_476 : z_m0.2.2.2.2.2.lookup 476 = some (.iadd, 1) := by decide +kernel
theorem q0_477 : z_m0.2.2.2.2.2.lookup 477 = some (.iaload, 1) := by decide +kernel
theorem q0_478 : z_m0.2.2.2.2.2.lookup 478 = some (.aload_n 0, 1) := by decide +kernel
theorem q0_479 : z_m0.2.2.2.2.2.lookup 479 = some (.iload_n 3, 1) := by decide +kernel
theorem q0_480 : z_m0.2.2.2.2.2.lookup 480 = some (.iconst 2, 1) := by decide +kernel
theorem q0_481 : z_m0.2.2.2.2.2.lookup 481 = some (.iadd, 1) := by decide +kernel
theorem q0_482 : z_m0.2.2.2.2.2.lookup 482 = some (.iaload, 1) := by decide +kernel
theorem q0_483 : z_m0.2.2.2.2.2.lookup 483 = some (.aload_n 0, 1) := by decide +kernel
theorem q0_484 : z_m0.2.2.2.2.2.lookup 484 = some (.iload_n 3, 1) := by decide +kernel
theorem q0_485 : z_m0.2.2.2.2.2.lookup 485 = some (.iconst 3, 1) := by decide +kernel
theorem q0_486 : z_m0.2.2.2.2.2.lookup 486 = some (.iadd, 1) := by decide +kernel
theorem q0_487 : z_m0.2.2.2.2.2.lookup 487 = some (.iaload, 1) := by decide +kernel
theorem q0_488 : z_m0.2.2.2.2.2.lookup 488 = some (.invokevirtual 48, 3) := by decide +kernel
theorem q0_491 : z_m0.2.2.2.2.2.lookup 491 = some (.aload_n 2, 1) := by decide +kernel
theorem q0_492 : z_m0.2.2.2.2.2.lookup 492 = some (.aload_n 0, 1) := by decide +kernel
theorem q0_493 : z_m0.2.2.2.2.2.lookup 493 = some (.iload_n 3, 1) := by decide +kernel
theorem q0_494 : z_m0.2.2.2.2.2.lookup 494 = some (.iconst 1, 1) := by decide +kernel
theorem q0_495 : z_m0.2.2.2.2.2.lookup 495 = some (.iadd, 1) := by decide +kernel
theorem q0_496 : z_m0.2.2.2.2.2.lookup 496 = some (.iaload, 1) := by decide +kernel
theorem q0_497 : z_m0.2.2.2.2.2.lookup 497 = some (.aload_n 0, 1) := by decide +kernel
theorem q0_498 : z_m0.2.2.2.2.2.lookup 498 = some (.iload_n 3, 1) := by decide +kernel
theorem q0_499 : z_m0.2.2.2.2.2.lookup 499 = some (.iconst 2, 1) := by decide +kernel
theorem q0_500 : z_m0.2.2.2.2.2.lookup 500 = some (.iadd, 1) := by decide +kernel
theorem q0_501 : z_m0.2.2.2.2.2.lookup 501 = some (.iaload, 1) := by decide +kernel
theorem q0_502 : z_m0.2.2.2.2.2.lookup 502 = some (.aload_n 0, 1) := by decide +kernel
theorem q0_503 : z_m0.2.2.2.2.2.lookup 503 = some (.iload_n 3, 1) := by decide +kernel
theorem q0_504 : z_m0.2.2.2.2.2.lookup 504 = some (.iconst 3, 1) := by decide +kernel
theorem q0_505 : z_m0.2.2.2.2.2.lookup 505 = some (.iadd, 1) := by decide +kernel
theorem q0_506 : z_m0.2.2.2.2.2.lookup 506 = some (.iaload, 1) := by decide +kernel
theorem q0_507 : z_m0.2.2.2.2.2.lookup 507 = some (.invokevirtual 52, 3) := by decide +kernel
theorem q0_510 : z_m0.2.2.2.2.2.lookup 510 = some (.if_icmp .eq 1086, 3) := by decide +kernel
theorem q0_513 : z_m0.2.2.2.2.2.lookup 513 = some (.iconst 0, 1) := by decide +kernel
theorem q0_514 : z_m0.2.2.2.2.2.lookup 514 = some (.ireturn, 1) := by decide +kernel
theorem q0_515 : z_m0.2.2.2.2.2.lookup 515 = some (.aload_n 1, 1) := by decide +kernel
theorem q0_516 : z_m0.2.2.2.2.2.lookup 516 = some (.aload_n 0, 1) := by decide +kernel
theorem q0_517 : z_m0.2.2.2.2.2.lookup 517 = some (.iload_n 3, 1) := by decide +kernel
theorem q0_518 : z_m0.2.2.2.2.2.lookup 518 = some (.iconst 1, 1) := by decide +kernel
theorem q0_519 : z_m0.2.2.2.2.2.lookup 519 = some (.iadd, 1) := by decide +kernel
theorem q0_520 : z_m0.2.2.2.2.2.lookup 520 = some (.iaload, 1) := by decide +kernel
theorem q0_521 : z_m0.2.2.2.2.2.lookup 521 = some (.aload_n 0, 1) := by decide +kernel
theorem q0_522 : z_m0.2.2.2.2.2.lookup 522 = some (.iload_n 3, 1) := by decide +kernel
theorem q0_523 : z_m0.2.2.2.2.2.lookup 523 = some (.iconst 2, 1) := by decide +kernel
theorem q0_524 : z_m0.2.2.2.2.2.lookup 524 = some (.iadd, 1) := by decide +kernel
theorem q0_525 : z_m0.2.2.2.2.2.lookup 525 = some (.iaload, 1) := by decide +kernel
theorem q0_526 : z_m0.2.2.2.2.2.lookup 526 = some (.aload_n 0, 1) := by decide +kernel
theorem q0_527 : z_m0.2.2.2.2.2.lookup 527 = some (.iload_n 3, 1) := by decide +kernel
theorem q0_528 : z_m0.2.2.2.2.2.lookup 528 = some (.iconst 3, 1) := by decide +kernel
theorem q0_529 : z_m0.2.2.2.2.2.lookup 529 = some (.iadd, 1) := by decide +kernel
theorem q0_530 : z_m0.2.2.2.2.2.lookup 530 = some (.iaload, 1) := by decide +kernel
theorem q0_531 : z_m0.2.2.2.2.2.lookup 531 = some (.invokevirtual 53, 3) := by decide +kernel
theorem q0_534 : z_m0.2.2.2.2.2.lookup 534 = some (.aload_n 2, 1) := by decide +kernel
theorem q0_535 : z_m0.2.2.2.2.2.lookup 535 = some (.aload_n 0, 1) := by decide +kernel
theorem q0_536 : z_m0.2.2.2.2.2.lookup 536 = some (.iload_n 3, 1) := by decide +kernel
theorem q0_537 : z_m0.2.2.2.2.2.lookup 537 = some (.iconst 1, 1) := by decide +kernel
theorem q0_538 : z_m0.2.2.2.2.2.lookup 538 = some (.iadd, 1) := by decide +kernel
theorem q0_539 : z_m0.2.2.2.2.2.lookup 539 = some (.iaload, 1) := by decide +kernel
theorem q0_540 : z_m0.2.2.2.2.2.lookup 540 = some (.aload_n 0, 1) := by decide +kernel
theorem q0_541 : z_m0.2.2.2.2.2.lookup 541 = some (.iload_n 3, 1) := by decide +kernel
theorem q0_542 : z_m0.2.2.2.2.2.lookup 542 = some (.iconst 2, 1) := by decide +kernel
theorem q0_543 : z_m0.2.2.2.2.2.lookup 543 = some (.iadd, 1) := by decide +kernel
theorem q0_544 : z_m0.2.2.2.2.2.lookup 544 = some (.iaload, 1) := by decide +kernel
theorem q0_545 : z_m0.2.2.2.2.2.lookup 545 = some (.aload_n 0, 1) := by decide +kernel
theorem q0_546 : z_m0.2.2.2.2.2.lookup 546 = some (.iload_n 3, 1) := by decide +kernel
theorem q0_547 : z_m0.2.2.2.2.2.lookup 547 = some (.iconst 3, 1) := by decide +kernel
theorem q0_548 : z_m0.2.2.2.2.2.lookup 548 = some (.iadd, 1) := by decide +kernel
theorem q0_549 : z_m0.2.2.2.2.2.lookup 549 = some (.iaload, 1) := by decide +kernel
theorem q0_550 : z_m0.2.2.2.2.2.lookup 550 = some (.invokevirtual 56, 3) := by decide +kernel
theorem q0_553 : z_m0.2.2.2.2.2.lookup 553 = some (.if_icmp .eq 1043, 3) := by decide +kernel
theorem q0_556 : z_m0.2.2.2.2.2.lookup 556 = some (.iconst 0, 1) := by decide +kernel
theorem q0_557 : z_m0.2.2.2.2.2.lookup 557 = some (.ireturn, 1) := by decide +kernel
theorem q0_558 : z_m0.2.2.2.2.2.lookup 558 = some (.aload_n 1, 1) := by decide +kernel
theorem q0_559 : z_m0.2.2.2.2.2.lookup 559 = some (.aload_n 0, 1) := by decide +kernel
