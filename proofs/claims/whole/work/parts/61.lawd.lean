theorem dq_W_law_18 : decode code 18 = .ok (.iload_n 3, 1) := by decide +kernel
theorem dq_W_law_19 : decode code 19 = .ok (.aload_n 0, 1) := by decide +kernel
theorem dq_W_law_20 : decode code 20 = .ok (.arraylength, 1) := by decide +kernel
theorem dq_W_law_21 : decode code 21 = .ok (.bipush 11, 2) := by decide +kernel
theorem dq_W_law_23 : decode code 23 = .ok (.isub, 1) := by decide +kernel
theorem dq_W_law_24 : decode code 24 = .ok (.if_icmp .gt 1736, 3) := by decide +kernel
theorem dq_W_law_27 : decode code 27 = .ok (.aload_n 0, 1) := by decide +kernel
theorem dq_W_law_28 : decode code 28 = .ok (.iload_n 3, 1) := by decide +kernel
theorem dq_W_law_29 : decode code 29 = .ok (.iaload, 1) := by decide +kernel
theorem dq_W_law_30 : decode code 30 = .ok (.bipush 31, 2) := by decide +kernel
theorem dq_W_law_32 : decode code 32 = .ok (.iand, 1) := by decide +kernel
theorem dq_W_law_33 : decode code 33 = .ok (.tableswitch 1721 0 26 #[123, 197, 231, 255, 279, 332, 366, 482, 556, 640, 714, 917, 940, 973, 997, 1030, 1145, 1159, 1183, 1247, 1321, 1395, 1429, 1556, 1590, 1664, 1698], 123) := by decide +kernel
theorem dq_W_law_156 : decode code 156 = .ok (.aload_n 1, 1) := by decide +kernel
theorem dq_W_law_157 : decode code 157 = .ok (.aload_n 0, 1) := by decide +kernel
theorem dq_W_law_158 : decode code 158 = .ok (.iload_n 3, 1) := by decide +kernel
theorem dq_W_law_159 : decode code 159 = .ok (.iconst 1, 1) := by decide +kernel
theorem dq_W_law_160 : decode code 160 = .ok (.iadd, 1) := by decide +kernel
theorem dq_W_law_161 : decode code 161 = .ok (.iaload, 1) := by decide +kernel
theorem dq_W_law_162 : decode code 162 = .ok (.aload_n 0, 1) := by decide +kernel
theorem dq_W_law_163 : decode code 163 = .ok (.iload_n 3, 1) := by decide +kernel
theorem dq_W_law_164 : decode code 164 = .ok (.iconst 2, 1) := by decide +kernel
theorem dq_W_law_165 : decode code 165 = .ok (.iadd, 1) := by decide +kernel
theorem dq_W_law_166 : decode code 166 = .ok (.iaload, 1) := by decide +kernel
theorem dq_W_law_167 : decode code 167 = .ok (.aload_n 0, 1) := by decide +kernel
theorem dq_W_law_168 : decode code 168 = .ok (.iload_n 3, 1) := by decide +kernel
theorem dq_W_law_169 : decode code 169 = .ok (.iconst 3, 1) := by decide +kernel
theorem dq_W_law_170 : decode code 170 = .ok (.iadd, 1) := by decide +kernel
theorem dq_W_law_171 : decode code 171 = .ok (.iaload, 1) := by decide +kernel
theorem dq_W_law_172 : decode code 172 = .ok (.i2l, 1) := by decide +kernel
theorem dq_W_law_173 : decode code 173 = .ok (.bipush 32, 2) := by decide +kernel
theorem dq_W_law_175 : decode code 175 = .ok (.lshl, 1) := by decide +kernel
theorem dq_W_law_176 : decode code 176 = .ok (.aload_n 0, 1) := by decide +kernel
theorem dq_W_law_177 : decode code 177 = .ok (.iload_n 3, 1) := by decide +kernel
theorem dq_W_law_178 : decode code 178 = .ok (.iconst 4, 1) := by decide +kernel
theorem dq_W_law_179 : decode code 179 = .ok (.iadd, 1) := by decide +kernel
theorem dq_W_law_180 : decode code 180 = .ok (.iaload, 1) := by decide +kernel
theorem dq_W_law_181 : decode code 181 = .ok (.i2l, 1) := by decide +kernel
theorem dq_W_law_182 : decode code 182 = .ok (.ldc2_w 13, 3) := by decide +kernel
theorem dq_W_law_185 : decode code 185 = .ok (.land, 1) := by decide +kernel
theorem dq_W_law_186 : decode code 186 = .ok (.lor, 1) := by decide +kernel
theorem dq_W_law_187 : decode code 187 = .ok (.invokevirtual 15, 3) := by decide +kernel
theorem dq_W_law_190 : decode code 190 = .ok (.aload_n 2, 1) := by decide +kernel
theorem dq_W_law_191 : decode code 191 = .ok (.aload_n 0, 1) := by decide +kernel
theorem dq_W_law_192 : decode code 192 = .ok (.iload_n 3, 1) := by decide +kernel
theorem dq_W_law_193 : decode code 193 = .ok (.iconst 1, 1) := by decide +kernel
theorem dq_W_law_194 : decode code 194 = .ok (.iadd, 1) := by decide +kernel
theorem dq_W_law_195 : decode code 195 = .ok (.iaload, 1) := by decide +kernel
theorem dq_W_law_196 : decode code 196 = .ok (.aload_n 0, 1) := by decide +kernel
theorem dq_W_law_197 : decode code 197 = .ok (.iload_n 3, 1) := by decide +kernel
theorem dq_W_law_198 : decode code 198 = .ok (.iconst 2, 1) := by decide +kernel
theorem dq_W_law_199 : decode code 199 = .ok (.iadd, 1) := by decide +kernel
theorem dq_W_law_200 : decode code 200 = .ok (.iaload, 1) := by decide +kernel
theorem dq_W_law_201 : decode code 201 = .ok (.aload_n 0, 1) := by decide +kernel
theorem dq_W_law_202 : decode code 202 = .ok (.iload_n 3, 1) := by decide +kernel
theorem dq_W_law_203 : decode code 203 = .ok (.iconst 3, 1) := by decide +kernel
theorem dq_W_law_204 : decode code 204 = .ok (.iadd, 1) := by decide +kernel
theorem dq_W_law_205 : decode code 205 = .ok (.iaload, 1) := by decide +kernel
theorem dq_W_law_206 : decode code 206 = .ok (.i2l, 1) := by decide +kernel
theorem dq_W_law_207 : decode code 207 = .ok (.bipush 32, 2) := by decide +kernel
theorem dq_W_law_209 : decode code 209 = .ok (.lshl, 1) := by decide +kernel
theorem dq_W_law_210 : decode code 210 = .ok (.aload_n 0, 1) := by decide +kernel
theorem dq_W_law_211 : decode code 211 = .ok (.iload_n 3, 1) := by decide +kernel
theorem dq_W_law_212 : decode code 212 = .ok (.iconst 4, 1) := by decide +kernel
theorem dq_W_law_213 : decode code 213 = .ok (.iadd, 1) := by decide +kernel
theorem dq_W_law_214 : decode code 214 = .ok (.iaload, 1) := by decide +kernel
theorem dq_W_law_215 : decode code 215 = .ok (.i2l, 1) := by decide +kernel
theorem dq_W_law_216 : decode code 216 = .ok (.ldc2_w 13, 3) := by decide +kernel
theorem dq_W_law_219 : decode code 219 = .ok (.land, 1) := by decide +kernel
theorem dq_W_law_220 : decode code 220 = .ok (.lor, 1) := by decide +kernel
theorem dq_W_law_221 : decode code 221 = .ok (.invokevirtual 19, 3) := by decide +kernel
theorem dq_W_law_224 : decode code 224 = .ok (.lcmp, 1) := by decide +kernel
theorem dq_W_law_225 : decode code 225 = .ok (.ifCond .eq 1529, 3) := by decide +kernel
theorem dq_W_law_228 : decode code 228 = .ok (.iconst 0, 1) := by decide +kernel
theorem dq_W_law_229 : decode code 229 = .ok (.ireturn, 1) := by decide +kernel
theorem dq_W_law_230 : decode code 230 = .ok (.aload_n 1, 1) := by decide +kernel
theorem dq_W_law_231 : decode code 231 = .ok (.aload_n 0, 1) := by decide +kernel
theorem dq_W_law_232 : decode code 232 = .ok (.iload_n 3, 1) := by decide +kernel
theorem dq_W_law_233 : decode code 233 = .ok (.iconst 1, 1) := by decide +kernel
theorem dq_W_law_234 : decode code 234 = .ok (.iadd, 1) := by decide +kernel
theorem dq_W_law_235 : decode code 235 = .ok (.iaload, 1) := by decide +kernel
theorem dq_W_law_236 : decode code 236 = .ok (.aload_n 0, 1) := by decide +kernel
theorem dq_W_law_237 : decode code 237 = .ok (.iload_n 3, 1) := by decide +kernel
theorem dq_W_law_238 : decode code 238 = .ok (.iconst 2, 1) := by decide +kernel
theorem dq_W_law_239 : decode code 239 = .ok (.iadd, 1) := by decide +kernel
theorem dq_W_law_240 : decode code 240 = .ok (.iaload, 1) := by decide +kernel
theorem dq_W_law_241 : decode code 241 = .ok (.invokevirtual 20, 3) := by decide +kernel
theorem dq_W_law_244 : decode code 244 = .ok (.aload_n 2, 1) := by decide +kernel
theorem dq_W_law_245 : decode code 245 = .ok (.aload_n 0, 1) := by decide +kernel
theorem dq_W_law_246 : decode code 246 = .ok (.iload_n 3, 1) := by decide +kernel
theorem dq_W_law_247 : decode code 247 = .ok (.iconst 1, 1) := by decide +kernel
theorem dq_W_law_248 : decode code 248 = .ok (.iadd, 1) := by decide +kernel
theorem dq_W_law_249 : decode code 249 = .ok (.iaload, 1) := by decide +kernel
theorem dq_W_law_250 : decode code 250 = .ok (.aload_n 0, 1) := by decide +kernel
theorem dq_W_law_251 : decode code 251 = .ok (.iload_n 3, 1) := by decide +kernel
theorem dq_W_law_252 : decode code 252 = .ok (.iconst 2, 1) := by decide +kernel
theorem dq_W_law_253 : decode code 253 = .ok (.iadd, 1) := by decide +kernel
theorem dq_W_law_254 : decode code 254 = .ok (.iaload, 1) := by decide +kernel
theorem dq_W_law_255 : decode code 255 = .ok (.invokevirtual 24, 3) := by decide +kernel
theorem dq_W_law_258 : decode code 258 = .ok (.lcmp, 1) := by decide +kernel
theorem dq_W_law_259 : decode code 259 = .ok (.ifCond .eq 1495, 3) := by decide +kernel
theorem dq_W_law_262 : decode code 262 = .ok (.iconst 0, 1) := by decide +kernel
theorem dq_W_law_263 : decode code 263 = .ok (.ireturn, 1) := by decide +kernel
theorem dq_W_law_264 : decode code 264 = .ok (.aload_n 1, 1) := by decide +kernel
theorem dq_W_law_265 : decode code 265 = .ok (.aload_n 0, 1) := by decide +kernel
theorem dq_W_law_266 : decode code 266 = .ok (.iload_n 3, 1) := by decide +kernel
theorem dq_W_law_267 : decode code 267 = .ok (.iconst 1, 1) := by decide +kernel
theorem dq_W_law_268 : decode code 268 = .ok (.iadd, 1) := by decide +kernel
theorem dq_W_law_269 : decode code 269 = .ok (.iaload, 1) := by decide +kernel
theorem dq_W_law_270 : decode code 270 = .ok (.invokevirtual 25, 3) := by decide +kernel
theorem dq_W_law_273 : decode code 273 = .ok (.aload_n 2, 1) := by decide +kernel
theorem dq_W_law_274 : decode code 274 = .ok (.aload_n 0, 1) := by decide +kernel
theorem dq_W_law_275 : decode code 275 = .ok (.iload_n 3, 1) := by decide +kernel
theorem dq_W_law_276 : decode code 276 = .ok (.iconst 1, 1) := by decide +kernel
theorem dq_W_law_277 : decode code 277 = .ok (.iadd, 1) := by decide +kernel
theorem dq_W_law_278 : decode code 278 = .ok (.iaload, 1) := by decide +kernel
theorem dq_W_law_279 : decode code 279 = .ok (.invokevirtual 29, 3) := by decide +kernel
theorem dq_W_law_282 : decode code 282 = .ok (.lcmp, 1) := by decide +kernel
theorem dq_W_law_283 : decode code 283 = .ok (.ifCond .eq 1471, 3) := by decide +kernel
theorem dq_W_law_286 : decode code 286 = .ok (.iconst 0, 1) := by decide +kernel
theorem dq_W_law_287 : decode code 287 = .ok (.ireturn, 1) := by decide +kernel
theorem dq_W_law_288 : decode code 288 = .ok (.aload_n 1, 1) := by decide +kernel
theorem dq_W_law_289 : decode code 289 = .ok (.aload_n 0, 1) := by decide +kernel
theorem dq_W_law_290 : decode code 290 = .ok (.iload_n 3, 1) := by decide +kernel
theorem dq_W_law_291 : decode code 291 = .ok (.iconst 1, 1) := by decide +kernel
theorem dq_W_law_292 : decode code 292 = .ok (.iadd, 1) := by decide +kernel
theorem dq_W_law_293 : decode code 293 = .ok (.iaload, 1) := by decide +kernel
theorem dq_W_law_294 : decode code 294 = .ok (.invokevirtual 30, 3) := by decide +kernel
theorem dq_W_law_297 : decode code 297 = .ok (.aload_n 2, 1) := by decide +kernel
theorem dq_W_law_298 : decode code 298 = .ok (.aload_n 0, 1) := by decide +kernel
theorem dq_W_law_299 : decode code 299 = .ok (.iload_n 3, 1) := by decide +kernel
theorem dq_W_law_300 : decode code 300 = .ok (.iconst 1, 1) := by decide +kernel
theorem dq_W_law_301 : decode code 301 = .ok (.iadd, 1) := by decide +kernel
theorem dq_W_law_302 : decode code 302 = .ok (.iaload, 1) := by decide +kernel
theorem dq_W_law_303 : decode code 303 = .ok (.invokevirtual 33, 3) := by decide +kernel
theorem dq_W_law_306 : decode code 306 = .ok (.lcmp, 1) := by decide +kernel
theorem dq_W_law_307 : decode code 307 = .ok (.ifCond .eq 1447, 3) := by decide +kernel
theorem dq_W_law_310 : decode code 310 = .ok (.iconst 0, 1) := by decide +kernel
theorem dq_W_law_311 : decode code 311 = .ok (.ireturn, 1) := by decide +kernel
theorem dq_W_law_312 : decode code 312 = .ok (.aload_n 1, 1) := by decide +kernel
theorem dq_W_law_313 : decode code 313 = .ok (.aload_n 0, 1) := by decide +kernel
theorem dq_W_law_314 : decode code 314 = .ok (.iload_n 3, 1) := by decide +kernel
theorem dq_W_law_315 : decode code 315 = .ok (.iconst 1, 1) := by decide +kernel
theorem dq_W_law_316 : decode code 316 = .ok (.iadd, 1) := by decide +kernel
theorem dq_W_law_317 : decode code 317 = .ok (.iaload, 1) := by decide +kernel
theorem dq_W_law_318 : decode code 318 = .ok (.aload_n 0, 1) := by decide +kernel
theorem dq_W_law_319 : decode code 319 = .ok (.iload_n 3, 1) := by decide +kernel
theorem dq_W_law_320 : decode code 320 = .ok (.iconst 2, 1) := by decide +kernel
theorem dq_W_law_321 : decode code 321 = .ok (.iadd, 1) := by decide +kernel
theorem dq_W_law_322 : decode code 322 = .ok (.iaload, 1) := by decide +kernel
theorem dq_W_law_323 : decode code 323 = .ok (.aload_n 0, 1) := by decide +kernel
theorem dq_W_law_324 : decode code 324 = .ok (.iload_n 3, 1) := by decide +kernel
theorem dq_W_law_325 : decode code 325 = .ok (.iconst 3, 1) := by decide +kernel
theorem dq_W_law_326 : decode code 326 = .ok (.iadd, 1) := by decide +kernel
theorem dq_W_law_327 : decode code 327 = .ok (.iaload, 1) := by decide +kernel
theorem dq_W_law_328 : decode code 328 = .ok (.aload_n 0, 1) := by decide +kernel
theorem dq_W_law_329 : decode code 329 = .ok (.iload_n 3, 1) := by decide +kernel
theorem dq_W_law_330 : decode code 330 = .ok (.iconst 4, 1) := by decide +kernel
theorem dq_W_law_331 : decode code 331 = .ok (.iadd, 1) := by decide +kernel
theorem dq_W_law_332 : decode code 332 = .ok (.iaload, 1) := by decide +kernel
theorem dq_W_law_333 : decode code 333 = .ok (.invokevirtual 34, 3) := by decide +kernel
theorem dq_W_law_336 : decode code 336 = .ok (.aload_n 2, 1) := by decide +kernel
theorem dq_W_law_337 : decode code 337 = .ok (.aload_n 0, 1) := by decide +kernel
theorem dq_W_law_338 : decode code 338 = .ok (.iload_n 3, 1) := by decide +kernel
theorem dq_W_law_339 : decode code 339 = .ok (.iconst 1, 1) := by decide +kernel
theorem dq_W_law_340 : decode code 340 = .ok (.iadd, 1) := by decide +kernel
theorem dq_W_law_341 : decode code 341 = .ok (.iaload, 1) := by decide +kernel
theorem dq_W_law_342 : decode code 342 = .ok (.aload_n 0, 1) := by decide +kernel
theorem dq_W_law_343 : decode code 343 = .ok (.iload_n 3, 1) := by decide +kernel
theorem dq_W_law_344 : decode code 344 = .ok (.iconst 2, 1) := by decide +kernel
theorem dq_W_law_345 : decode code 345 = .ok (.iadd, 1) := by decide +kernel
theorem dq_W_law_346 : decode code 346 = .ok (.iaload, 1) := by decide +kernel
theorem dq_W_law_347 : decode code 347 = .ok (.aload_n 0, 1) := by decide +kernel
theorem dq_W_law_348 : decode code 348 = .ok (.iload_n 3, 1) := by decide +kernel
theorem dq_W_law_349 : decode code 349 = .ok (.iconst 3, 1) := by decide +kernel
theorem dq_W_law_350 : decode code 350 = .ok (.iadd, 1) := by decide +kernel
theorem dq_W_law_351 : decode code 351 = .ok (.iaload, 1) := by decide +kernel
theorem dq_W_law_352 : decode code 352 = .ok (.aload_n 0, 1) := by decide +kernel
theorem dq_W_law_353 : decode code 353 = .ok (.iload_n 3, 1) := by decide +kernel
theorem dq_W_law_354 : decode code 354 = .ok (.iconst 4, 1) := by decide +kernel
theorem dq_W_law_355 : decode code 355 = .ok (.iadd, 1) := by decide +kernel
theorem dq_W_law_356 : decode code 356 = .ok (.iaload, 1) := by decide +kernel
theorem dq_W_law_357 : decode code 357 = .ok (.invokevirtual 38, 3) := by decide +kernel
theorem dq_W_law_360 : decode code 360 = .ok (.if_icmp .eq 1394, 3) := by decide +kernel
theorem dq_W_law_363 : decode code 363 = .ok (.iconst 0, 1) := by decide +kernel
theorem dq_W_law_364 : decode code 364 = .ok (.ireturn, 1) := by decide +kernel
theorem dq_W_law_365 : decode code 365 = .ok (.aload_n 1, 1) := by decide +kernel
theorem dq_W_law_366 : decode code 366 = .ok (.aload_n 0, 1) := by decide +kernel
theorem dq_W_law_367 : decode code 367 = .ok (.iload_n 3, 1) := by decide +kernel
theorem dq_W_law_368 : decode code 368 = .ok (.iconst 1, 1) := by decide +kernel
theorem dq_W_law_369 : decode code 369 = .ok (.iadd, 1) := by decide +kernel
theorem dq_W_law_370 : decode code 370 = .ok (.iaload, 1) := by decide +kernel
theorem dq_W_law_371 : decode code 371 = .ok (.aload_n 0, 1) := by decide +kernel
theorem dq_W_law_372 : decode code 372 = .ok (.iload_n 3, 1) := by decide +kernel
theorem dq_W_law_373 : decode code 373 = .ok (.iconst 2, 1) := by decide +kernel
theorem dq_W_law_374 : decode code 374 = .ok (.iadd, 1) := by decide +kernel
theorem dq_W_law_375 : decode code 375 = .ok (.iaload, 1) := by decide +kernel
theorem dq_W_law_376 : decode code 376 = .ok (.invokevirtual 39, 3) := by decide +kernel
theorem dq_W_law_379 : decode code 379 = .ok (.aload_n 2, 1) := by decide +kernel
theorem dq_W_law_380 : decode code 380 = .ok (.aload_n 0, 1) := by decide +kernel
theorem dq_W_law_381 : decode code 381 = .ok (.iload_n 3, 1) := by decide +kernel
theorem dq_W_law_382 : decode code 382 = .ok (.iconst 1, 1) := by decide +kernel
theorem dq_W_law_383 : decode code 383 = .ok (.iadd, 1) := by decide +kernel
theorem dq_W_law_384 : decode code 384 = .ok (.iaload, 1) := by decide +kernel
theorem dq_W_law_385 : decode code 385 = .ok (.aload_n 0, 1) := by decide +kernel
theorem dq_W_law_386 : decode code 386 = .ok (.iload_n 3, 1) := by decide +kernel
theorem dq_W_law_387 : decode code 387 = .ok (.iconst 2, 1) := by decide +kernel
theorem dq_W_law_388 : decode code 388 = .ok (.iadd, 1) := by decide +kernel
theorem dq_W_law_389 : decode code 389 = .ok (.iaload, 1) := by decide +kernel
theorem dq_W_law_390 : decode code 390 = .ok (.invokevirtual 42, 3) := by decide +kernel
theorem dq_W_law_393 : decode code 393 = .ok (.lcmp, 1) := by decide +kernel
theorem dq_W_law_394 : decode code 394 = .ok (.ifCond .eq 1360, 3) := by decide +kernel
theorem dq_W_law_397 : decode code 397 = .ok (.iconst 0, 1) := by decide +kernel
theorem dq_W_law_398 : decode code 398 = .ok (.ireturn, 1) := by decide +kernel
theorem dq_W_law_399 : decode code 399 = .ok (.aload_n 1, 1) := by decide +kernel
theorem dq_W_law_400 : decode code 400 = .ok (.aload_n 0, 1) := by decide +kernel
theorem dq_W_law_401 : decode code 401 = .ok (.iload_n 3, 1) := by decide +kernel
theorem dq_W_law_402 : decode code 402 = .ok (.iconst 1, 1) := by decide +kernel
theorem dq_W_law_403 : decode code 403 = .ok (.iadd, 1) := by decide +kernel
theorem dq_W_law_404 : decode code 404 = .ok (.iaload, 1) := by decide +kernel
theorem dq_W_law_405 : decode code 405 = .ok (.aload_n 0, 1) := by decide +kernel
theorem dq_W_law_406 : decode code 406 = .ok (.iload_n 3, 1) := by decide +kernel
theorem dq_W_law_407 : decode code 407 = .ok (.iconst 2, 1) := by decide +kernel
theorem dq_W_law_408 : decode code 408 = .ok (.iadd, 1) := by decide +kernel
theorem dq_W_law_409 : decode code 409 = .ok (.iaload, 1) := by decide +kernel
theorem dq_W_law_410 : decode code 410 = .ok (.aload_n 0, 1) := by decide +kernel
theorem dq_W_law_411 : decode code 411 = .ok (.iload_n 3, 1) := by decide +kernel
theorem dq_W_law_412 : decode code 412 = .ok (.iconst 3, 1) := by decide +kernel
theorem dq_W_law_413 : decode code 413 = .ok (.iadd, 1) := by decide +kernel
theorem dq_W_law_414 : decode code 414 = .ok (.iaload, 1) := by decide +kernel
theorem dq_W_law_415 : decode code 415 = .ok (.i2l, 1) := by decide +kernel
theorem dq_W_law_416 : decode code 416 = .ok (.bipush 32, 2) := by decide +kernel
theorem dq_W_law_418 : decode code 418 = .ok (.lshl, 1) := by decide +kernel
theorem dq_W_law_419 : decode code 419 = .ok (.aload_n 0, 1) := by decide +kernel
theorem dq_W_law_420 : decode code 420 = .ok (.iload_n 3, 1) := by decide +kernel
theorem dq_W_law_421 : decode code 421 = .ok (.iconst 4, 1) := by decide +kernel
theorem dq_W_law_422 : decode code 422 = .ok (.iadd, 1) := by decide +kernel
theorem dq_W_law_423 : decode code 423 = .ok (.iaload, 1) := by decide +kernel
theorem dq_W_law_424 : decode code 424 = .ok (.i2l, 1) := by decide +kernel
theorem dq_W_law_425 : decode code 425 = .ok (.ldc2_w 13, 3) := by decide +kernel
theorem dq_W_law_428 : decode code 428 = .ok (.land, 1) := by decide +kernel
theorem dq_W_law_429 : decode code 429 = .ok (.lor, 1) := by decide +kernel
theorem dq_W_law_430 : decode code 430 = .ok (.aload_n 0, 1) := by decide +kernel
theorem dq_W_law_431 : decode code 431 = .ok (.iload_n 3, 1) := by decide +kernel
theorem dq_W_law_432 : decode code 432 = .ok (.iconst 5, 1) := by decide +kernel
theorem dq_W_law_433 : decode code 433 = .ok (.iadd, 1) := by decide +kernel
theorem dq_W_law_434 : decode code 434 = .ok (.iaload, 1) := by decide +kernel
theorem dq_W_law_435 : decode code 435 = .ok (.i2l, 1) := by decide +kernel
theorem dq_W_law_436 : decode code 436 = .ok (.bipush 32, 2) := by decide +kernel
theorem dq_W_law_438 : decode code 438 = .ok (.lshl, 1) := by decide +kernel
theorem dq_W_law_439 : decode code 439 = .ok (.aload_n 0, 1) := by decide +kernel
theorem dq_W_law_440 : decode code 440 = .ok (.iload_n 3, 1) := by decide +kernel
theorem dq_W_law_441 : decode code 441 = .ok (.bipush 6, 2) := by decide +kernel
theorem dq_W_law_443 : decode code 443 = .ok (.iadd, 1) := by decide +kernel
theorem dq_W_law_444 : decode code 444 = .ok (.iaload, 1) := by decide +kernel
theorem dq_W_law_445 : decode code 445 = .ok (.i2l, 1) := by decide +kernel
theorem dq_W_law_446 : decode code 446 = .ok (.ldc2_w 13, 3) := by decide +kernel
theorem dq_W_law_449 : decode code 449 = .ok (.land, 1) := by decide +kernel
theorem dq_W_law_450 : decode code 450 = .ok (.lor, 1) := by decide +kernel
theorem dq_W_law_451 : decode code 451 = .ok (.invokevirtual 43, 3) := by decide +kernel
theorem dq_W_law_454 : decode code 454 = .ok (.aload_n 2, 1) := by decide +kernel
