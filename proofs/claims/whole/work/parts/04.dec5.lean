theorem dL_law_121 : decode code 121 = .ok (.aload_n 0, 1) := by decide +kernel
theorem dL_law_122 : decode code 122 = .ok (.iload_n 3, 1) := by decide +kernel
theorem dL_law_123 : decode code 123 = .ok (.iconst 3, 1) := by decide +kernel
theorem dL_law_124 : decode code 124 = .ok (.iadd, 1) := by decide +kernel
theorem dL_law_125 : decode code 125 = .ok (.iaload, 1) := by decide +kernel
theorem dL_law_126 : decode code 126 = .ok (.invokevirtual 15, 3) := by decide +kernel
theorem dL_law_129 : decode code 129 = .ok (.aload_n 2, 1) := by decide +kernel
theorem dL_law_130 : decode code 130 = .ok (.aload_n 0, 1) := by decide +kernel
theorem dL_law_131 : decode code 131 = .ok (.iload_n 3, 1) := by decide +kernel
theorem dL_law_132 : decode code 132 = .ok (.iconst 1, 1) := by decide +kernel
theorem dL_law_133 : decode code 133 = .ok (.iadd, 1) := by decide +kernel
theorem dL_law_134 : decode code 134 = .ok (.iaload, 1) := by decide +kernel
theorem dL_law_135 : decode code 135 = .ok (.i2d, 1) := by decide +kernel
theorem dL_law_136 : decode code 136 = .ok (.ldc2_w 13, 3) := by decide +kernel
theorem dL_law_139 : decode code 139 = .ok (.dmul, 1) := by decide +kernel
theorem dL_law_140 : decode code 140 = .ok (.aload_n 0, 1) := by decide +kernel
theorem dL_law_141 : decode code 141 = .ok (.iload_n 3, 1) := by decide +kernel
theorem dL_law_142 : decode code 142 = .ok (.iconst 2, 1) := by decide +kernel
theorem dL_law_143 : decode code 143 = .ok (.iadd, 1) := by decide +kernel
theorem dL_law_144 : decode code 144 = .ok (.iaload, 1) := by decide +kernel
theorem dL_law_145 : decode code 145 = .ok (.i2d, 1) := by decide +kernel
theorem dL_law_146 : decode code 146 = .ok (.ldc2_w 13, 3) := by decide +kernel
theorem dL_law_149 : decode code 149 = .ok (.dmul, 1) := by decide +kernel
theorem dL_law_150 : decode code 150 = .ok (.aload_n 0, 1) := by decide +kernel
theorem dL_law_151 : decode code 151 = .ok (.iload_n 3, 1) := by decide +kernel
theorem dL_law_152 : decode code 152 = .ok (.iconst 3, 1) := by decide +kernel
theorem dL_law_153 : decode code 153 = .ok (.iadd, 1) := by decide +kernel
theorem dL_law_154 : decode code 154 = .ok (.iaload, 1) := by decide +kernel
theorem dL_law_155 : decode code 155 = .ok (.invokevirtual 19, 3) := by decide +kernel
theorem dL_law_158 : decode code 158 = .ok (.if_icmp .eq 501, 3) := by decide +kernel
theorem dL_law_161 : decode code 161 = .ok (.iconst 0, 1) := by decide +kernel
theorem dL_law_162 : decode code 162 = .ok (.ireturn, 1) := by decide +kernel
theorem dL_law_163 : decode code 163 = .ok (.aload_n 1, 1) := by decide +kernel
theorem dL_law_164 : decode code 164 = .ok (.aload_n 0, 1) := by decide +kernel
theorem dL_law_165 : decode code 165 = .ok (.iload_n 3, 1) := by decide +kernel
theorem dL_law_166 : decode code 166 = .ok (.iconst 1, 1) := by decide +kernel
theorem dL_law_167 : decode code 167 = .ok (.iadd, 1) := by decide +kernel
theorem dL_law_168 : decode code 168 = .ok (.iaload, 1) := by decide +kernel
theorem dL_law_169 : decode code 169 = .ok (.i2d, 1) := by decide +kernel
theorem dL_law_170 : decode code 170 = .ok (.ldc2_w 13, 3) := by decide +kernel
theorem dL_law_173 : decode code 173 = .ok (.dmul, 1) := by decide +kernel
theorem dL_law_174 : decode code 174 = .ok (.aload_n 0, 1) := by decide +kernel
theorem dL_law_175 : decode code 175 = .ok (.iload_n 3, 1) := by decide +kernel
theorem dL_law_176 : decode code 176 = .ok (.iconst 2, 1) := by decide +kernel
theorem dL_law_177 : decode code 177 = .ok (.iadd, 1) := by decide +kernel
theorem dL_law_178 : decode code 178 = .ok (.iaload, 1) := by decide +kernel
theorem dL_law_179 : decode code 179 = .ok (.i2d, 1) := by decide +kernel
theorem dL_law_180 : decode code 180 = .ok (.ldc2_w 13, 3) := by decide +kernel
theorem dL_law_183 : decode code 183 = .ok (.dmul, 1) := by decide +kernel
theorem dL_law_184 : decode code 184 = .ok (.aload_n 0, 1) := by decide +kernel
theorem dL_law_185 : decode code 185 = .ok (.iload_n 3, 1) := by decide +kernel
theorem dL_law_186 : decode code 186 = .ok (.iconst 3, 1) := by decide +kernel
theorem dL_law_187 : decode code 187 = .ok (.iadd, 1) := by decide +kernel
theorem dL_law_188 : decode code 188 = .ok (.iaload, 1) := by decide +kernel
theorem dL_law_189 : decode code 189 = .ok (.i2d, 1) := by decide +kernel
theorem dL_law_190 : decode code 190 = .ok (.ldc2_w 13, 3) := by decide +kernel
theorem dL_law_193 : decode code 193 = .ok (.dmul, 1) := by decide +kernel
theorem dL_law_194 : decode code 194 = .ok (.invokevirtual 20, 3) := by decide +kernel
theorem dL_law_197 : decode code 197 = .ok (.aload_n 2, 1) := by decide +kernel
theorem dL_law_198 : decode code 198 = .ok (.aload_n 0, 1) := by decide +kernel
theorem dL_law_199 : decode code 199 = .ok (.iload_n 3, 1) := by decide +kernel
theorem dL_law_200 : decode code 200 = .ok (.iconst 1, 1) := by decide +kernel
theorem dL_law_201 : decode code 201 = .ok (.iadd, 1) := by decide +kernel
theorem dL_law_202 : decode code 202 = .ok (.iaload, 1) := by decide +kernel
theorem dL_law_203 : decode code 203 = .ok (.i2d, 1) := by decide +kernel
theorem dL_law_204 : decode code 204 = .ok (.ldc2_w 13, 3) := by decide +kernel
theorem dL_law_207 : decode code 207 = .ok (.dmul, 1) := by decide +kernel
theorem dL_law_208 : decode code 208 = .ok (.aload_n 0, 1) := by decide +kernel
theorem dL_law_209 : decode code 209 = .ok (.iload_n 3, 1) := by decide +kernel
theorem dL_law_210 : decode code 210 = .ok (.iconst 2, 1) := by decide +kernel
theorem dL_law_211 : decode code 211 = .ok (.iadd, 1) := by decide +kernel
theorem dL_law_212 : decode code 212 = .ok (.iaload, 1) := by decide +kernel
theorem dL_law_213 : decode code 213 = .ok (.i2d, 1) := by decide +kernel
theorem dL_law_214 : decode code 214 = .ok (.ldc2_w 13, 3) := by decide +kernel
theorem dL_law_217 : decode code 217 = .ok (.dmul, 1) := by decide +kernel
theorem dL_law_218 : decode code 218 = .ok (.aload_n 0, 1) := by decide +kernel
theorem dL_law_219 : decode code 219 = .ok (.iload_n 3, 1) := by decide +kernel
theorem dL_law_220 : decode code 220 = .ok (.iconst 3, 1) := by decide +kernel
theorem dL_law_221 : decode code 221 = .ok (.iadd, 1) := by decide +kernel
theorem dL_law_222 : decode code 222 = .ok (.iaload, 1) := by decide +kernel
theorem dL_law_223 : decode code 223 = .ok (.i2d, 1) := by decide +kernel
theorem dL_law_224 : decode code 224 = .ok (.ldc2_w 13, 3) := by decide +kernel
theorem dL_law_227 : decode code 227 = .ok (.dmul, 1) := by decide +kernel
theorem dL_law_228 : decode code 228 = .ok (.invokevirtual 24, 3) := by decide +kernel
theorem dL_law_231 : decode code 231 = .ok (.if_icmp .eq 428, 3) := by decide +kernel
theorem dL_law_234 : decode code 234 = .ok (.iconst 0, 1) := by decide +kernel
theorem dL_law_235 : decode code 235 = .ok (.ireturn, 1) := by decide +kernel
theorem dL_law_236 : decode code 236 = .ok (.aload_n 1, 1) := by decide +kernel
theorem dL_law_237 : decode code 237 = .ok (.aload_n 0, 1) := by decide +kernel
theorem dL_law_238 : decode code 238 = .ok (.iload_n 3, 1) := by decide +kernel
theorem dL_law_239 : decode code 239 = .ok (.iconst 1, 1) := by decide +kernel
theorem dL_law_240 : decode code 240 = .ok (.iadd, 1) := by decide +kernel
theorem dL_law_241 : decode code 241 = .ok (.iaload, 1) := by decide +kernel
theorem dL_law_242 : decode code 242 = .ok (.aload_n 0, 1) := by decide +kernel
theorem dL_law_243 : decode code 243 = .ok (.iload_n 3, 1) := by decide +kernel
theorem dL_law_244 : decode code 244 = .ok (.iconst 2, 1) := by decide +kernel
theorem dL_law_245 : decode code 245 = .ok (.iadd, 1) := by decide +kernel
theorem dL_law_246 : decode code 246 = .ok (.iaload, 1) := by decide +kernel
theorem dL_law_247 : decode code 247 = .ok (.i2d, 1) := by decide +kernel
theorem dL_law_248 : decode code 248 = .ok (.ldc2_w 13, 3) := by decide +kernel
theorem dL_law_251 : decode code 251 = .ok (.dmul, 1) := by decide +kernel
theorem dL_law_252 : decode code 252 = .ok (.invokevirtual 25, 3) := by decide +kernel
theorem dL_law_255 : decode code 255 = .ok (.aload_n 2, 1) := by decide +kernel
theorem dL_law_256 : decode code 256 = .ok (.aload_n 0, 1) := by decide +kernel
theorem dL_law_257 : decode code 257 = .ok (.iload_n 3, 1) := by decide +kernel
theorem dL_law_258 : decode code 258 = .ok (.iconst 1, 1) := by decide +kernel
theorem dL_law_259 : decode code 259 = .ok (.iadd, 1) := by decide +kernel
theorem dL_law_260 : decode code 260 = .ok (.iaload, 1) := by decide +kernel
theorem dL_law_261 : decode code 261 = .ok (.aload_n 0, 1) := by decide +kernel
theorem dL_law_262 : decode code 262 = .ok (.iload_n 3, 1) := by decide +kernel
theorem dL_law_263 : decode code 263 = .ok (.iconst 2, 1) := by decide +kernel
theorem dL_law_264 : decode code 264 = .ok (.iadd, 1) := by decide +kernel
theorem dL_law_265 : decode code 265 = .ok (.iaload, 1) := by decide +kernel
theorem dL_law_266 : decode code 266 = .ok (.i2d, 1) := by decide +kernel
theorem dL_law_267 : decode code 267 = .ok (.ldc2_w 13, 3) := by decide +kernel
theorem dL_law_270 : decode code 270 = .ok (.dmul, 1) := by decide +kernel
theorem dL_law_271 : decode code 271 = .ok (.invokevirtual 29, 3) := by decide +kernel
theorem dL_law_274 : decode code 274 = .ok (.if_icmp .eq 385, 3) := by decide +kernel
theorem dL_law_277 : decode code 277 = .ok (.iconst 0, 1) := by decide +kernel
theorem dL_law_278 : decode code 278 = .ok (.ireturn, 1) := by decide +kernel
theorem dL_law_279 : decode code 279 = .ok (.aload_n 1, 1) := by decide +kernel
theorem dL_law_280 : decode code 280 = .ok (.aload_n 0, 1) := by decide +kernel
theorem dL_law_281 : decode code 281 = .ok (.iload_n 3, 1) := by decide +kernel
theorem dL_law_282 : decode code 282 = .ok (.iconst 1, 1) := by decide +kernel
theorem dL_law_283 : decode code 283 = .ok (.iadd, 1) := by decide +kernel
theorem dL_law_284 : decode code 284 = .ok (.iaload, 1) := by decide +kernel
theorem dL_law_285 : decode code 285 = .ok (.aload_n 0, 1) := by decide +kernel
theorem dL_law_286 : decode code 286 = .ok (.iload_n 3, 1) := by decide +kernel
theorem dL_law_287 : decode code 287 = .ok (.iconst 2, 1) := by decide +kernel
theorem dL_law_288 : decode code 288 = .ok (.iadd, 1) := by decide +kernel
theorem dL_law_289 : decode code 289 = .ok (.iaload, 1) := by decide +kernel
theorem dL_law_290 : decode code 290 = .ok (.i2d, 1) := by decide +kernel
theorem dL_law_291 : decode code 291 = .ok (.ldc2_w 13, 3) := by decide +kernel
theorem dL_law_294 : decode code 294 = .ok (.dmul, 1) := by decide +kernel
theorem dL_law_295 : decode code 295 = .ok (.invokevirtual 30, 3) := by decide +kernel
theorem dL_law_298 : decode code 298 = .ok (.aload_n 2, 1) := by decide +kernel
theorem dL_law_299 : decode code 299 = .ok (.aload_n 0, 1) := by decide +kernel
theorem dL_law_300 : decode code 300 = .ok (.iload_n 3, 1) := by decide +kernel
theorem dL_law_301 : decode code 301 = .ok (.iconst 1, 1) := by decide +kernel
theorem dL_law_302 : decode code 302 = .ok (.iadd, 1) := by decide +kernel
theorem dL_law_303 : decode code 303 = .ok (.iaload, 1) := by decide +kernel
theorem dL_law_304 : decode code 304 = .ok (.aload_n 0, 1) := by decide +kernel
theorem dL_law_305 : decode code 305 = .ok (.iload_n 3, 1) := by decide +kernel
theorem dL_law_306 : decode code 306 = .ok (.iconst 2, 1) := by decide +kernel
theorem dL_law_307 : decode code 307 = .ok (.iadd, 1) := by decide +kernel
theorem dL_law_308 : decode code 308 = .ok (.iaload, 1) := by decide +kernel
theorem dL_law_309 : decode code 309 = .ok (.i2d, 1) := by decide +kernel
theorem dL_law_310 : decode code 310 = .ok (.ldc2_w 13, 3) := by decide +kernel
theorem dL_law_313 : decode code 313 = .ok (.dmul, 1) := by decide +kernel
theorem dL_law_314 : decode code 314 = .ok (.invokevirtual 33, 3) := by decide +kernel
theorem dL_law_317 : decode code 317 = .ok (.if_icmp .eq 342, 3) := by decide +kernel
theorem dL_law_320 : decode code 320 = .ok (.iconst 0, 1) := by decide +kernel
theorem dL_law_321 : decode code 321 = .ok (.ireturn, 1) := by decide +kernel
theorem dL_law_322 : decode code 322 = .ok (.aload_n 1, 1) := by decide +kernel
theorem dL_law_323 : decode code 323 = .ok (.aload_n 0, 1) := by decide +kernel
theorem dL_law_324 : decode code 324 = .ok (.iload_n 3, 1) := by decide +kernel
theorem dL_law_325 : decode code 325 = .ok (.iconst 1, 1) := by decide +kernel
theorem dL_law_326 : decode code 326 = .ok (.iadd, 1) := by decide +kernel
theorem dL_law_327 : decode code 327 = .ok (.iaload, 1) := by decide +kernel
theorem dL_law_328 : decode code 328 = .ok (.invokevirtual 34, 3) := by decide +kernel
theorem dL_law_331 : decode code 331 = .ok (.aload_n 2, 1) := by decide +kernel
theorem dL_law_332 : decode code 332 = .ok (.aload_n 0, 1) := by decide +kernel
theorem dL_law_333 : decode code 333 = .ok (.iload_n 3, 1) := by decide +kernel
theorem dL_law_334 : decode code 334 = .ok (.iconst 1, 1) := by decide +kernel
theorem dL_law_335 : decode code 335 = .ok (.iadd, 1) := by decide +kernel
theorem dL_law_336 : decode code 336 = .ok (.iaload, 1) := by decide +kernel
theorem dL_law_337 : decode code 337 = .ok (.invokevirtual 38, 3) := by decide +kernel
theorem dL_law_340 : decode code 340 = .ok (.if_icmp .eq 319, 3) := by decide +kernel
theorem dL_law_343 : decode code 343 = .ok (.iconst 0, 1) := by decide +kernel
theorem dL_law_344 : decode code 344 = .ok (.ireturn, 1) := by decide +kernel
theorem dL_law_345 : decode code 345 = .ok (.aload_n 1, 1) := by decide +kernel
theorem dL_law_346 : decode code 346 = .ok (.aload_n 0, 1) := by decide +kernel
theorem dL_law_347 : decode code 347 = .ok (.iload_n 3, 1) := by decide +kernel
theorem dL_law_348 : decode code 348 = .ok (.iconst 1, 1) := by decide +kernel
theorem dL_law_349 : decode code 349 = .ok (.iadd, 1) := by decide +kernel
theorem dL_law_350 : decode code 350 = .ok (.iaload, 1) := by decide +kernel
theorem dL_law_351 : decode code 351 = .ok (.invokevirtual 39, 3) := by decide +kernel
theorem dL_law_354 : decode code 354 = .ok (.dstore 4, 2) := by decide +kernel
theorem dL_law_356 : decode code 356 = .ok (.aload_n 2, 1) := by decide +kernel
theorem dL_law_357 : decode code 357 = .ok (.aload_n 0, 1) := by decide +kernel
theorem dL_law_358 : decode code 358 = .ok (.iload_n 3, 1) := by decide +kernel
theorem dL_law_359 : decode code 359 = .ok (.iconst 1, 1) := by decide +kernel
theorem dL_law_360 : decode code 360 = .ok (.iadd, 1) := by decide +kernel
theorem dL_law_361 : decode code 361 = .ok (.iaload, 1) := by decide +kernel
theorem dL_law_362 : decode code 362 = .ok (.invokevirtual 43, 3) := by decide +kernel
theorem dL_law_365 : decode code 365 = .ok (.dstore 6, 2) := by decide +kernel
theorem dL_law_367 : decode code 367 = .ok (.dload 4, 2) := by decide +kernel
theorem dL_law_369 : decode code 369 = .ok (.dload 6, 2) := by decide +kernel
theorem dL_law_371 : decode code 371 = .ok (.dcmp .l, 1) := by decide +kernel
theorem dL_law_372 : decode code 372 = .ok (.ifCond .eq 21, 3) := by decide +kernel
theorem dL_law_375 : decode code 375 = .ok (.dload 4, 2) := by decide +kernel
theorem dL_law_377 : decode code 377 = .ok (.dload 4, 2) := by decide +kernel
theorem dL_law_379 : decode code 379 = .ok (.dcmp .l, 1) := by decide +kernel
theorem dL_law_380 : decode code 380 = .ok (.ifCond .eq 11, 3) := by decide +kernel
theorem dL_law_383 : decode code 383 = .ok (.dload 6, 2) := by decide +kernel
theorem dL_law_385 : decode code 385 = .ok (.dload 6, 2) := by decide +kernel
theorem dL_law_387 : decode code 387 = .ok (.dcmp .l, 1) := by decide +kernel
theorem dL_law_388 : decode code 388 = .ok (.ifCond .ne 5, 3) := by decide +kernel
theorem dL_law_391 : decode code 391 = .ok (.iconst 0, 1) := by decide +kernel
theorem dL_law_392 : decode code 392 = .ok (.ireturn, 1) := by decide +kernel
theorem dL_law_393 : decode code 393 = .ok (.goto 266, 3) := by decide +kernel
theorem dL_law_396 : decode code 396 = .ok (.aload_n 1, 1) := by decide +kernel
theorem dL_law_397 : decode code 397 = .ok (.invokevirtual 44, 3) := by decide +kernel
theorem dL_law_400 : decode code 400 = .ok (.dstore 4, 2) := by decide +kernel
theorem dL_law_402 : decode code 402 = .ok (.aload_n 2, 1) := by decide +kernel
theorem dL_law_403 : decode code 403 = .ok (.invokevirtual 48, 3) := by decide +kernel
theorem dL_law_406 : decode code 406 = .ok (.dstore 6, 2) := by decide +kernel
theorem dL_law_408 : decode code 408 = .ok (.dload 4, 2) := by decide +kernel
theorem dL_law_410 : decode code 410 = .ok (.dload 6, 2) := by decide +kernel
theorem dL_law_412 : decode code 412 = .ok (.dcmp .l, 1) := by decide +kernel
theorem dL_law_413 : decode code 413 = .ok (.ifCond .eq 21, 3) := by decide +kernel
theorem dL_law_416 : decode code 416 = .ok (.dload 4, 2) := by decide +kernel
theorem dL_law_418 : decode code 418 = .ok (.dload 4, 2) := by decide +kernel
theorem dL_law_420 : decode code 420 = .ok (.dcmp .l, 1) := by decide +kernel
theorem dL_law_421 : decode code 421 = .ok (.ifCond .eq 11, 3) := by decide +kernel
theorem dL_law_424 : decode code 424 = .ok (.dload 6, 2) := by decide +kernel
theorem dL_law_426 : decode code 426 = .ok (.dload 6, 2) := by decide +kernel
theorem dL_law_428 : decode code 428 = .ok (.dcmp .l, 1) := by decide +kernel
theorem dL_law_429 : decode code 429 = .ok (.ifCond .ne 5, 3) := by decide +kernel
theorem dL_law_432 : decode code 432 = .ok (.iconst 0, 1) := by decide +kernel
theorem dL_law_433 : decode code 433 = .ok (.ireturn, 1) := by decide +kernel
theorem dL_law_434 : decode code 434 = .ok (.goto 225, 3) := by decide +kernel
theorem dL_law_437 : decode code 437 = .ok (.aload_n 1, 1) := by decide +kernel
theorem dL_law_438 : decode code 438 = .ok (.aload_n 0, 1) := by decide +kernel
theorem dL_law_439 : decode code 439 = .ok (.iload_n 3, 1) := by decide +kernel
theorem dL_law_440 : decode code 440 = .ok (.iconst 1, 1) := by decide +kernel
theorem dL_law_441 : decode code 441 = .ok (.iadd, 1) := by decide +kernel
theorem dL_law_442 : decode code 442 = .ok (.iaload, 1) := by decide +kernel
theorem dL_law_443 : decode code 443 = .ok (.invokevirtual 49, 3) := by decide +kernel
theorem dL_law_446 : decode code 446 = .ok (.dstore 4, 2) := by decide +kernel
theorem dL_law_448 : decode code 448 = .ok (.aload_n 2, 1) := by decide +kernel
theorem dL_law_449 : decode code 449 = .ok (.aload_n 0, 1) := by decide +kernel
theorem dL_law_450 : decode code 450 = .ok (.iload_n 3, 1) := by decide +kernel
theorem dL_law_451 : decode code 451 = .ok (.iconst 1, 1) := by decide +kernel
theorem dL_law_452 : decode code 452 = .ok (.iadd, 1) := by decide +kernel
theorem dL_law_453 : decode code 453 = .ok (.iaload, 1) := by decide +kernel
theorem dL_law_454 : decode code 454 = .ok (.invokevirtual 52, 3) := by decide +kernel
theorem dL_law_457 : decode code 457 = .ok (.dstore 6, 2) := by decide +kernel
theorem dL_law_459 : decode code 459 = .ok (.dload 4, 2) := by decide +kernel
theorem dL_law_461 : decode code 461 = .ok (.dload 6, 2) := by decide +kernel
theorem dL_law_463 : decode code 463 = .ok (.dcmp .l, 1) := by decide +kernel
theorem dL_law_464 : decode code 464 = .ok (.ifCond .eq 21, 3) := by decide +kernel
theorem dL_law_467 : decode code 467 = .ok (.dload 4, 2) := by decide +kernel
theorem dL_law_469 : decode code 469 = .ok (.dload 4, 2) := by decide +kernel
theorem dL_law_471 : decode code 471 = .ok (.dcmp .l, 1) := by decide +kernel
theorem dL_law_472 : decode code 472 = .ok (.ifCond .eq 11, 3) := by decide +kernel
theorem dL_law_475 : decode code 475 = .ok (.dload 6, 2) := by decide +kernel
theorem dL_law_477 : decode code 477 = .ok (.dload 6, 2) := by decide +kernel
theorem dL_law_479 : decode code 479 = .ok (.dcmp .l, 1) := by decide +kernel
theorem dL_law_480 : decode code 480 = .ok (.ifCond .ne 5, 3) := by decide +kernel
theorem dL_law_483 : decode code 483 = .ok (.iconst 0, 1) := by decide +kernel
theorem dL_law_484 : decode code 484 = .ok (.ireturn, 1) := by decide +kernel
theorem dL_law_485 : decode code 485 = .ok (.goto 174, 3) := by decide +kernel
theorem dL_law_488 : decode code 488 = .ok (.aload_n 1, 1) := by decide +kernel
theorem dL_law_489 : decode code 489 = .ok (.invokevirtual 53, 3) := by decide +kernel
theorem dL_law_492 : decode code 492 = .ok (.dstore 4, 2) := by decide +kernel
theorem dL_law_494 : decode code 494 = .ok (.aload_n 2, 1) := by decide +kernel
theorem dL_law_495 : decode code 495 = .ok (.invokevirtual 56, 3) := by decide +kernel
theorem dL_law_498 : decode code 498 = .ok (.dstore 6, 2) := by decide +kernel
theorem dL_law_500 : decode code 500 = .ok (.dload 4, 2) := by decide +kernel
theorem dL_law_502 : decode code 502 = .ok (.dload 6, 2) := by decide +kernel
theorem dL_law_504 : decode code 504 = .ok (.dcmp .l, 1) := by decide +kernel
theorem dL_law_505 : decode code 505 = .ok (.ifCond .eq 21, 3) := by decide +kernel
theorem dL_law_508 : decode code 508 = .ok (.dload 4, 2) := by decide +kernel
theorem dL_law_510 : decode code 510 = .ok (.dload 4, 2) := by decide +kernel
theorem dL_law_512 : decode code 512 = .ok (.dcmp .l, 1) := by decide +kernel
theorem dL_law_513 : decode code 513 = .ok (.ifCond .eq 11, 3) := by decide +kernel
theorem dL_law_516 : decode code 516 = .ok (.dload 6, 2) := by decide +kernel
theorem dL_law_518 : decode code 518 = .ok (.dload 6, 2) := by decide +kernel
theorem dL_law_520 : decode code 520 = .ok (.dcmp .l, 1) := by decide +kernel
theorem dL_law_521 : decode code 521 = .ok (.ifCond .ne 5, 3) := by decide +kernel
theorem dL_law_524 : decode code 524 = .ok (.iconst 0, 1) := by decide +kernel
theorem dL_law_525 : decode code 525 = .ok (.ireturn, 1) := by decide +kernel
theorem dL_law_526 : decode code 526 = .ok (.goto 133, 3) := by decide +kernel
theorem dL_law_529 : decode code 529 = .ok (.aload_n 1, 1) := by decide +kernel
theorem dL_law_530 : decode code 530 = .ok (.aload_n 0, 1) := by decide +kernel
theorem dL_law_531 : decode code 531 = .ok (.iload_n 3, 1) := by decide +kernel
theorem dL_law_532 : decode code 532 = .ok (.iconst 1, 1) := by decide +kernel
theorem dL_law_533 : decode code 533 = .ok (.iadd, 1) := by decide +kernel
theorem dL_law_534 : decode code 534 = .ok (.iaload, 1) := by decide +kernel
theorem dL_law_535 : decode code 535 = .ok (.i2d, 1) := by decide +kernel
theorem dL_law_536 : decode code 536 = .ok (.ldc2_w 13, 3) := by decide +kernel
theorem dL_law_539 : decode code 539 = .ok (.dmul, 1) := by decide +kernel
theorem dL_law_540 : decode code 540 = .ok (.invokevirtual 57, 3) := by decide +kernel
theorem dL_law_543 : decode code 543 = .ok (.aload_n 2, 1) := by decide +kernel
theorem dL_law_544 : decode code 544 = .ok (.aload_n 0, 1) := by decide +kernel
theorem dL_law_545 : decode code 545 = .ok (.iload_n 3, 1) := by decide +kernel
theorem dL_law_546 : decode code 546 = .ok (.iconst 1, 1) := by decide +kernel
theorem dL_law_547 : decode code 547 = .ok (.iadd, 1) := by decide +kernel
theorem dL_law_548 : decode code 548 = .ok (.iaload, 1) := by decide +kernel
theorem dL_law_549 : decode code 549 = .ok (.i2d, 1) := by decide +kernel
theorem dL_law_550 : decode code 550 = .ok (.ldc2_w 13, 3) := by decide +kernel
theorem dL_law_553 : decode code 553 = .ok (.dmul, 1) := by decide +kernel
theorem dL_law_554 : decode code 554 = .ok (.invokevirtual 61, 3) := by decide +kernel
theorem dL_law_557 : decode code 557 = .ok (.if_icmp .eq 102, 3) := by decide +kernel
theorem dL_law_560 : decode code 560 = .ok (.iconst 0, 1) := by decide +kernel
theorem dL_law_561 : decode code 561 = .ok (.ireturn, 1) := by decide +kernel
theorem dL_law_562 : decode code 562 = .ok (.aload_n 1, 1) := by decide +kernel
theorem dL_law_563 : decode code 563 = .ok (.aload_n 0, 1) := by decide +kernel
theorem dL_law_564 : decode code 564 = .ok (.iload_n 3, 1) := by decide +kernel
theorem dL_law_565 : decode code 565 = .ok (.iconst 1, 1) := by decide +kernel
theorem dL_law_566 : decode code 566 = .ok (.iadd, 1) := by decide +kernel
theorem dL_law_567 : decode code 567 = .ok (.iaload, 1) := by decide +kernel
theorem dL_law_568 : decode code 568 = .ok (.aload_n 0, 1) := by decide +kernel
theorem dL_law_569 : decode code 569 = .ok (.iload_n 3, 1) := by decide +kernel
theorem dL_law_570 : decode code 570 = .ok (.iconst 2, 1) := by decide +kernel
theorem dL_law_571 : decode code 571 = .ok (.iadd, 1) := by decide +kernel
theorem dL_law_572 : decode code 572 = .ok (.iaload, 1) := by decide +kernel
theorem dL_law_573 : decode code 573 = .ok (.i2d, 1) := by decide +kernel
theorem dL_law_574 : decode code 574 = .ok (.ldc2_w 13, 3) := by decide +kernel
theorem dL_law_577 : decode code 577 = .ok (.dmul, 1) := by decide +kernel
theorem dL_law_578 : decode code 578 = .ok (.invokevirtual 62, 3) := by decide +kernel
theorem dL_law_581 : decode code 581 = .ok (.aload_n 2, 1) := by decide +kernel
theorem dL_law_582 : decode code 582 = .ok (.aload_n 0, 1) := by decide +kernel
theorem dL_law_583 : decode code 583 = .ok (.iload_n 3, 1) := by decide +kernel
theorem dL_law_584 : decode code 584 = .ok (.iconst 1, 1) := by decide +kernel
theorem dL_law_585 : decode code 585 = .ok (.iadd, 1) := by decide +kernel
theorem dL_law_586 : decode code 586 = .ok (.iaload, 1) := by decide +kernel
theorem dL_law_587 : decode code 587 = .ok (.aload_n 0, 1) := by decide +kernel
theorem dL_law_588 : decode code 588 = .ok (.iload_n 3, 1) := by decide +kernel
theorem dL_law_589 : decode code 589 = .ok (.iconst 2, 1) := by decide +kernel
theorem dL_law_590 : decode code 590 = .ok (.iadd, 1) := by decide +kernel
theorem dL_law_591 : decode code 591 = .ok (.iaload, 1) := by decide +kernel
theorem dL_law_592 : decode code 592 = .ok (.i2d, 1) := by decide +kernel
theorem dL_law_593 : decode code 593 = .ok (.ldc2_w 13, 3) := by decide +kernel
theorem dL_law_596 : decode code 596 = .ok (.dmul, 1) := by decide +kernel
theorem dL_law_597 : decode code 597 = .ok (.invokevirtual 65, 3) := by decide +kernel
theorem dL_law_600 : decode code 600 = .ok (.if_icmp .eq 59, 3) := by decide +kernel
theorem dL_law_603 : decode code 603 = .ok (.iconst 0, 1) := by decide +kernel
theorem dL_law_604 : decode code 604 = .ok (.ireturn, 1) := by decide +kernel
theorem dL_law_605 : decode code 605 = .ok (.aload_n 1, 1) := by decide +kernel
theorem dL_law_606 : decode code 606 = .ok (.invokevirtual 66, 3) := by decide +kernel
theorem dL_law_609 : decode code 609 = .ok (.dstore 4, 2) := by decide +kernel
theorem dL_law_611 : decode code 611 = .ok (.aload_n 2, 1) := by decide +kernel
theorem dL_law_612 : decode code 612 = .ok (.invokevirtual 69, 3) := by decide +kernel
theorem dL_law_615 : decode code 615 = .ok (.dstore 6, 2) := by decide +kernel
theorem dL_law_617 : decode code 617 = .ok (.dload 4, 2) := by decide +kernel
theorem dL_law_619 : decode code 619 = .ok (.dload 6, 2) := by decide +kernel
theorem dL_law_621 : decode code 621 = .ok (.dcmp .l, 1) := by decide +kernel
theorem dL_law_622 : decode code 622 = .ok (.ifCond .eq 21, 3) := by decide +kernel
theorem dL_law_625 : decode code 625 = .ok (.dload 4, 2) := by decide +kernel
theorem dL_law_627 : decode code 627 = .ok (.dload 4, 2) := by decide +kernel
theorem dL_law_629 : decode code 629 = .ok (.dcmp .l, 1) := by decide +kernel
theorem dL_law_630 : decode code 630 = .ok (.ifCond .eq 11, 3) := by decide +kernel
theorem dL_law_633 : decode code 633 = .ok (.dload 6, 2) := by decide +kernel
theorem dL_law_635 : decode code 635 = .ok (.dload 6, 2) := by decide +kernel
theorem dL_law_637 : decode code 637 = .ok (.dcmp .l, 1) := by decide +kernel
theorem dL_law_638 : decode code 638 = .ok (.ifCond .ne 5, 3) := by decide +kernel
theorem dL_law_641 : decode code 641 = .ok (.iconst 0, 1) := by decide +kernel
theorem dL_law_642 : decode code 642 = .ok (.ireturn, 1) := by decide +kernel
theorem dL_law_643 : decode code 643 = .ok (.goto 16, 3) := by decide +kernel
theorem dL_law_646 : decode code 646 = .ok (.aload_n 1, 1) := by decide +kernel
theorem dL_law_647 : decode code 647 = .ok (.invokevirtual 70, 3) := by decide +kernel
theorem dL_law_650 : decode code 650 = .ok (.aload_n 2, 1) := by decide +kernel
theorem dL_law_651 : decode code 651 = .ok (.invokevirtual 74, 3) := by decide +kernel
theorem dL_law_654 : decode code 654 = .ok (.if_icmp .eq 5, 3) := by decide +kernel
theorem dL_law_657 : decode code 657 = .ok (.iconst 0, 1) := by decide +kernel
theorem dL_law_658 : decode code 658 = .ok (.ireturn, 1) := by decide +kernel
theorem dL_law_659 : decode code 659 = .ok (.iinc 3 4, 3) := by decide +kernel
theorem dL_law_662 : decode code 662 = .ok (.goto (-644), 3) := by decide +kernel
theorem dL_law_665 : decode code 665 = .ok (.iconst 1, 1) := by decide +kernel
theorem dL_law_666 : decode code 666 = .ok (.ireturn, 1) := by decide +kernel
