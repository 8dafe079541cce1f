theorem dN_second_37 : decode bN_second 37 = .ok (.aload_n 0, 1) := by decide +kernel
theorem dN_second_38 : decode bN_second 38 = .ok (.aload_n 0, 1) := by decide +kernel
theorem dN_second_39 : decode bN_second 39 = .ok (.getfield 62, 3) := by decide +kernel
theorem dN_second_42 : decode bN_second 42 = .ok (.aload_n 0, 1) := by decide +kernel
theorem dN_second_43 : decode bN_second 43 = .ok (.getfield 17, 3) := by decide +kernel
theorem dN_second_46 : decode bN_second 46 = .ok (.iload_n 1, 1) := by decide +kernel
theorem dN_second_47 : decode bN_second 47 = .ok (.daload, 1) := by decide +kernel
theorem dN_second_48 : decode bN_second 48 = .ok (.aload_n 0, 1) := by decide +kernel
theorem dN_second_49 : decode bN_second 49 = .ok (.getfield 62, 3) := by decide +kernel
theorem dN_second_52 : decode bN_second 52 = .ok (.dsub, 1) := by decide +kernel
theorem dN_second_53 : decode bN_second 53 = .ok (.aload_n 0, 1) := by decide +kernel
theorem dN_second_54 : decode bN_second 54 = .ok (.getfield 13, 3) := by decide +kernel
theorem dN_second_57 : decode bN_second 57 = .ok (.iload_n 1, 1) := by decide +kernel
theorem dN_second_58 : decode bN_second 58 = .ok (.iaload, 1) := by decide +kernel
theorem dN_second_59 : decode bN_second 59 = .ok (.aload_n 0, 1) := by decide +kernel
theorem dN_second_60 : decode bN_second 60 = .ok (.getfield 71, 3) := by decide +kernel
theorem dN_second_63 : decode bN_second 63 = .ok (.isub, 1) := by decide +kernel
theorem dN_second_64 : decode bN_second 64 = .ok (.i2d, 1) := by decide +kernel
theorem dN_second_65 : decode bN_second 65 = .ok (.ddiv, 1) := by decide +kernel
theorem dN_second_66 : decode bN_second 66 = .ok (.dadd, 1) := by decide +kernel
theorem dN_second_67 : decode bN_second 67 = .ok (.putfield 62, 3) := by decide +kernel
theorem dN_second_70 : decode bN_second 70 = .ok (.dconst 1, 1) := by decide +kernel
theorem dN_second_71 : decode bN_second 71 = .ok (.aload_n 0, 1) := by decide +kernel
theorem dN_second_72 : decode bN_second 72 = .ok (.getfield 65, 3) := by decide +kernel
theorem dN_second_75 : decode bN_second 75 = .ok (.ldc2_w 89, 3) := by decide +kernel
theorem dN_second_78 : decode bN_second 78 = .ok (.dsub, 1) := by decide +kernel
theorem dN_second_79 : decode bN_second 79 = .ok (.aload_n 0, 1) := by decide +kernel
theorem dN_second_80 : decode bN_second 80 = .ok (.getfield 65, 3) := by decide +kernel
theorem dN_second_83 : decode bN_second 83 = .ok (.ldc2_w 89, 3) := by decide +kernel
theorem dN_second_86 : decode bN_second 86 = .ok (.dsub, 1) := by decide +kernel
theorem dN_second_87 : decode bN_second 87 = .ok (.dmul, 1) := by decide +kernel
theorem dN_second_88 : decode bN_second 88 = .ok (.ldc2_w 44, 3) := by decide +kernel
theorem dN_second_91 : decode bN_second 91 = .ok (.dmul, 1) := by decide +kernel
theorem dN_second_92 : decode bN_second 92 = .ok (.dsub, 1) := by decide +kernel
theorem dN_second_93 : decode bN_second 93 = .ok (.dstore_n 2, 1) := by decide +kernel
theorem dN_second_94 : decode bN_second 94 = .ok (.dload_n 2, 1) := by decide +kernel
theorem dN_second_95 : decode bN_second 95 = .ok (.dconst 0, 1) := by decide +kernel
theorem dN_second_96 : decode bN_second 96 = .ok (.dcmp .g, 1) := by decide +kernel
theorem dN_second_97 : decode bN_second 97 = .ok (.ifCond .ge 7, 3) := by decide +kernel
theorem dN_second_100 : decode bN_second 100 = .ok (.dconst 0, 1) := by decide +kernel
theorem dN_second_101 : decode bN_second 101 = .ok (.goto 4, 3) := by decide +kernel
theorem dN_second_104 : decode bN_second 104 = .ok (.dload_n 2, 1) := by decide +kernel
theorem dN_second_105 : decode bN_second 105 = .ok (.dstore_n 2, 1) := by decide +kernel
theorem dN_second_106 : decode bN_second 106 = .ok (.iconst 0, 1) := by decide +kernel
theorem dN_second_107 : decode bN_second 107 = .ok (.istore 4, 2) := by decide +kernel
theorem dN_second_109 : decode bN_second 109 = .ok (.iload 4, 2) := by decide +kernel
theorem dN_second_111 : decode bN_second 111 = .ok (.iconst 4, 1) := by decide +kernel
theorem dN_second_112 : decode bN_second 112 = .ok (.if_icmp .ge 64, 3) := by decide +kernel
theorem dN_second_115 : decode bN_second 115 = .ok (.aload_n 0, 1) := by decide +kernel
theorem dN_second_116 : decode bN_second 116 = .ok (.getfield 9, 3) := by decide +kernel
theorem dN_second_119 : decode bN_second 119 = .ok (.bipush 9, 2) := by decide +kernel
theorem dN_second_121 : decode bN_second 121 = .ok (.iload 4, 2) := by decide +kernel
theorem dN_second_123 : decode bN_second 123 = .ok (.iadd, 1) := by decide +kernel
theorem dN_second_124 : decode bN_second 124 = .ok (.daload, 1) := by decide +kernel
theorem dN_second_125 : decode bN_second 125 = .ok (.aload_n 0, 1) := by decide +kernel
theorem dN_second_126 : decode bN_second 126 = .ok (.iload 4, 2) := by decide +kernel
theorem dN_second_128 : decode bN_second 128 = .ok (.invokevirtual 91, 3) := by decide +kernel
theorem dN_second_131 : decode bN_second 131 = .ok (.dmul, 1) := by decide +kernel
theorem dN_second_132 : decode bN_second 132 = .ok (.dload_n 2, 1) := by decide +kernel
theorem dN_second_133 : decode bN_second 133 = .ok (.dmul, 1) := by decide +kernel
theorem dN_second_134 : decode bN_second 134 = .ok (.dstore 5, 2) := by decide +kernel
theorem dN_second_136 : decode bN_second 136 = .ok (.aload_n 0, 1) := by decide +kernel
theorem dN_second_137 : decode bN_second 137 = .ok (.getfield 27, 3) := by decide +kernel
theorem dN_second_140 : decode bN_second 140 = .ok (.iload 4, 2) := by decide +kernel
theorem dN_second_142 : decode bN_second 142 = .ok (.dload 5, 2) := by decide +kernel
theorem dN_second_144 : decode bN_second 144 = .ok (.dconst 0, 1) := by decide +kernel
theorem dN_second_145 : decode bN_second 145 = .ok (.dcmp .l, 1) := by decide +kernel
theorem dN_second_146 : decode bN_second 146 = .ok (.ifCond .le 22, 3) := by decide +kernel
theorem dN_second_149 : decode bN_second 149 = .ok (.dload 5, 2) := by decide +kernel
theorem dN_second_151 : decode bN_second 151 = .ok (.dload 5, 2) := by decide +kernel
theorem dN_second_153 : decode bN_second 153 = .ok (.aload_n 0, 1) := by decide +kernel
theorem dN_second_154 : decode bN_second 154 = .ok (.getfield 9, 3) := by decide +kernel
theorem dN_second_157 : decode bN_second 157 = .ok (.iconst 0, 1) := by decide +kernel
theorem dN_second_158 : decode bN_second 158 = .ok (.daload, 1) := by decide +kernel
theorem dN_second_159 : decode bN_second 159 = .ok (.dadd, 1) := by decide +kernel
theorem dN_second_160 : decode bN_second 160 = .ok (.ddiv, 1) := by decide +kernel
theorem dN_second_161 : decode bN_second 161 = .ok (.ldc2_w 38, 3) := by decide +kernel
theorem dN_second_164 : decode bN_second 164 = .ok (.dmul, 1) := by decide +kernel
theorem dN_second_165 : decode bN_second 165 = .ok (.goto 4, 3) := by decide +kernel
theorem dN_second_168 : decode bN_second 168 = .ok (.dconst 0, 1) := by decide +kernel
theorem dN_second_169 : decode bN_second 169 = .ok (.dastore, 1) := by decide +kernel
theorem dN_second_170 : decode bN_second 170 = .ok (.iinc 4 1, 3) := by decide +kernel
theorem dN_second_173 : decode bN_second 173 = .ok (.goto (-64), 3) := by decide +kernel
theorem dN_second_176 : decode bN_second 176 = .ok (.aload_n 0, 1) := by decide +kernel
theorem dN_second_177 : decode bN_second 177 = .ok (.getfield 9, 3) := by decide +kernel
theorem dN_second_180 : decode bN_second 180 = .ok (.iconst 1, 1) := by decide +kernel
theorem dN_second_181 : decode bN_second 181 = .ok (.daload, 1) := by decide +kernel
theorem dN_second_182 : decode bN_second 182 = .ok (.aload_n 0, 1) := by decide +kernel
theorem dN_second_183 : decode bN_second 183 = .ok (.iconst 4, 1) := by decide +kernel
theorem dN_second_184 : decode bN_second 184 = .ok (.invokevirtual 91, 3) := by decide +kernel
theorem dN_second_187 : decode bN_second 187 = .ok (.dmul, 1) := by decide +kernel
theorem dN_second_188 : decode bN_second 188 = .ok (.dstore 4, 2) := by decide +kernel
theorem dN_second_190 : decode bN_second 190 = .ok (.aload_n 0, 1) := by decide +kernel
theorem dN_second_191 : decode bN_second 191 = .ok (.getfield 9, 3) := by decide +kernel
theorem dN_second_194 : decode bN_second 194 = .ok (.iconst 1, 1) := by decide +kernel
theorem dN_second_195 : decode bN_second 195 = .ok (.aload_n 0, 1) := by decide +kernel
theorem dN_second_196 : decode bN_second 196 = .ok (.getfield 9, 3) := by decide +kernel
theorem dN_second_199 : decode bN_second 199 = .ok (.iconst 1, 1) := by decide +kernel
theorem dN_second_200 : decode bN_second 200 = .ok (.daload, 1) := by decide +kernel
theorem dN_second_201 : decode bN_second 201 = .ok (.dload 4, 2) := by decide +kernel
theorem dN_second_203 : decode bN_second 203 = .ok (.dsub, 1) := by decide +kernel
theorem dN_second_204 : decode bN_second 204 = .ok (.dastore, 1) := by decide +kernel
theorem dN_second_205 : decode bN_second 205 = .ok (.aload_n 0, 1) := by decide +kernel
theorem dN_second_206 : decode bN_second 206 = .ok (.getfield 9, 3) := by decide +kernel
theorem dN_second_209 : decode bN_second 209 = .ok (.iconst 2, 1) := by decide +kernel
theorem dN_second_210 : decode bN_second 210 = .ok (.aload_n 0, 1) := by decide +kernel
theorem dN_second_211 : decode bN_second 211 = .ok (.getfield 9, 3) := by decide +kernel
theorem dN_second_214 : decode bN_second 214 = .ok (.iconst 2, 1) := by decide +kernel
theorem dN_second_215 : decode bN_second 215 = .ok (.daload, 1) := by decide +kernel
theorem dN_second_216 : decode bN_second 216 = .ok (.dload 4, 2) := by decide +kernel
theorem dN_second_218 : decode bN_second 218 = .ok (.dadd, 1) := by decide +kernel
theorem dN_second_219 : decode bN_second 219 = .ok (.dastore, 1) := by decide +kernel
theorem dN_second_220 : decode bN_second 220 = .ok (.aload_n 0, 1) := by decide +kernel
theorem dN_second_221 : decode bN_second 221 = .ok (.getfield 9, 3) := by decide +kernel
theorem dN_second_224 : decode bN_second 224 = .ok (.iconst 2, 1) := by decide +kernel
theorem dN_second_225 : decode bN_second 225 = .ok (.daload, 1) := by decide +kernel
theorem dN_second_226 : decode bN_second 226 = .ok (.aload_n 0, 1) := by decide +kernel
theorem dN_second_227 : decode bN_second 227 = .ok (.getfield 27, 3) := by decide +kernel
theorem dN_second_230 : decode bN_second 230 = .ok (.iconst 0, 1) := by decide +kernel
theorem dN_second_231 : decode bN_second 231 = .ok (.daload, 1) := by decide +kernel
theorem dN_second_232 : decode bN_second 232 = .ok (.dmul, 1) := by decide +kernel
theorem dN_second_233 : decode bN_second 233 = .ok (.dstore 6, 2) := by decide +kernel
theorem dN_second_235 : decode bN_second 235 = .ok (.aload_n 0, 1) := by decide +kernel
theorem dN_second_236 : decode bN_second 236 = .ok (.getfield 9, 3) := by decide +kernel
theorem dN_second_239 : decode bN_second 239 = .ok (.iconst 2, 1) := by decide +kernel
theorem dN_second_240 : decode bN_second 240 = .ok (.aload_n 0, 1) := by decide +kernel
theorem dN_second_241 : decode bN_second 241 = .ok (.getfield 9, 3) := by decide +kernel
theorem dN_second_244 : decode bN_second 244 = .ok (.iconst 2, 1) := by decide +kernel
theorem dN_second_245 : decode bN_second 245 = .ok (.daload, 1) := by decide +kernel
theorem dN_second_246 : decode bN_second 246 = .ok (.dload 6, 2) := by decide +kernel
theorem dN_second_248 : decode bN_second 248 = .ok (.dsub, 1) := by decide +kernel
theorem dN_second_249 : decode bN_second 249 = .ok (.dastore, 1) := by decide +kernel
theorem dN_second_250 : decode bN_second 250 = .ok (.aload_n 0, 1) := by decide +kernel
theorem dN_second_251 : decode bN_second 251 = .ok (.getfield 9, 3) := by decide +kernel
theorem dN_second_254 : decode bN_second 254 = .ok (.bipush 6, 2) := by decide +kernel
theorem dN_second_256 : decode bN_second 256 = .ok (.aload_n 0, 1) := by decide +kernel
theorem dN_second_257 : decode bN_second 257 = .ok (.getfield 9, 3) := by decide +kernel
theorem dN_second_260 : decode bN_second 260 = .ok (.bipush 6, 2) := by decide +kernel
theorem dN_second_262 : decode bN_second 262 = .ok (.daload, 1) := by decide +kernel
theorem dN_second_263 : decode bN_second 263 = .ok (.dload 6, 2) := by decide +kernel
theorem dN_second_265 : decode bN_second 265 = .ok (.ldc2_w 42, 3) := by decide +kernel
theorem dN_second_268 : decode bN_second 268 = .ok (.dmul, 1) := by decide +kernel
theorem dN_second_269 : decode bN_second 269 = .ok (.dadd, 1) := by decide +kernel
theorem dN_second_270 : decode bN_second 270 = .ok (.dastore, 1) := by decide +kernel
theorem dN_second_271 : decode bN_second 271 = .ok (.aload_n 0, 1) := by decide +kernel
theorem dN_second_272 : decode bN_second 272 = .ok (.getfield 9, 3) := by decide +kernel
theorem dN_second_275 : decode bN_second 275 = .ok (.iconst 5, 1) := by decide +kernel
theorem dN_second_276 : decode bN_second 276 = .ok (.aload_n 0, 1) := by decide +kernel
theorem dN_second_277 : decode bN_second 277 = .ok (.getfield 9, 3) := by decide +kernel
theorem dN_second_280 : decode bN_second 280 = .ok (.iconst 5, 1) := by decide +kernel
theorem dN_second_281 : decode bN_second 281 = .ok (.daload, 1) := by decide +kernel
theorem dN_second_282 : decode bN_second 282 = .ok (.dload 6, 2) := by decide +kernel
theorem dN_second_284 : decode bN_second 284 = .ok (.ldc2_w 44, 3) := by decide +kernel
theorem dN_second_287 : decode bN_second 287 = .ok (.dmul, 1) := by decide +kernel
theorem dN_second_288 : decode bN_second 288 = .ok (.dadd, 1) := by decide +kernel
theorem dN_second_289 : decode bN_second 289 = .ok (.dastore, 1) := by decide +kernel
theorem dN_second_290 : decode bN_second 290 = .ok (.aload_n 0, 1) := by decide +kernel
theorem dN_second_291 : decode bN_second 291 = .ok (.getfield 9, 3) := by decide +kernel
theorem dN_second_294 : decode bN_second 294 = .ok (.bipush 6, 2) := by decide +kernel
theorem dN_second_296 : decode bN_second 296 = .ok (.daload, 1) := by decide +kernel
theorem dN_second_297 : decode bN_second 297 = .ok (.aload_n 0, 1) := by decide +kernel
theorem dN_second_298 : decode bN_second 298 = .ok (.getfield 27, 3) := by decide +kernel
theorem dN_second_301 : decode bN_second 301 = .ok (.iconst 1, 1) := by decide +kernel
theorem dN_second_302 : decode bN_second 302 = .ok (.daload, 1) := by decide +kernel
theorem dN_second_303 : decode bN_second 303 = .ok (.dmul, 1) := by decide +kernel
theorem dN_second_304 : decode bN_second 304 = .ok (.dstore 8, 2) := by decide +kernel
theorem dN_second_306 : decode bN_second 306 = .ok (.aload_n 0, 1) := by decide +kernel
theorem dN_second_307 : decode bN_second 307 = .ok (.getfield 9, 3) := by decide +kernel
theorem dN_second_310 : decode bN_second 310 = .ok (.iconst 0, 1) := by decide +kernel
theorem dN_second_311 : decode bN_second 311 = .ok (.daload, 1) := by decide +kernel
theorem dN_second_312 : decode bN_second 312 = .ok (.ldc2_w 60, 3) := by decide +kernel
theorem dN_second_315 : decode bN_second 315 = .ok (.dmul, 1) := by decide +kernel
theorem dN_second_316 : decode bN_second 316 = .ok (.dload 8, 2) := by decide +kernel
theorem dN_second_318 : decode bN_second 318 = .ok (.dcmp .g, 1) := by decide +kernel
theorem dN_second_319 : decode bN_second 319 = .ok (.ifCond .ge 16, 3) := by decide +kernel
theorem dN_second_322 : decode bN_second 322 = .ok (.aload_n 0, 1) := by decide +kernel
theorem dN_second_323 : decode bN_second 323 = .ok (.getfield 9, 3) := by decide +kernel
theorem dN_second_326 : decode bN_second 326 = .ok (.iconst 0, 1) := by decide +kernel
theorem dN_second_327 : decode bN_second 327 = .ok (.daload, 1) := by decide +kernel
theorem dN_second_328 : decode bN_second 328 = .ok (.ldc2_w 60, 3) := by decide +kernel
theorem dN_second_331 : decode bN_second 331 = .ok (.dmul, 1) := by decide +kernel
theorem dN_second_332 : decode bN_second 332 = .ok (.goto 5, 3) := by decide +kernel
theorem dN_second_335 : decode bN_second 335 = .ok (.dload 8, 2) := by decide +kernel
theorem dN_second_337 : decode bN_second 337 = .ok (.dstore 8, 2) := by decide +kernel
theorem dN_second_339 : decode bN_second 339 = .ok (.aload_n 0, 1) := by decide +kernel
theorem dN_second_340 : decode bN_second 340 = .ok (.getfield 9, 3) := by decide +kernel
theorem dN_second_343 : decode bN_second 343 = .ok (.bipush 6, 2) := by decide +kernel
theorem dN_second_345 : decode bN_second 345 = .ok (.aload_n 0, 1) := by decide +kernel
theorem dN_second_346 : decode bN_second 346 = .ok (.getfield 9, 3) := by decide +kernel
theorem dN_second_349 : decode bN_second 349 = .ok (.bipush 6, 2) := by decide +kernel
theorem dN_second_351 : decode bN_second 351 = .ok (.daload, 1) := by decide +kernel
theorem dN_second_352 : decode bN_second 352 = .ok (.dload 8, 2) := by decide +kernel
theorem dN_second_354 : decode bN_second 354 = .ok (.dsub, 1) := by decide +kernel
theorem dN_second_355 : decode bN_second 355 = .ok (.dastore, 1) := by decide +kernel
theorem dN_second_356 : decode bN_second 356 = .ok (.aload_n 0, 1) := by decide +kernel
theorem dN_second_357 : decode bN_second 357 = .ok (.getfield 9, 3) := by decide +kernel
theorem dN_second_360 : decode bN_second 360 = .ok (.iconst 4, 1) := by decide +kernel
theorem dN_second_361 : decode bN_second 361 = .ok (.aload_n 0, 1) := by decide +kernel
theorem dN_second_362 : decode bN_second 362 = .ok (.getfield 9, 3) := by decide +kernel
theorem dN_second_365 : decode bN_second 365 = .ok (.iconst 4, 1) := by decide +kernel
theorem dN_second_366 : decode bN_second 366 = .ok (.daload, 1) := by decide +kernel
theorem dN_second_367 : decode bN_second 367 = .ok (.dload 8, 2) := by decide +kernel
theorem dN_second_369 : decode bN_second 369 = .ok (.ldc2_w 95, 3) := by decide +kernel
theorem dN_second_372 : decode bN_second 372 = .ok (.dmul, 1) := by decide +kernel
theorem dN_second_373 : decode bN_second 373 = .ok (.dadd, 1) := by decide +kernel
theorem dN_second_374 : decode bN_second 374 = .ok (.dastore, 1) := by decide +kernel
theorem dN_second_375 : decode bN_second 375 = .ok (.aload_n 0, 1) := by decide +kernel
theorem dN_second_376 : decode bN_second 376 = .ok (.getfield 9, 3) := by decide +kernel
theorem dN_second_379 : decode bN_second 379 = .ok (.iconst 0, 1) := by decide +kernel
theorem dN_second_380 : decode bN_second 380 = .ok (.aload_n 0, 1) := by decide +kernel
theorem dN_second_381 : decode bN_second 381 = .ok (.getfield 9, 3) := by decide +kernel
theorem dN_second_384 : decode bN_second 384 = .ok (.iconst 0, 1) := by decide +kernel
theorem dN_second_385 : decode bN_second 385 = .ok (.daload, 1) := by decide +kernel
theorem dN_second_386 : decode bN_second 386 = .ok (.dload 8, 2) := by decide +kernel
theorem dN_second_388 : decode bN_second 388 = .ok (.ldc2_w 38, 3) := by decide +kernel
theorem dN_second_391 : decode bN_second 391 = .ok (.dmul, 1) := by decide +kernel
theorem dN_second_392 : decode bN_second 392 = .ok (.dsub, 1) := by decide +kernel
theorem dN_second_393 : decode bN_second 393 = .ok (.dastore, 1) := by decide +kernel
theorem dN_second_394 : decode bN_second 394 = .ok (.aload_n 0, 1) := by decide +kernel
theorem dN_second_395 : decode bN_second 395 = .ok (.getfield 9, 3) := by decide +kernel
theorem dN_second_398 : decode bN_second 398 = .ok (.bipush 6, 2) := by decide +kernel
theorem dN_second_400 : decode bN_second 400 = .ok (.daload, 1) := by decide +kernel
theorem dN_second_401 : decode bN_second 401 = .ok (.aload_n 0, 1) := by decide +kernel
theorem dN_second_402 : decode bN_second 402 = .ok (.getfield 27, 3) := by decide +kernel
theorem dN_second_405 : decode bN_second 405 = .ok (.iconst 2, 1) := by decide +kernel
theorem dN_second_406 : decode bN_second 406 = .ok (.daload, 1) := by decide +kernel
theorem dN_second_407 : decode bN_second 407 = .ok (.dmul, 1) := by decide +kernel
theorem dN_second_408 : decode bN_second 408 = .ok (.dstore 10, 2) := by decide +kernel
theorem dN_second_410 : decode bN_second 410 = .ok (.aload_n 0, 1) := by decide +kernel
theorem dN_second_411 : decode bN_second 411 = .ok (.getfield 9, 3) := by decide +kernel
theorem dN_second_414 : decode bN_second 414 = .ok (.iconst 0, 1) := by decide +kernel
theorem dN_second_415 : decode bN_second 415 = .ok (.daload, 1) := by decide +kernel
theorem dN_second_416 : decode bN_second 416 = .ok (.ldc2_w 97, 3) := by decide +kernel
theorem dN_second_419 : decode bN_second 419 = .ok (.dmul, 1) := by decide +kernel
theorem dN_second_420 : decode bN_second 420 = .ok (.dload 10, 2) := by decide +kernel
theorem dN_second_422 : decode bN_second 422 = .ok (.dcmp .g, 1) := by decide +kernel
theorem dN_second_423 : decode bN_second 423 = .ok (.ifCond .ge 16, 3) := by decide +kernel
theorem dN_second_426 : decode bN_second 426 = .ok (.aload_n 0, 1) := by decide +kernel
theorem dN_second_427 : decode bN_second 427 = .ok (.getfield 9, 3) := by decide +kernel
theorem dN_second_430 : decode bN_second 430 = .ok (.iconst 0, 1) := by decide +kernel
theorem dN_second_431 : decode bN_second 431 = .ok (.daload, 1) := by decide +kernel
theorem dN_second_432 : decode bN_second 432 = .ok (.ldc2_w 97, 3) := by decide +kernel
theorem dN_second_435 : decode bN_second 435 = .ok (.dmul, 1) := by decide +kernel
theorem dN_second_436 : decode bN_second 436 = .ok (.goto 5, 3) := by decide +kernel
theorem dN_second_439 : decode bN_second 439 = .ok (.dload 10, 2) := by decide +kernel
theorem dN_second_441 : decode bN_second 441 = .ok (.dstore 10, 2) := by decide +kernel
theorem dN_second_443 : decode bN_second 443 = .ok (.aload_n 0, 1) := by decide +kernel
theorem dN_second_444 : decode bN_second 444 = .ok (.getfield 9, 3) := by decide +kernel
theorem dN_second_447 : decode bN_second 447 = .ok (.bipush 6, 2) := by decide +kernel
theorem dN_second_449 : decode bN_second 449 = .ok (.aload_n 0, 1) := by decide +kernel
theorem dN_second_450 : decode bN_second 450 = .ok (.getfield 9, 3) := by decide +kernel
theorem dN_second_453 : decode bN_second 453 = .ok (.bipush 6, 2) := by decide +kernel
theorem dN_second_455 : decode bN_second 455 = .ok (.daload, 1) := by decide +kernel
theorem dN_second_456 : decode bN_second 456 = .ok (.dload 10, 2) := by decide +kernel
theorem dN_second_458 : decode bN_second 458 = .ok (.dsub, 1) := by decide +kernel
theorem dN_second_459 : decode bN_second 459 = .ok (.dastore, 1) := by decide +kernel
theorem dN_second_460 : decode bN_second 460 = .ok (.aload_n 0, 1) := by decide +kernel
theorem dN_second_461 : decode bN_second 461 = .ok (.getfield 9, 3) := by decide +kernel
theorem dN_second_464 : decode bN_second 464 = .ok (.iconst 3, 1) := by decide +kernel
theorem dN_second_465 : decode bN_second 465 = .ok (.aload_n 0, 1) := by decide +kernel
theorem dN_second_466 : decode bN_second 466 = .ok (.getfield 9, 3) := by decide +kernel
theorem dN_second_469 : decode bN_second 469 = .ok (.iconst 3, 1) := by decide +kernel
theorem dN_second_470 : decode bN_second 470 = .ok (.daload, 1) := by decide +kernel
theorem dN_second_471 : decode bN_second 471 = .ok (.dload 10, 2) := by decide +kernel
theorem dN_second_473 : decode bN_second 473 = .ok (.ldc2_w 99, 3) := by decide +kernel
theorem dN_second_476 : decode bN_second 476 = .ok (.dmul, 1) := by decide +kernel
theorem dN_second_477 : decode bN_second 477 = .ok (.dadd, 1) := by decide +kernel
theorem dN_second_478 : decode bN_second 478 = .ok (.dastore, 1) := by decide +kernel
theorem dN_second_479 : decode bN_second 479 = .ok (.aload_n 0, 1) := by decide +kernel
theorem dN_second_480 : decode bN_second 480 = .ok (.getfield 9, 3) := by decide +kernel
theorem dN_second_483 : decode bN_second 483 = .ok (.iconst 0, 1) := by decide +kernel
theorem dN_second_484 : decode bN_second 484 = .ok (.aload_n 0, 1) := by decide +kernel
theorem dN_second_485 : decode bN_second 485 = .ok (.getfield 9, 3) := by decide +kernel
theorem dN_second_488 : decode bN_second 488 = .ok (.iconst 0, 1) := by decide +kernel
theorem dN_second_489 : decode bN_second 489 = .ok (.daload, 1) := by decide +kernel
theorem dN_second_490 : decode bN_second 490 = .ok (.dload 10, 2) := by decide +kernel
theorem dN_second_492 : decode bN_second 492 = .ok (.ldc2_w 36, 3) := by decide +kernel
theorem dN_second_495 : decode bN_second 495 = .ok (.dmul, 1) := by decide +kernel
theorem dN_second_496 : decode bN_second 496 = .ok (.dsub, 1) := by decide +kernel
theorem dN_second_497 : decode bN_second 497 = .ok (.dastore, 1) := by decide +kernel
theorem dN_second_498 : decode bN_second 498 = .ok (.aload_n 0, 1) := by decide +kernel
theorem dN_second_499 : decode bN_second 499 = .ok (.getfield 9, 3) := by decide +kernel
theorem dN_second_502 : decode bN_second 502 = .ok (.bipush 8, 2) := by decide +kernel
theorem dN_second_504 : decode bN_second 504 = .ok (.daload, 1) := by decide +kernel
theorem dN_second_505 : decode bN_second 505 = .ok (.aload_n 0, 1) := by decide +kernel
theorem dN_second_506 : decode bN_second 506 = .ok (.getfield 27, 3) := by decide +kernel
theorem dN_second_509 : decode bN_second 509 = .ok (.iconst 3, 1) := by decide +kernel
theorem dN_second_510 : decode bN_second 510 = .ok (.daload, 1) := by decide +kernel
theorem dN_second_511 : decode bN_second 511 = .ok (.dmul, 1) := by decide +kernel
theorem dN_second_512 : decode bN_second 512 = .ok (.dstore 12, 2) := by decide +kernel
theorem dN_second_514 : decode bN_second 514 = .ok (.aload_n 0, 1) := by decide +kernel
theorem dN_second_515 : decode bN_second 515 = .ok (.getfield 9, 3) := by decide +kernel
theorem dN_second_518 : decode bN_second 518 = .ok (.bipush 8, 2) := by decide +kernel
theorem dN_second_520 : decode bN_second 520 = .ok (.aload_n 0, 1) := by decide +kernel
theorem dN_second_521 : decode bN_second 521 = .ok (.getfield 9, 3) := by decide +kernel
theorem dN_second_524 : decode bN_second 524 = .ok (.bipush 8, 2) := by decide +kernel
theorem dN_second_526 : decode bN_second 526 = .ok (.daload, 1) := by decide +kernel
theorem dN_second_527 : decode bN_second 527 = .ok (.dload 12, 2) := by decide +kernel
theorem dN_second_529 : decode bN_second 529 = .ok (.dsub, 1) := by decide +kernel
theorem dN_second_530 : decode bN_second 530 = .ok (.dastore, 1) := by decide +kernel
theorem dN_second_531 : decode bN_second 531 = .ok (.aload_n 0, 1) := by decide +kernel
theorem dN_second_532 : decode bN_second 532 = .ok (.getfield 9, 3) := by decide +kernel
theorem dN_second_535 : decode bN_second 535 = .ok (.bipush 7, 2) := by decide +kernel
theorem dN_second_537 : decode bN_second 537 = .ok (.aload_n 0, 1) := by decide +kernel
theorem dN_second_538 : decode bN_second 538 = .ok (.getfield 9, 3) := by decide +kernel
theorem dN_second_541 : decode bN_second 541 = .ok (.bipush 7, 2) := by decide +kernel
theorem dN_second_543 : decode bN_second 543 = .ok (.daload, 1) := by decide +kernel
theorem dN_second_544 : decode bN_second 544 = .ok (.dload 12, 2) := by decide +kernel
theorem dN_second_546 : decode bN_second 546 = .ok (.dadd, 1) := by decide +kernel
theorem dN_second_547 : decode bN_second 547 = .ok (.dastore, 1) := by decide +kernel
theorem dN_second_548 : decode bN_second 548 = .ok (.iconst 0, 1) := by decide +kernel
theorem dN_second_549 : decode bN_second 549 = .ok (.istore 14, 2) := by decide +kernel
theorem dN_second_551 : decode bN_second 551 = .ok (.iload 14, 2) := by decide +kernel
theorem dN_second_553 : decode bN_second 553 = .ok (.iconst 4, 1) := by decide +kernel
theorem dN_second_554 : decode bN_second 554 = .ok (.if_icmp .ge 49, 3) := by decide +kernel
theorem dN_second_557 : decode bN_second 557 = .ok (.aload_n 0, 1) := by decide +kernel
theorem dN_second_558 : decode bN_second 558 = .ok (.getfield 9, 3) := by decide +kernel
theorem dN_second_561 : decode bN_second 561 = .ok (.bipush 9, 2) := by decide +kernel
theorem dN_second_563 : decode bN_second 563 = .ok (.iload 14, 2) := by decide +kernel
theorem dN_second_565 : decode bN_second 565 = .ok (.iadd, 1) := by decide +kernel
theorem dN_second_566 : decode bN_second 566 = .ok (.aload_n 0, 1) := by decide +kernel
theorem dN_second_567 : decode bN_second 567 = .ok (.getfield 9, 3) := by decide +kernel
theorem dN_second_570 : decode bN_second 570 = .ok (.bipush 9, 2) := by decide +kernel
theorem dN_second_572 : decode bN_second 572 = .ok (.iload 14, 2) := by decide +kernel
theorem dN_second_574 : decode bN_second 574 = .ok (.iadd, 1) := by decide +kernel
theorem dN_second_575 : decode bN_second 575 = .ok (.daload, 1) := by decide +kernel
theorem dN_second_576 : decode bN_second 576 = .ok (.aload_n 0, 1) := by decide +kernel
theorem dN_second_577 : decode bN_second 577 = .ok (.getfield 9, 3) := by decide +kernel
theorem dN_second_580 : decode bN_second 580 = .ok (.bipush 9, 2) := by decide +kernel
theorem dN_second_582 : decode bN_second 582 = .ok (.iload 14, 2) := by decide +kernel
theorem dN_second_584 : decode bN_second 584 = .ok (.iadd, 1) := by decide +kernel
theorem dN_second_585 : decode bN_second 585 = .ok (.daload, 1) := by decide +kernel
theorem dN_second_586 : decode bN_second 586 = .ok (.aload_n 0, 1) := by decide +kernel
theorem dN_second_587 : decode bN_second 587 = .ok (.iconst 5, 1) := by decide +kernel
theorem dN_second_588 : decode bN_second 588 = .ok (.iload 14, 2) := by decide +kernel
theorem dN_second_590 : decode bN_second 590 = .ok (.iadd, 1) := by decide +kernel
theorem dN_second_591 : decode bN_second 591 = .ok (.invokevirtual 91, 3) := by decide +kernel
theorem dN_second_594 : decode bN_second 594 = .ok (.dmul, 1) := by decide +kernel
theorem dN_second_595 : decode bN_second 595 = .ok (.dsub, 1) := by decide +kernel
theorem dN_second_596 : decode bN_second 596 = .ok (.dastore, 1) := by decide +kernel
theorem dN_second_597 : decode bN_second 597 = .ok (.iinc 14 1, 3) := by decide +kernel
theorem dN_second_600 : decode bN_second 600 = .ok (.goto (-49), 3) := by decide +kernel
theorem dN_second_603 : decode bN_second 603 = .ok (.aload_n 0, 1) := by decide +kernel
theorem dN_second_604 : decode bN_second 604 = .ok (.dup, 1) := by decide +kernel
theorem dN_second_605 : decode bN_second 605 = .ok (.getfield 71, 3) := by decide +kernel
theorem dN_second_608 : decode bN_second 608 = .ok (.iconst 1, 1) := by decide +kernel
theorem dN_second_609 : decode bN_second 609 = .ok (.iadd, 1) := by decide +kernel
theorem dN_second_610 : decode bN_second 610 = .ok (.putfield 71, 3) := by decide +kernel
theorem dN_second_613 : decode bN_second 613 = .ok (.return_, 1) := by decide +kernel
theorem dN_isEmpty_0 : decode bN_isEmpty 0 = .ok (.aload_n 0, 1) := by decide +kernel
theorem dN_isEmpty_1 : decode bN_isEmpty 1 = .ok (.getfield 50, 3) := by decide +kernel
theorem dN_isEmpty_4 : decode bN_isEmpty 4 = .ok (.ifCond .eq 10, 3) := by decide +kernel
theorem dN_isEmpty_7 : decode bN_isEmpty 7 = .ok (.aload_n 0, 1) := by decide +kernel
theorem dN_isEmpty_8 : decode bN_isEmpty 8 = .ok (.getfield 68, 3) := by decide +kernel
theorem dN_isEmpty_11 : decode bN_isEmpty 11 = .ok (.ifCond .ne 7, 3) := by decide +kernel
theorem dN_isEmpty_14 : decode bN_isEmpty 14 = .ok (.iconst 1, 1) := by decide +kernel
theorem dN_isEmpty_15 : decode bN_isEmpty 15 = .ok (.goto 4, 3) := by decide +kernel
theorem dN_isEmpty_18 : decode bN_isEmpty 18 = .ok (.iconst 0, 1) := by decide +kernel
theorem dN_isEmpty_19 : decode bN_isEmpty 19 = .ok (.ireturn, 1) := by decide +kernel
theorem dN_run_0 : decode bN_run 0 = .ok (.aload_n 0, 1) := by decide +kernel
theorem dN_run_1 : decode bN_run 1 = .ok (.invokevirtual 101, 3) := by decide +kernel
theorem dN_run_4 : decode bN_run 4 = .ok (.ifCond .ne 24, 3) := by decide +kernel
theorem dN_run_7 : decode bN_run 7 = .ok (.iload_n 1, 1) := by decide +kernel
theorem dN_run_8 : decode bN_run 8 = .ok (.ifCond .lt 20, 3) := by decide +kernel
theorem dN_run_11 : decode bN_run 11 = .ok (.iload_n 1, 1) := by decide +kernel
theorem dN_run_12 : decode bN_run 12 = .ok (.ldc 105, 2) := by decide +kernel
theorem dN_run_14 : decode bN_run 14 = .ok (.if_icmp .gt 14, 3) := by decide +kernel
theorem dN_run_17 : decode bN_run 17 = .ok (.iload_n 1, 1) := by decide +kernel
theorem dN_run_18 : decode bN_run 18 = .ok (.ldc 78, 2) := by decide +kernel
theorem dN_run_20 : decode bN_run 20 = .ok (.aload_n 0, 1) := by decide +kernel
theorem dN_run_21 : decode bN_run 21 = .ok (.getfield 71, 3) := by decide +kernel
theorem dN_run_24 : decode bN_run 24 = .ok (.isub, 1) := by decide +kernel
theorem dN_run_25 : decode bN_run 25 = .ok (.if_icmp .le 5, 3) := by decide +kernel
theorem dN_run_28 : decode bN_run 28 = .ok (.iconst (-1), 1) := by decide +kernel
theorem dN_run_29 : decode bN_run 29 = .ok (.ireturn, 1) := by decide +kernel
theorem dN_run_30 : decode bN_run 30 = .ok (.iconst 0, 1) := by decide +kernel
theorem dN_run_31 : decode bN_run 31 = .ok (.istore_n 2, 1) := by decide +kernel
theorem dN_run_32 : decode bN_run 32 = .ok (.iload_n 2, 1) := by decide +kernel
theorem dN_run_33 : decode bN_run 33 = .ok (.iload_n 1, 1) := by decide +kernel
theorem dN_run_34 : decode bN_run 34 = .ok (.if_icmp .ge 13, 3) := by decide +kernel
theorem dN_run_37 : decode bN_run 37 = .ok (.aload_n 0, 1) := by decide +kernel
theorem dN_run_38 : decode bN_run 38 = .ok (.invokevirtual 106, 3) := by decide +kernel
theorem dN_run_41 : decode bN_run 41 = .ok (.iinc 2 1, 3) := by decide +kernel
theorem dN_run_44 : decode bN_run 44 = .ok (.goto (-12), 3) := by decide +kernel
theorem dN_run_47 : decode bN_run 47 = .ok (.aload_n 0, 1) := by decide +kernel
theorem dN_run_48 : decode bN_run 48 = .ok (.getfield 71, 3) := by decide +kernel
theorem dN_run_51 : decode bN_run 51 = .ok (.ireturn, 1) := by decide +kernel
theorem dN_sugar_0 : decode bN_sugar 0 = .ok (.iload_n 1, 1) := by decide +kernel
theorem dN_sugar_1 : decode bN_sugar 1 = .ok (.ifCond .lt 8, 3) := by decide +kernel
theorem dN_sugar_4 : decode bN_sugar 4 = .ok (.iload_n 1, 1) := by decide +kernel
theorem dN_sugar_5 : decode bN_sugar 5 = .ok (.iconst 4, 1) := by decide +kernel
theorem dN_sugar_6 : decode bN_sugar 6 = .ok (.if_icmp .le 9, 3) := by decide +kernel
theorem dN_sugar_9 : decode bN_sugar 9 = .ok (.ldc2_w 109, 3) := by decide +kernel
theorem dN_sugar_12 : decode bN_sugar 12 = .ok (.goto 11, 3) := by decide +kernel
theorem dN_sugar_15 : decode bN_sugar 15 = .ok (.aload_n 0, 1) := by decide +kernel
theorem dN_sugar_16 : decode bN_sugar 16 = .ok (.getfield 9, 3) := by decide +kernel
theorem dN_sugar_19 : decode bN_sugar 19 = .ok (.iconst 3, 1) := by decide +kernel
theorem dN_sugar_20 : decode bN_sugar 20 = .ok (.iload_n 1, 1) := by decide +kernel
theorem dN_sugar_21 : decode bN_sugar 21 = .ok (.iadd, 1) := by decide +kernel
theorem dN_sugar_22 : decode bN_sugar 22 = .ok (.daload, 1) := by decide +kernel
theorem dN_sugar_23 : decode bN_sugar 23 = .ok (.dreturn, 1) := by decide +kernel
theorem dN_starch_0 : decode bN_starch 0 = .ok (.aload_n 0, 1) := by decide +kernel
theorem dN_starch_1 : decode bN_starch 1 = .ok (.getfield 9, 3) := by decide +kernel
theorem dN_starch_4 : decode bN_starch 4 = .ok (.iconst 1, 1) := by decide +kernel
theorem dN_starch_5 : decode bN_starch 5 = .ok (.daload, 1) := by decide +kernel
theorem dN_starch_6 : decode bN_starch 6 = .ok (.aload_n 0, 1) := by decide +kernel
theorem dN_starch_7 : decode bN_starch 7 = .ok (.getfield 9, 3) := by decide +kernel
theorem dN_starch_10 : decode bN_starch 10 = .ok (.iconst 2, 1) := by decide +kernel
theorem dN_starch_11 : decode bN_starch 11 = .ok (.daload, 1) := by decide +kernel
theorem dN_starch_12 : decode bN_starch 12 = .ok (.dadd, 1) := by decide +kernel
theorem dN_starch_13 : decode bN_starch 13 = .ok (.dreturn, 1) := by decide +kernel
theorem dN_enzymeLeft_0 : decode bN_enzymeLeft 0 = .ok (.iload_n 1, 1) := by decide +kernel
theorem dN_enzymeLeft_1 : decode bN_enzymeLeft 1 = .ok (.ifCond .lt 8, 3) := by decide +kernel
theorem dN_enzymeLeft_4 : decode bN_enzymeLeft 4 = .ok (.iload_n 1, 1) := by decide +kernel
theorem dN_enzymeLeft_5 : decode bN_enzymeLeft 5 = .ok (.iconst 3, 1) := by decide +kernel
theorem dN_enzymeLeft_6 : decode bN_enzymeLeft 6 = .ok (.if_icmp .le 9, 3) := by decide +kernel
theorem dN_enzymeLeft_9 : decode bN_enzymeLeft 9 = .ok (.ldc2_w 109, 3) := by decide +kernel
theorem dN_enzymeLeft_12 : decode bN_enzymeLeft 12 = .ok (.goto 12, 3) := by decide +kernel
theorem dN_enzymeLeft_15 : decode bN_enzymeLeft 15 = .ok (.aload_n 0, 1) := by decide +kernel
theorem dN_enzymeLeft_16 : decode bN_enzymeLeft 16 = .ok (.getfield 9, 3) := by decide +kernel
theorem dN_enzymeLeft_19 : decode bN_enzymeLeft 19 = .ok (.bipush 9, 2) := by decide +kernel
theorem dN_enzymeLeft_21 : decode bN_enzymeLeft 21 = .ok (.iload_n 1, 1) := by decide +kernel
theorem dN_enzymeLeft_22 : decode bN_enzymeLeft 22 = .ok (.iadd, 1) := by decide +kernel
theorem dN_enzymeLeft_23 : decode bN_enzymeLeft 23 = .ok (.daload, 1) := by decide +kernel
theorem dN_enzymeLeft_24 : decode bN_enzymeLeft 24 = .ok (.dreturn, 1) := by decide +kernel
theorem dN_degrees_0 : decode bN_degrees 0 = .ok (.aload_n 0, 1) := by decide +kernel
theorem dN_degrees_1 : decode bN_degrees 1 = .ok (.getfield 62, 3) := by decide +kernel
theorem dN_degrees_4 : decode bN_degrees 4 = .ok (.dreturn, 1) := by decide +kernel
theorem dN_take_0 : decode bN_take 0 = .ok (.dload_n 1, 1) := by decide +kernel
theorem dN_take_1 : decode bN_take 1 = .ok (.dconst 0, 1) := by decide +kernel
theorem dN_take_2 : decode bN_take 2 = .ok (.dcmp .l, 1) := by decide +kernel
theorem dN_take_3 : decode bN_take 3 = .ok (.ifCond .le 16, 3) := by decide +kernel
theorem dN_take_6 : decode bN_take 6 = .ok (.dload_n 1, 1) := by decide +kernel
theorem dN_take_7 : decode bN_take 7 = .ok (.dconst 1, 1) := by decide +kernel
theorem dN_take_8 : decode bN_take 8 = .ok (.dcmp .l, 1) := by decide +kernel
theorem dN_take_9 : decode bN_take 9 = .ok (.ifCond .ge 10, 3) := by decide +kernel
theorem dN_take_12 : decode bN_take 12 = .ok (.aload_n 0, 1) := by decide +kernel
theorem dN_take_13 : decode bN_take 13 = .ok (.invokevirtual 101, 3) := by decide +kernel
theorem dN_take_16 : decode bN_take 16 = .ok (.ifCond .eq 5, 3) := by decide +kernel
theorem dN_take_19 : decode bN_take 19 = .ok (.iconst (-1), 1) := by decide +kernel
theorem dN_take_20 : decode bN_take 20 = .ok (.ireturn, 1) := by decide +kernel
theorem dN_take_21 : decode bN_take 21 = .ok (.aload_n 0, 1) := by decide +kernel
theorem dN_take_22 : decode bN_take 22 = .ok (.getfield 111, 3) := by decide +kernel
theorem dN_take_25 : decode bN_take 25 = .ok (.bipush 8, 2) := by decide +kernel
theorem dN_take_27 : decode bN_take 27 = .ok (.if_icmp .ne 6, 3) := by decide +kernel
theorem dN_take_30 : decode bN_take 30 = .ok (.bipush (-2), 2) := by decide +kernel
theorem dN_take_32 : decode bN_take 32 = .ok (.ireturn, 1) := by decide +kernel
theorem dN_take_33 : decode bN_take 33 = .ok (.iconst 0, 1) := by decide +kernel
theorem dN_take_34 : decode bN_take 34 = .ok (.istore_n 3, 1) := by decide +kernel
theorem dN_take_35 : decode bN_take 35 = .ok (.iload_n 3, 1) := by decide +kernel
