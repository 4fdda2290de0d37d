abbrev y_XL_value : MethodName := ⟨"VirtualRewriteLaw", "value", "(LVirtualRewrite;II[J)I"⟩
theorem d_XL_value_0 : decode method_3_code 0 = .ok (.aload_n 3, 1) := by decide +kernel
theorem d_XL_value_1 : decode method_3_code 1 = .ok (.iconst 0, 1) := by decide +kernel
theorem d_XL_value_2 : decode method_3_code 2 = .ok (.aload_n 0, 1) := by decide +kernel
theorem d_XL_value_3 : decode method_3_code 3 = .ok (.iload_n 1, 1) := by decide +kernel
theorem d_XL_value_4 : decode method_3_code 4 = .ok (.iload_n 2, 1) := by decide +kernel
theorem d_XL_value_5 : decode method_3_code 5 = .ok (.invokevirtual 7, 3) := by decide +kernel
theorem d_XL_value_8 : decode method_3_code 8 = .ok (.i2l, 1) := by decide +kernel
theorem d_XL_value_9 : decode method_3_code 9 = .ok (.lastore, 1) := by decide +kernel
theorem d_XL_value_10 : decode method_3_code 10 = .ok (.goto 7, 3) := by decide +kernel
theorem d_XL_value_13 : decode method_3_code 13 = .ok (.astore 4, 2) := by decide +kernel
theorem d_XL_value_15 : decode method_3_code 15 = .ok (.iconst 1, 1) := by decide +kernel
theorem d_XL_value_16 : decode method_3_code 16 = .ok (.ireturn, 1) := by decide +kernel
theorem d_XL_value_17 : decode method_3_code 17 = .ok (.iconst 0, 1) := by decide +kernel
theorem d_XL_value_18 : decode method_3_code 18 = .ok (.ireturn, 1) := by decide +kernel
theorem d_law_0 : decode code 0 = .ok (.new 8, 3) := by decide +kernel
theorem d_law_3 : decode code 3 = .ok (.dup, 1) := by decide +kernel
theorem d_law_4 : decode code 4 = .ok (.invokespecial 15, 3) := by decide +kernel
theorem d_law_7 : decode code 7 = .ok (.astore_n 1, 1) := by decide +kernel
theorem d_law_8 : decode code 8 = .ok (.new 16, 3) := by decide +kernel
theorem d_law_11 : decode code 11 = .ok (.dup, 1) := by decide +kernel
theorem d_law_12 : decode code 12 = .ok (.invokespecial 18, 3) := by decide +kernel
theorem d_law_15 : decode code 15 = .ok (.astore_n 2, 1) := by decide +kernel
theorem d_law_16 : decode code 16 = .ok (.iconst 1, 1) := by decide +kernel
theorem d_law_17 : decode code 17 = .ok (.newarray .long, 2) := by decide +kernel
theorem d_law_19 : decode code 19 = .ok (.astore_n 3, 1) := by decide +kernel
theorem d_law_20 : decode code 20 = .ok (.iconst 0, 1) := by decide +kernel
theorem d_law_21 : decode code 21 = .ok (.istore 4, 2) := by decide +kernel
theorem d_law_23 : decode code 23 = .ok (.iload 4, 2) := by decide +kernel
theorem d_law_25 : decode code 25 = .ok (.aload_n 0, 1) := by decide +kernel
theorem d_law_26 : decode code 26 = .ok (.arraylength, 1) := by decide +kernel
theorem d_law_27 : decode code 27 = .ok (.bipush 7, 2) := by decide +kernel
theorem d_law_29 : decode code 29 = .ok (.isub, 1) := by decide +kernel
theorem d_law_30 : decode code 30 = .ok (.if_icmp .gt 655, 3) := by decide +kernel
theorem d_law_33 : decode code 33 = .ok (.aload_n 0, 1) := by decide +kernel
theorem d_law_34 : decode code 34 = .ok (.iload 4, 2) := by decide +kernel
theorem d_law_36 : decode code 36 = .ok (.iaload, 1) := by decide +kernel
theorem d_law_37 : decode code 37 = .ok (.bipush 15, 2) := by decide +kernel
theorem d_law_39 : decode code 39 = .ok (.iand, 1) := by decide +kernel
theorem d_law_40 : decode code 40 = .ok (.tableswitch 639 0 13 #[72, 137, 198, 235, 322, 335, 384, 433, 446, 459, 496, 521, 534, 602], 72) := by decide +kernel
theorem d_law_112 : decode code 112 = .ok (.aload_n 1, 1) := by decide +kernel
theorem d_law_113 : decode code 113 = .ok (.aload_n 0, 1) := by decide +kernel
theorem d_law_114 : decode code 114 = .ok (.iload 4, 2) := by decide +kernel
theorem d_law_116 : decode code 116 = .ok (.iconst 1, 1) := by decide +kernel
theorem d_law_117 : decode code 117 = .ok (.iadd, 1) := by decide +kernel
theorem d_law_118 : decode code 118 = .ok (.iaload, 1) := by decide +kernel
theorem d_law_119 : decode code 119 = .ok (.aload_n 0, 1) := by decide +kernel
theorem d_law_120 : decode code 120 = .ok (.iload 4, 2) := by decide +kernel
theorem d_law_122 : decode code 122 = .ok (.iconst 2, 1) := by decide +kernel
theorem d_law_123 : decode code 123 = .ok (.iadd, 1) := by decide +kernel
theorem d_law_124 : decode code 124 = .ok (.iaload, 1) := by decide +kernel
theorem d_law_125 : decode code 125 = .ok (.aload_n 0, 1) := by decide +kernel
theorem d_law_126 : decode code 126 = .ok (.iload 4, 2) := by decide +kernel
theorem d_law_128 : decode code 128 = .ok (.iconst 3, 1) := by decide +kernel
theorem d_law_129 : decode code 129 = .ok (.iadd, 1) := by decide +kernel
theorem d_law_130 : decode code 130 = .ok (.iaload, 1) := by decide +kernel
theorem d_law_131 : decode code 131 = .ok (.ifCond .eq 7, 3) := by decide +kernel
theorem d_law_134 : decode code 134 = .ok (.iconst 1, 1) := by decide +kernel
theorem d_law_135 : decode code 135 = .ok (.goto 4, 3) := by decide +kernel
theorem d_law_138 : decode code 138 = .ok (.iconst 0, 1) := by decide +kernel
theorem d_law_139 : decode code 139 = .ok (.invokevirtual 19, 3) := by decide +kernel
theorem d_law_142 : decode code 142 = .ok (.pop, 1) := by decide +kernel
theorem d_law_143 : decode code 143 = .ok (.aload_n 2, 1) := by decide +kernel
theorem d_law_144 : decode code 144 = .ok (.aload_n 0, 1) := by decide +kernel
theorem d_law_145 : decode code 145 = .ok (.iload 4, 2) := by decide +kernel
theorem d_law_147 : decode code 147 = .ok (.iconst 1, 1) := by decide +kernel
theorem d_law_148 : decode code 148 = .ok (.iadd, 1) := by decide +kernel
theorem d_law_149 : decode code 149 = .ok (.iaload, 1) := by decide +kernel
theorem d_law_150 : decode code 150 = .ok (.aload_n 0, 1) := by decide +kernel
theorem d_law_151 : decode code 151 = .ok (.iload 4, 2) := by decide +kernel
theorem d_law_153 : decode code 153 = .ok (.iconst 2, 1) := by decide +kernel
theorem d_law_154 : decode code 154 = .ok (.iadd, 1) := by decide +kernel
theorem d_law_155 : decode code 155 = .ok (.iaload, 1) := by decide +kernel
theorem d_law_156 : decode code 156 = .ok (.aload_n 0, 1) := by decide +kernel
theorem d_law_157 : decode code 157 = .ok (.iload 4, 2) := by decide +kernel
theorem d_law_159 : decode code 159 = .ok (.iconst 3, 1) := by decide +kernel
theorem d_law_160 : decode code 160 = .ok (.iadd, 1) := by decide +kernel
theorem d_law_161 : decode code 161 = .ok (.iaload, 1) := by decide +kernel
theorem d_law_162 : decode code 162 = .ok (.ifCond .eq 7, 3) := by decide +kernel
theorem d_law_165 : decode code 165 = .ok (.iconst 1, 1) := by decide +kernel
theorem d_law_166 : decode code 166 = .ok (.goto 4, 3) := by decide +kernel
theorem d_law_169 : decode code 169 = .ok (.iconst 0, 1) := by decide +kernel
theorem d_law_170 : decode code 170 = .ok (.invokevirtual 23, 3) := by decide +kernel
theorem d_law_173 : decode code 173 = .ok (.pop, 1) := by decide +kernel
theorem d_law_174 : decode code 174 = .ok (.goto 505, 3) := by decide +kernel
theorem d_law_177 : decode code 177 = .ok (.aload_n 1, 1) := by decide +kernel
theorem d_law_178 : decode code 178 = .ok (.aload_n 0, 1) := by decide +kernel
theorem d_law_179 : decode code 179 = .ok (.iload 4, 2) := by decide +kernel
theorem d_law_181 : decode code 181 = .ok (.iconst 1, 1) := by decide +kernel
theorem d_law_182 : decode code 182 = .ok (.iadd, 1) := by decide +kernel
theorem d_law_183 : decode code 183 = .ok (.iaload, 1) := by decide +kernel
theorem d_law_184 : decode code 184 = .ok (.aload_n 0, 1) := by decide +kernel
theorem d_law_185 : decode code 185 = .ok (.iload 4, 2) := by decide +kernel
theorem d_law_187 : decode code 187 = .ok (.iconst 2, 1) := by decide +kernel
theorem d_law_188 : decode code 188 = .ok (.iadd, 1) := by decide +kernel
theorem d_law_189 : decode code 189 = .ok (.iaload, 1) := by decide +kernel
theorem d_law_190 : decode code 190 = .ok (.aload_n 0, 1) := by decide +kernel
theorem d_law_191 : decode code 191 = .ok (.iload 4, 2) := by decide +kernel
theorem d_law_193 : decode code 193 = .ok (.iconst 3, 1) := by decide +kernel
theorem d_law_194 : decode code 194 = .ok (.iadd, 1) := by decide +kernel
theorem d_law_195 : decode code 195 = .ok (.iaload, 1) := by decide +kernel
theorem d_law_196 : decode code 196 = .ok (.aload_n 0, 1) := by decide +kernel
theorem d_law_197 : decode code 197 = .ok (.iload 4, 2) := by decide +kernel
theorem d_law_199 : decode code 199 = .ok (.iconst 4, 1) := by decide +kernel
theorem d_law_200 : decode code 200 = .ok (.iadd, 1) := by decide +kernel
theorem d_law_201 : decode code 201 = .ok (.iaload, 1) := by decide +kernel
theorem d_law_202 : decode code 202 = .ok (.invokevirtual 24, 3) := by decide +kernel
theorem d_law_205 : decode code 205 = .ok (.pop, 1) := by decide +kernel
theorem d_law_206 : decode code 206 = .ok (.aload_n 2, 1) := by decide +kernel
theorem d_law_207 : decode code 207 = .ok (.aload_n 0, 1) := by decide +kernel
theorem d_law_208 : decode code 208 = .ok (.iload 4, 2) := by decide +kernel
theorem d_law_210 : decode code 210 = .ok (.iconst 1, 1) := by decide +kernel
theorem d_law_211 : decode code 211 = .ok (.iadd, 1) := by decide +kernel
theorem d_law_212 : decode code 212 = .ok (.iaload, 1) := by decide +kernel
theorem d_law_213 : decode code 213 = .ok (.aload_n 0, 1) := by decide +kernel
theorem d_law_214 : decode code 214 = .ok (.iload 4, 2) := by decide +kernel
theorem d_law_216 : decode code 216 = .ok (.iconst 2, 1) := by decide +kernel
theorem d_law_217 : decode code 217 = .ok (.iadd, 1) := by decide +kernel
theorem d_law_218 : decode code 218 = .ok (.iaload, 1) := by decide +kernel
theorem d_law_219 : decode code 219 = .ok (.aload_n 0, 1) := by decide +kernel
theorem d_law_220 : decode code 220 = .ok (.iload 4, 2) := by decide +kernel
theorem d_law_222 : decode code 222 = .ok (.iconst 3, 1) := by decide +kernel
theorem d_law_223 : decode code 223 = .ok (.iadd, 1) := by decide +kernel
theorem d_law_224 : decode code 224 = .ok (.iaload, 1) := by decide +kernel
theorem d_law_225 : decode code 225 = .ok (.aload_n 0, 1) := by decide +kernel
theorem d_law_226 : decode code 226 = .ok (.iload 4, 2) := by decide +kernel
theorem d_law_228 : decode code 228 = .ok (.iconst 4, 1) := by decide +kernel
theorem d_law_229 : decode code 229 = .ok (.iadd, 1) := by decide +kernel
theorem d_law_230 : decode code 230 = .ok (.iaload, 1) := by decide +kernel
theorem d_law_231 : decode code 231 = .ok (.invokevirtual 28, 3) := by decide +kernel
theorem d_law_234 : decode code 234 = .ok (.pop, 1) := by decide +kernel
theorem d_law_235 : decode code 235 = .ok (.goto 444, 3) := by decide +kernel
theorem d_law_238 : decode code 238 = .ok (.aload_n 1, 1) := by decide +kernel
theorem d_law_239 : decode code 239 = .ok (.aload_n 0, 1) := by decide +kernel
theorem d_law_240 : decode code 240 = .ok (.iload 4, 2) := by decide +kernel
theorem d_law_242 : decode code 242 = .ok (.iconst 1, 1) := by decide +kernel
theorem d_law_243 : decode code 243 = .ok (.iadd, 1) := by decide +kernel
theorem d_law_244 : decode code 244 = .ok (.iaload, 1) := by decide +kernel
theorem d_law_245 : decode code 245 = .ok (.aload_n 0, 1) := by decide +kernel
theorem d_law_246 : decode code 246 = .ok (.iload 4, 2) := by decide +kernel
theorem d_law_248 : decode code 248 = .ok (.iconst 2, 1) := by decide +kernel
theorem d_law_249 : decode code 249 = .ok (.iadd, 1) := by decide +kernel
theorem d_law_250 : decode code 250 = .ok (.iaload, 1) := by decide +kernel
theorem d_law_251 : decode code 251 = .ok (.invokevirtual 29, 3) := by decide +kernel
theorem d_law_254 : decode code 254 = .ok (.pop, 1) := by decide +kernel
theorem d_law_255 : decode code 255 = .ok (.aload_n 2, 1) := by decide +kernel
theorem d_law_256 : decode code 256 = .ok (.aload_n 0, 1) := by decide +kernel
theorem d_law_257 : decode code 257 = .ok (.iload 4, 2) := by decide +kernel
theorem d_law_259 : decode code 259 = .ok (.iconst 1, 1) := by decide +kernel
theorem d_law_260 : decode code 260 = .ok (.iadd, 1) := by decide +kernel
theorem d_law_261 : decode code 261 = .ok (.iaload, 1) := by decide +kernel
theorem d_law_262 : decode code 262 = .ok (.aload_n 0, 1) := by decide +kernel
theorem d_law_263 : decode code 263 = .ok (.iload 4, 2) := by decide +kernel
theorem d_law_265 : decode code 265 = .ok (.iconst 2, 1) := by decide +kernel
theorem d_law_266 : decode code 266 = .ok (.iadd, 1) := by decide +kernel
theorem d_law_267 : decode code 267 = .ok (.iaload, 1) := by decide +kernel
theorem d_law_268 : decode code 268 = .ok (.invokevirtual 32, 3) := by decide +kernel
theorem d_law_271 : decode code 271 = .ok (.pop, 1) := by decide +kernel
theorem d_law_272 : decode code 272 = .ok (.goto 407, 3) := by decide +kernel
theorem d_law_275 : decode code 275 = .ok (.aload_n 1, 1) := by decide +kernel
theorem d_law_276 : decode code 276 = .ok (.aload_n 0, 1) := by decide +kernel
theorem d_law_277 : decode code 277 = .ok (.iload 4, 2) := by decide +kernel
theorem d_law_279 : decode code 279 = .ok (.iconst 1, 1) := by decide +kernel
theorem d_law_280 : decode code 280 = .ok (.iadd, 1) := by decide +kernel
theorem d_law_281 : decode code 281 = .ok (.iaload, 1) := by decide +kernel
theorem d_law_282 : decode code 282 = .ok (.aload_n 0, 1) := by decide +kernel
theorem d_law_283 : decode code 283 = .ok (.iload 4, 2) := by decide +kernel
theorem d_law_285 : decode code 285 = .ok (.iconst 2, 1) := by decide +kernel
theorem d_law_286 : decode code 286 = .ok (.iadd, 1) := by decide +kernel
theorem d_law_287 : decode code 287 = .ok (.iaload, 1) := by decide +kernel
theorem d_law_288 : decode code 288 = .ok (.aload_n 0, 1) := by decide +kernel
theorem d_law_289 : decode code 289 = .ok (.iload 4, 2) := by decide +kernel
theorem d_law_291 : decode code 291 = .ok (.iconst 3, 1) := by decide +kernel
theorem d_law_292 : decode code 292 = .ok (.iadd, 1) := by decide +kernel
theorem d_law_293 : decode code 293 = .ok (.iaload, 1) := by decide +kernel
theorem d_law_294 : decode code 294 = .ok (.aload_n 0, 1) := by decide +kernel
theorem d_law_295 : decode code 295 = .ok (.iload 4, 2) := by decide +kernel
theorem d_law_297 : decode code 297 = .ok (.iconst 4, 1) := by decide +kernel
theorem d_law_298 : decode code 298 = .ok (.iadd, 1) := by decide +kernel
theorem d_law_299 : decode code 299 = .ok (.iaload, 1) := by decide +kernel
theorem d_law_300 : decode code 300 = .ok (.aload_n 0, 1) := by decide +kernel
theorem d_law_301 : decode code 301 = .ok (.iload 4, 2) := by decide +kernel
theorem d_law_303 : decode code 303 = .ok (.iconst 5, 1) := by decide +kernel
theorem d_law_304 : decode code 304 = .ok (.iadd, 1) := by decide +kernel
theorem d_law_305 : decode code 305 = .ok (.iaload, 1) := by decide +kernel
theorem d_law_306 : decode code 306 = .ok (.aload_n 0, 1) := by decide +kernel
theorem d_law_307 : decode code 307 = .ok (.iload 4, 2) := by decide +kernel
theorem d_law_309 : decode code 309 = .ok (.bipush 6, 2) := by decide +kernel
theorem d_law_311 : decode code 311 = .ok (.iadd, 1) := by decide +kernel
theorem d_law_312 : decode code 312 = .ok (.iaload, 1) := by decide +kernel
theorem d_law_313 : decode code 313 = .ok (.invokevirtual 33, 3) := by decide +kernel
theorem d_law_316 : decode code 316 = .ok (.pop, 1) := by decide +kernel
theorem d_law_317 : decode code 317 = .ok (.aload_n 2, 1) := by decide +kernel
theorem d_law_318 : decode code 318 = .ok (.aload_n 0, 1) := by decide +kernel
theorem d_law_319 : decode code 319 = .ok (.iload 4, 2) := by decide +kernel
theorem d_law_321 : decode code 321 = .ok (.iconst 1, 1) := by decide +kernel
theorem d_law_322 : decode code 322 = .ok (.iadd, 1) := by decide +kernel
theorem d_law_323 : decode code 323 = .ok (.iaload, 1) := by decide +kernel
theorem d_law_324 : decode code 324 = .ok (.aload_n 0, 1) := by decide +kernel
theorem d_law_325 : decode code 325 = .ok (.iload 4, 2) := by decide +kernel
theorem d_law_327 : decode code 327 = .ok (.iconst 2, 1) := by decide +kernel
theorem d_law_328 : decode code 328 = .ok (.iadd, 1) := by decide +kernel
theorem d_law_329 : decode code 329 = .ok (.iaload, 1) := by decide +kernel
theorem d_law_330 : decode code 330 = .ok (.aload_n 0, 1) := by decide +kernel
theorem d_law_331 : decode code 331 = .ok (.iload 4, 2) := by decide +kernel
theorem d_law_333 : decode code 333 = .ok (.iconst 3, 1) := by decide +kernel
theorem d_law_334 : decode code 334 = .ok (.iadd, 1) := by decide +kernel
theorem d_law_335 : decode code 335 = .ok (.iaload, 1) := by decide +kernel
theorem d_law_336 : decode code 336 = .ok (.aload_n 0, 1) := by decide +kernel
theorem d_law_337 : decode code 337 = .ok (.iload 4, 2) := by decide +kernel
theorem d_law_339 : decode code 339 = .ok (.iconst 4, 1) := by decide +kernel
theorem d_law_340 : decode code 340 = .ok (.iadd, 1) := by decide +kernel
theorem d_law_341 : decode code 341 = .ok (.iaload, 1) := by decide +kernel
theorem d_law_342 : decode code 342 = .ok (.aload_n 0, 1) := by decide +kernel
theorem d_law_343 : decode code 343 = .ok (.iload 4, 2) := by decide +kernel
theorem d_law_345 : decode code 345 = .ok (.iconst 5, 1) := by decide +kernel
theorem d_law_346 : decode code 346 = .ok (.iadd, 1) := by decide +kernel
theorem d_law_347 : decode code 347 = .ok (.iaload, 1) := by decide +kernel
theorem d_law_348 : decode code 348 = .ok (.aload_n 0, 1) := by decide +kernel
theorem d_law_349 : decode code 349 = .ok (.iload 4, 2) := by decide +kernel
theorem d_law_351 : decode code 351 = .ok (.bipush 6, 2) := by decide +kernel
theorem d_law_353 : decode code 353 = .ok (.iadd, 1) := by decide +kernel
theorem d_law_354 : decode code 354 = .ok (.iaload, 1) := by decide +kernel
theorem d_law_355 : decode code 355 = .ok (.invokevirtual 37, 3) := by decide +kernel
theorem d_law_358 : decode code 358 = .ok (.pop, 1) := by decide +kernel
theorem d_law_359 : decode code 359 = .ok (.goto 320, 3) := by decide +kernel
theorem d_law_362 : decode code 362 = .ok (.aload_n 1, 1) := by decide +kernel
theorem d_law_363 : decode code 363 = .ok (.invokevirtual 38, 3) := by decide +kernel
theorem d_law_366 : decode code 366 = .ok (.pop, 1) := by decide +kernel
theorem d_law_367 : decode code 367 = .ok (.aload_n 2, 1) := by decide +kernel
theorem d_law_368 : decode code 368 = .ok (.invokevirtual 42, 3) := by decide +kernel
theorem d_law_371 : decode code 371 = .ok (.pop, 1) := by decide +kernel
theorem d_law_372 : decode code 372 = .ok (.goto 307, 3) := by decide +kernel
theorem d_law_375 : decode code 375 = .ok (.aload_n 1, 1) := by decide +kernel
theorem d_law_376 : decode code 376 = .ok (.aload_n 0, 1) := by decide +kernel
theorem d_law_377 : decode code 377 = .ok (.iload 4, 2) := by decide +kernel
theorem d_law_379 : decode code 379 = .ok (.iconst 1, 1) := by decide +kernel
theorem d_law_380 : decode code 380 = .ok (.iadd, 1) := by decide +kernel
theorem d_law_381 : decode code 381 = .ok (.iaload, 1) := by decide +kernel
theorem d_law_382 : decode code 382 = .ok (.aload_n 0, 1) := by decide +kernel
theorem d_law_383 : decode code 383 = .ok (.iload 4, 2) := by decide +kernel
theorem d_law_385 : decode code 385 = .ok (.iconst 2, 1) := by decide +kernel
theorem d_law_386 : decode code 386 = .ok (.iadd, 1) := by decide +kernel
theorem d_law_387 : decode code 387 = .ok (.iaload, 1) := by decide +kernel
theorem d_law_388 : decode code 388 = .ok (.aload_n 0, 1) := by decide +kernel
theorem d_law_389 : decode code 389 = .ok (.iload 4, 2) := by decide +kernel
theorem d_law_391 : decode code 391 = .ok (.iconst 3, 1) := by decide +kernel
theorem d_law_392 : decode code 392 = .ok (.iadd, 1) := by decide +kernel
theorem d_law_393 : decode code 393 = .ok (.iaload, 1) := by decide +kernel
theorem d_law_394 : decode code 394 = .ok (.invokevirtual 43, 3) := by decide +kernel
theorem d_law_397 : decode code 397 = .ok (.pop, 1) := by decide +kernel
theorem d_law_398 : decode code 398 = .ok (.aload_n 2, 1) := by decide +kernel
theorem d_law_399 : decode code 399 = .ok (.aload_n 0, 1) := by decide +kernel
theorem d_law_400 : decode code 400 = .ok (.iload 4, 2) := by decide +kernel
theorem d_law_402 : decode code 402 = .ok (.iconst 1, 1) := by decide +kernel
theorem d_law_403 : decode code 403 = .ok (.iadd, 1) := by decide +kernel
theorem d_law_404 : decode code 404 = .ok (.iaload, 1) := by decide +kernel
theorem d_law_405 : decode code 405 = .ok (.aload_n 0, 1) := by decide +kernel
theorem d_law_406 : decode code 406 = .ok (.iload 4, 2) := by decide +kernel
theorem d_law_408 : decode code 408 = .ok (.iconst 2, 1) := by decide +kernel
theorem d_law_409 : decode code 409 = .ok (.iadd, 1) := by decide +kernel
theorem d_law_410 : decode code 410 = .ok (.iaload, 1) := by decide +kernel
theorem d_law_411 : decode code 411 = .ok (.aload_n 0, 1) := by decide +kernel
theorem d_law_412 : decode code 412 = .ok (.iload 4, 2) := by decide +kernel
theorem d_law_414 : decode code 414 = .ok (.iconst 3, 1) := by decide +kernel
theorem d_law_415 : decode code 415 = .ok (.iadd, 1) := by decide +kernel
theorem d_law_416 : decode code 416 = .ok (.iaload, 1) := by decide +kernel
theorem d_law_417 : decode code 417 = .ok (.invokevirtual 47, 3) := by decide +kernel
theorem d_law_420 : decode code 420 = .ok (.pop, 1) := by decide +kernel
theorem d_law_421 : decode code 421 = .ok (.goto 258, 3) := by decide +kernel
theorem d_law_424 : decode code 424 = .ok (.aload_n 1, 1) := by decide +kernel
theorem d_law_425 : decode code 425 = .ok (.aload_n 0, 1) := by decide +kernel
theorem d_law_426 : decode code 426 = .ok (.iload 4, 2) := by decide +kernel
theorem d_law_428 : decode code 428 = .ok (.iconst 1, 1) := by decide +kernel
theorem d_law_429 : decode code 429 = .ok (.iadd, 1) := by decide +kernel
theorem d_law_430 : decode code 430 = .ok (.iaload, 1) := by decide +kernel
theorem d_law_431 : decode code 431 = .ok (.aload_n 0, 1) := by decide +kernel
theorem d_law_432 : decode code 432 = .ok (.iload 4, 2) := by decide +kernel
theorem d_law_434 : decode code 434 = .ok (.iconst 2, 1) := by decide +kernel
theorem d_law_435 : decode code 435 = .ok (.iadd, 1) := by decide +kernel
theorem d_law_436 : decode code 436 = .ok (.iaload, 1) := by decide +kernel
theorem d_law_437 : decode code 437 = .ok (.aload_n 0, 1) := by decide +kernel
theorem d_law_438 : decode code 438 = .ok (.iload 4, 2) := by decide +kernel
theorem d_law_440 : decode code 440 = .ok (.iconst 3, 1) := by decide +kernel
theorem d_law_441 : decode code 441 = .ok (.iadd, 1) := by decide +kernel
theorem d_law_442 : decode code 442 = .ok (.iaload, 1) := by decide +kernel
theorem d_law_443 : decode code 443 = .ok (.invokevirtual 48, 3) := by decide +kernel
theorem d_law_446 : decode code 446 = .ok (.pop, 1) := by decide +kernel
theorem d_law_447 : decode code 447 = .ok (.aload_n 2, 1) := by decide +kernel
theorem d_law_448 : decode code 448 = .ok (.aload_n 0, 1) := by decide +kernel
theorem d_law_449 : decode code 449 = .ok (.iload 4, 2) := by decide +kernel
theorem d_law_451 : decode code 451 = .ok (.iconst 1, 1) := by decide +kernel
theorem d_law_452 : decode code 452 = .ok (.iadd, 1) := by decide +kernel
theorem d_law_453 : decode code 453 = .ok (.iaload, 1) := by decide +kernel
theorem d_law_454 : decode code 454 = .ok (.aload_n 0, 1) := by decide +kernel
theorem d_law_455 : decode code 455 = .ok (.iload 4, 2) := by decide +kernel
theorem d_law_457 : decode code 457 = .ok (.iconst 2, 1) := by decide +kernel
theorem d_law_458 : decode code 458 = .ok (.iadd, 1) := by decide +kernel
theorem d_law_459 : decode code 459 = .ok (.iaload, 1) := by decide +kernel
theorem d_law_460 : decode code 460 = .ok (.aload_n 0, 1) := by decide +kernel
theorem d_law_461 : decode code 461 = .ok (.iload 4, 2) := by decide +kernel
theorem d_law_463 : decode code 463 = .ok (.iconst 3, 1) := by decide +kernel
theorem d_law_464 : decode code 464 = .ok (.iadd, 1) := by decide +kernel
theorem d_law_465 : decode code 465 = .ok (.iaload, 1) := by decide +kernel
theorem d_law_466 : decode code 466 = .ok (.invokevirtual 51, 3) := by decide +kernel
theorem d_law_469 : decode code 469 = .ok (.pop, 1) := by decide +kernel
theorem d_law_470 : decode code 470 = .ok (.goto 209, 3) := by decide +kernel
theorem d_law_473 : decode code 473 = .ok (.aload_n 1, 1) := by decide +kernel
theorem d_law_474 : decode code 474 = .ok (.invokevirtual 52, 3) := by decide +kernel
theorem d_law_477 : decode code 477 = .ok (.pop, 1) := by decide +kernel
theorem d_law_478 : decode code 478 = .ok (.aload_n 2, 1) := by decide +kernel
theorem d_law_479 : decode code 479 = .ok (.invokevirtual 55, 3) := by decide +kernel
theorem d_law_482 : decode code 482 = .ok (.pop, 1) := by decide +kernel
theorem d_law_483 : decode code 483 = .ok (.goto 196, 3) := by decide +kernel
theorem d_law_486 : decode code 486 = .ok (.aload_n 1, 1) := by decide +kernel
theorem d_law_487 : decode code 487 = .ok (.invokevirtual 56, 3) := by decide +kernel
theorem d_law_490 : decode code 490 = .ok (.pop, 1) := by decide +kernel
theorem d_law_491 : decode code 491 = .ok (.aload_n 2, 1) := by decide +kernel
theorem d_law_492 : decode code 492 = .ok (.invokevirtual 59, 3) := by decide +kernel
theorem d_law_495 : decode code 495 = .ok (.pop, 1) := by decide +kernel
theorem d_law_496 : decode code 496 = .ok (.goto 183, 3) := by decide +kernel
theorem d_law_499 : decode code 499 = .ok (.aload_n 1, 1) := by decide +kernel
theorem d_law_500 : decode code 500 = .ok (.aload_n 0, 1) := by decide +kernel
theorem d_law_501 : decode code 501 = .ok (.iload 4, 2) := by decide +kernel
theorem d_law_503 : decode code 503 = .ok (.iconst 1, 1) := by decide +kernel
theorem d_law_504 : decode code 504 = .ok (.iadd, 1) := by decide +kernel
theorem d_law_505 : decode code 505 = .ok (.iaload, 1) := by decide +kernel
theorem d_law_506 : decode code 506 = .ok (.aload_n 0, 1) := by decide +kernel
theorem d_law_507 : decode code 507 = .ok (.iload 4, 2) := by decide +kernel
theorem d_law_509 : decode code 509 = .ok (.iconst 2, 1) := by decide +kernel
theorem d_law_510 : decode code 510 = .ok (.iadd, 1) := by decide +kernel
theorem d_law_511 : decode code 511 = .ok (.iaload, 1) := by decide +kernel
theorem d_law_512 : decode code 512 = .ok (.invokevirtual 60, 3) := by decide +kernel
theorem d_law_515 : decode code 515 = .ok (.pop, 1) := by decide +kernel
theorem d_law_516 : decode code 516 = .ok (.aload_n 2, 1) := by decide +kernel
theorem d_law_517 : decode code 517 = .ok (.aload_n 0, 1) := by decide +kernel
theorem d_law_518 : decode code 518 = .ok (.iload 4, 2) := by decide +kernel
theorem d_law_520 : decode code 520 = .ok (.iconst 1, 1) := by decide +kernel
theorem d_law_521 : decode code 521 = .ok (.iadd, 1) := by decide +kernel
theorem d_law_522 : decode code 522 = .ok (.iaload, 1) := by decide +kernel
theorem d_law_523 : decode code 523 = .ok (.aload_n 0, 1) := by decide +kernel
theorem d_law_524 : decode code 524 = .ok (.iload 4, 2) := by decide +kernel
theorem d_law_526 : decode code 526 = .ok (.iconst 2, 1) := by decide +kernel
theorem d_law_527 : decode code 527 = .ok (.iadd, 1) := by decide +kernel
theorem d_law_528 : decode code 528 = .ok (.iaload, 1) := by decide +kernel
theorem d_law_529 : decode code 529 = .ok (.invokevirtual 63, 3) := by decide +kernel
theorem d_law_532 : decode code 532 = .ok (.pop, 1) := by decide +kernel
theorem d_law_533 : decode code 533 = .ok (.goto 146, 3) := by decide +kernel
theorem d_law_536 : decode code 536 = .ok (.aload_n 1, 1) := by decide +kernel
theorem d_law_537 : decode code 537 = .ok (.aload_n 0, 1) := by decide +kernel
theorem d_law_538 : decode code 538 = .ok (.iload 4, 2) := by decide +kernel
theorem d_law_540 : decode code 540 = .ok (.iconst 1, 1) := by decide +kernel
theorem d_law_541 : decode code 541 = .ok (.iadd, 1) := by decide +kernel
theorem d_law_542 : decode code 542 = .ok (.iaload, 1) := by decide +kernel
theorem d_law_543 : decode code 543 = .ok (.invokevirtual 64, 3) := by decide +kernel
theorem d_law_546 : decode code 546 = .ok (.pop, 1) := by decide +kernel
theorem d_law_547 : decode code 547 = .ok (.aload_n 2, 1) := by decide +kernel
theorem d_law_548 : decode code 548 = .ok (.aload_n 0, 1) := by decide +kernel
theorem d_law_549 : decode code 549 = .ok (.iload 4, 2) := by decide +kernel
theorem d_law_551 : decode code 551 = .ok (.iconst 1, 1) := by decide +kernel
theorem d_law_552 : decode code 552 = .ok (.iadd, 1) := by decide +kernel
theorem d_law_553 : decode code 553 = .ok (.iaload, 1) := by decide +kernel
theorem d_law_554 : decode code 554 = .ok (.invokevirtual 68, 3) := by decide +kernel
theorem d_law_557 : decode code 557 = .ok (.pop, 1) := by decide +kernel
theorem d_law_558 : decode code 558 = .ok (.goto 121, 3) := by decide +kernel
theorem d_law_561 : decode code 561 = .ok (.aload_n 1, 1) := by decide +kernel
theorem d_law_562 : decode code 562 = .ok (.invokevirtual 69, 3) := by decide +kernel
theorem d_law_565 : decode code 565 = .ok (.pop, 1) := by decide +kernel
theorem d_law_566 : decode code 566 = .ok (.aload_n 2, 1) := by decide +kernel
theorem d_law_567 : decode code 567 = .ok (.invokevirtual 72, 3) := by decide +kernel
theorem d_law_570 : decode code 570 = .ok (.pop, 1) := by decide +kernel
theorem d_law_571 : decode code 571 = .ok (.goto 108, 3) := by decide +kernel
theorem d_law_574 : decode code 574 = .ok (.aload_n 1, 1) := by decide +kernel
theorem d_law_575 : decode code 575 = .ok (.aload_n 0, 1) := by decide +kernel
theorem d_law_576 : decode code 576 = .ok (.iload 4, 2) := by decide +kernel
theorem d_law_578 : decode code 578 = .ok (.iconst 1, 1) := by decide +kernel
theorem d_law_579 : decode code 579 = .ok (.iadd, 1) := by decide +kernel
theorem d_law_580 : decode code 580 = .ok (.iaload, 1) := by decide +kernel
theorem d_law_581 : decode code 581 = .ok (.aload_n 0, 1) := by decide +kernel
theorem d_law_582 : decode code 582 = .ok (.iload 4, 2) := by decide +kernel
theorem d_law_584 : decode code 584 = .ok (.iconst 2, 1) := by decide +kernel
theorem d_law_585 : decode code 585 = .ok (.iadd, 1) := by decide +kernel
theorem d_law_586 : decode code 586 = .ok (.iaload, 1) := by decide +kernel
theorem d_law_587 : decode code 587 = .ok (.aload_n 3, 1) := by decide +kernel
theorem d_law_588 : decode code 588 = .ok (.invokestatic 73, 3) := by decide +kernel
theorem d_law_591 : decode code 591 = .ok (.istore 5, 2) := by decide +kernel
theorem d_law_593 : decode code 593 = .ok (.aload_n 2, 1) := by decide +kernel
theorem d_law_594 : decode code 594 = .ok (.aload_n 0, 1) := by decide +kernel
theorem d_law_595 : decode code 595 = .ok (.iload 4, 2) := by decide +kernel
theorem d_law_597 : decode code 597 = .ok (.iconst 1, 1) := by decide +kernel
theorem d_law_598 : decode code 598 = .ok (.iadd, 1) := by decide +kernel
theorem d_law_599 : decode code 599 = .ok (.iaload, 1) := by decide +kernel
theorem d_law_600 : decode code 600 = .ok (.aload_n 0, 1) := by decide +kernel
theorem d_law_601 : decode code 601 = .ok (.iload 4, 2) := by decide +kernel
theorem d_law_603 : decode code 603 = .ok (.iconst 2, 1) := by decide +kernel
theorem d_law_604 : decode code 604 = .ok (.iadd, 1) := by decide +kernel
theorem d_law_605 : decode code 605 = .ok (.iaload, 1) := by decide +kernel
theorem d_law_606 : decode code 606 = .ok (.invokevirtual 78, 3) := by decide +kernel
theorem d_law_609 : decode code 609 = .ok (.istore 6, 2) := by decide +kernel
theorem d_law_611 : decode code 611 = .ok (.aload_n 2, 1) := by decide +kernel
theorem d_law_612 : decode code 612 = .ok (.invokevirtual 79, 3) := by decide +kernel
theorem d_law_615 : decode code 615 = .ok (.iload 5, 2) := by decide +kernel
theorem d_law_617 : decode code 617 = .ok (.if_icmp .eq 5, 3) := by decide +kernel
theorem d_law_620 : decode code 620 = .ok (.iconst 0, 1) := by decide +kernel
theorem d_law_621 : decode code 621 = .ok (.ireturn, 1) := by decide +kernel
theorem d_law_622 : decode code 622 = .ok (.iload 5, 2) := by decide +kernel
theorem d_law_624 : decode code 624 = .ok (.ifCond .ne 15, 3) := by decide +kernel
theorem d_law_627 : decode code 627 = .ok (.aload_n 3, 1) := by decide +kernel
theorem d_law_628 : decode code 628 = .ok (.iconst 0, 1) := by decide +kernel
theorem d_law_629 : decode code 629 = .ok (.laload, 1) := by decide +kernel
theorem d_law_630 : decode code 630 = .ok (.iload 6, 2) := by decide +kernel
theorem d_law_632 : decode code 632 = .ok (.i2l, 1) := by decide +kernel
theorem d_law_633 : decode code 633 = .ok (.lcmp, 1) := by decide +kernel
theorem d_law_634 : decode code 634 = .ok (.ifCond .eq 5, 3) := by decide +kernel
theorem d_law_637 : decode code 637 = .ok (.iconst 0, 1) := by decide +kernel
theorem d_law_638 : decode code 638 = .ok (.ireturn, 1) := by decide +kernel
theorem d_law_639 : decode code 639 = .ok (.goto 40, 3) := by decide +kernel
theorem d_law_642 : decode code 642 = .ok (.aload_n 1, 1) := by decide +kernel
theorem d_law_643 : decode code 643 = .ok (.aload_n 0, 1) := by decide +kernel
theorem d_law_644 : decode code 644 = .ok (.iload 4, 2) := by decide +kernel
theorem d_law_646 : decode code 646 = .ok (.iconst 1, 1) := by decide +kernel
theorem d_law_647 : decode code 647 = .ok (.iadd, 1) := by decide +kernel
theorem d_law_648 : decode code 648 = .ok (.iaload, 1) := by decide +kernel
theorem d_law_649 : decode code 649 = .ok (.aload_n 0, 1) := by decide +kernel
theorem d_law_650 : decode code 650 = .ok (.iload 4, 2) := by decide +kernel
theorem d_law_652 : decode code 652 = .ok (.iconst 2, 1) := by decide +kernel
theorem d_law_653 : decode code 653 = .ok (.iadd, 1) := by decide +kernel
theorem d_law_654 : decode code 654 = .ok (.iaload, 1) := by decide +kernel
theorem d_law_655 : decode code 655 = .ok (.invokevirtual 82, 3) := by decide +kernel
theorem d_law_658 : decode code 658 = .ok (.pop, 1) := by decide +kernel
theorem d_law_659 : decode code 659 = .ok (.aload_n 2, 1) := by decide +kernel
theorem d_law_660 : decode code 660 = .ok (.aload_n 0, 1) := by decide +kernel
theorem d_law_661 : decode code 661 = .ok (.iload 4, 2) := by decide +kernel
theorem d_law_663 : decode code 663 = .ok (.iconst 1, 1) := by decide +kernel
theorem d_law_664 : decode code 664 = .ok (.iadd, 1) := by decide +kernel
theorem d_law_665 : decode code 665 = .ok (.iaload, 1) := by decide +kernel
theorem d_law_666 : decode code 666 = .ok (.aload_n 0, 1) := by decide +kernel
theorem d_law_667 : decode code 667 = .ok (.iload 4, 2) := by decide +kernel
theorem d_law_669 : decode code 669 = .ok (.iconst 2, 1) := by decide +kernel
theorem d_law_670 : decode code 670 = .ok (.iadd, 1) := by decide +kernel
theorem d_law_671 : decode code 671 = .ok (.iaload, 1) := by decide +kernel
theorem d_law_672 : decode code 672 = .ok (.invokevirtual 85, 3) := by decide +kernel
theorem d_law_675 : decode code 675 = .ok (.pop, 1) := by decide +kernel
theorem d_law_676 : decode code 676 = .ok (.goto 3, 3) := by decide +kernel
theorem d_law_679 : decode code 679 = .ok (.iinc 4 7, 3) := by decide +kernel
theorem d_law_682 : decode code 682 = .ok (.goto (-659), 3) := by decide +kernel
theorem d_law_685 : decode code 685 = .ok (.iconst 1, 1) := by decide +kernel
theorem d_law_686 : decode code 686 = .ok (.ireturn, 1) := by decide +kernel
