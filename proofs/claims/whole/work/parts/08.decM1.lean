theorem dL_law_0 : decode mL_law.2.1 0 = .ok (.new 8, 3) := by decide +kernel
theorem dL_law_3 : decode mL_law.2.1 3 = .ok (.dup, 1) := by decide +kernel
theorem dL_law_4 : decode mL_law.2.1 4 = .ok (.invokespecial 95, 3) := by decide +kernel
theorem dL_law_7 : decode mL_law.2.1 7 = .ok (.astore_n 1, 1) := by decide +kernel
theorem dL_law_8 : decode mL_law.2.1 8 = .ok (.new 96, 3) := by decide +kernel
theorem dL_law_11 : decode mL_law.2.1 11 = .ok (.dup, 1) := by decide +kernel
theorem dL_law_12 : decode mL_law.2.1 12 = .ok (.invokespecial 98, 3) := by decide +kernel
theorem dL_law_15 : decode mL_law.2.1 15 = .ok (.astore_n 2, 1) := by decide +kernel
theorem dL_law_16 : decode mL_law.2.1 16 = .ok (.iconst 1, 1) := by decide +kernel
theorem dL_law_17 : decode mL_law.2.1 17 = .ok (.newarray .long, 2) := by decide +kernel
theorem dL_law_19 : decode mL_law.2.1 19 = .ok (.astore_n 3, 1) := by decide +kernel
theorem dL_law_20 : decode mL_law.2.1 20 = .ok (.iconst 0, 1) := by decide +kernel
theorem dL_law_21 : decode mL_law.2.1 21 = .ok (.istore 4, 2) := by decide +kernel
theorem dL_law_23 : decode mL_law.2.1 23 = .ok (.iload 4, 2) := by decide +kernel
theorem dL_law_25 : decode mL_law.2.1 25 = .ok (.aload_n 0, 1) := by decide +kernel
theorem dL_law_26 : decode mL_law.2.1 26 = .ok (.arraylength, 1) := by decide +kernel
theorem dL_law_27 : decode mL_law.2.1 27 = .ok (.bipush 7, 2) := by decide +kernel
theorem dL_law_29 : decode mL_law.2.1 29 = .ok (.isub, 1) := by decide +kernel
theorem dL_law_30 : decode mL_law.2.1 30 = .ok (.if_icmp .gt 1666, 3) := by decide +kernel
theorem dL_law_33 : decode mL_law.2.1 33 = .ok (.aload_n 0, 1) := by decide +kernel
theorem dL_law_34 : decode mL_law.2.1 34 = .ok (.iload 4, 2) := by decide +kernel
theorem dL_law_36 : decode mL_law.2.1 36 = .ok (.iaload, 1) := by decide +kernel
theorem dL_law_37 : decode mL_law.2.1 37 = .ok (.bipush 31, 2) := by decide +kernel
theorem dL_law_39 : decode mL_law.2.1 39 = .ok (.iand, 1) := by decide +kernel
theorem dL_law_40 : decode mL_law.2.1 40 = .ok (.tableswitch 1650 0 21 #[104, 188, 286, 334, 433, 513, 588, 651, 719, 807, 875, 923, 983, 1063, 1143, 1199, 1267, 1334, 1402, 1470, 1526, 1582], 104) := by decide +kernel
theorem dL_law_144 : decode mL_law.2.1 144 = .ok (.aload_n 1, 1) := by decide +kernel
theorem dL_law_145 : decode mL_law.2.1 145 = .ok (.aload_n 0, 1) := by decide +kernel
theorem dL_law_146 : decode mL_law.2.1 146 = .ok (.iload 4, 2) := by decide +kernel
theorem dL_law_148 : decode mL_law.2.1 148 = .ok (.iconst 1, 1) := by decide +kernel
theorem dL_law_149 : decode mL_law.2.1 149 = .ok (.iadd, 1) := by decide +kernel
theorem dL_law_150 : decode mL_law.2.1 150 = .ok (.iaload, 1) := by decide +kernel
theorem dL_law_151 : decode mL_law.2.1 151 = .ok (.aload_n 0, 1) := by decide +kernel
theorem dL_law_152 : decode mL_law.2.1 152 = .ok (.iload 4, 2) := by decide +kernel
theorem dL_law_154 : decode mL_law.2.1 154 = .ok (.iconst 2, 1) := by decide +kernel
theorem dL_law_155 : decode mL_law.2.1 155 = .ok (.iadd, 1) := by decide +kernel
theorem dL_law_156 : decode mL_law.2.1 156 = .ok (.iaload, 1) := by decide +kernel
theorem dL_law_157 : decode mL_law.2.1 157 = .ok (.ifCond .eq 7, 3) := by decide +kernel
theorem dL_law_160 : decode mL_law.2.1 160 = .ok (.iconst 1, 1) := by decide +kernel
theorem dL_law_161 : decode mL_law.2.1 161 = .ok (.goto 4, 3) := by decide +kernel
theorem dL_law_164 : decode mL_law.2.1 164 = .ok (.iconst 0, 1) := by decide +kernel
theorem dL_law_165 : decode mL_law.2.1 165 = .ok (.aload_n 3, 1) := by decide +kernel
theorem dL_law_166 : decode mL_law.2.1 166 = .ok (.invokestatic 99, 3) := by decide +kernel
theorem dL_law_169 : decode mL_law.2.1 169 = .ok (.istore 5, 2) := by decide +kernel
theorem dL_law_171 : decode mL_law.2.1 171 = .ok (.aload_n 2, 1) := by decide +kernel
theorem dL_law_172 : decode mL_law.2.1 172 = .ok (.aload_n 0, 1) := by decide +kernel
theorem dL_law_173 : decode mL_law.2.1 173 = .ok (.iload 4, 2) := by decide +kernel
theorem dL_law_175 : decode mL_law.2.1 175 = .ok (.iconst 1, 1) := by decide +kernel
theorem dL_law_176 : decode mL_law.2.1 176 = .ok (.iadd, 1) := by decide +kernel
theorem dL_law_177 : decode mL_law.2.1 177 = .ok (.iaload, 1) := by decide +kernel
theorem dL_law_178 : decode mL_law.2.1 178 = .ok (.aload_n 0, 1) := by decide +kernel
theorem dL_law_179 : decode mL_law.2.1 179 = .ok (.iload 4, 2) := by decide +kernel
theorem dL_law_181 : decode mL_law.2.1 181 = .ok (.iconst 2, 1) := by decide +kernel
theorem dL_law_182 : decode mL_law.2.1 182 = .ok (.iadd, 1) := by decide +kernel
theorem dL_law_183 : decode mL_law.2.1 183 = .ok (.iaload, 1) := by decide +kernel
theorem dL_law_184 : decode mL_law.2.1 184 = .ok (.ifCond .eq 7, 3) := by decide +kernel
theorem dL_law_187 : decode mL_law.2.1 187 = .ok (.iconst 1, 1) := by decide +kernel
theorem dL_law_188 : decode mL_law.2.1 188 = .ok (.goto 4, 3) := by decide +kernel
theorem dL_law_191 : decode mL_law.2.1 191 = .ok (.iconst 0, 1) := by decide +kernel
theorem dL_law_192 : decode mL_law.2.1 192 = .ok (.invokevirtual 104, 3) := by decide +kernel
theorem dL_law_195 : decode mL_law.2.1 195 = .ok (.istore 6, 2) := by decide +kernel
theorem dL_law_197 : decode mL_law.2.1 197 = .ok (.aload_n 2, 1) := by decide +kernel
theorem dL_law_198 : decode mL_law.2.1 198 = .ok (.invokevirtual 105, 3) := by decide +kernel
theorem dL_law_201 : decode mL_law.2.1 201 = .ok (.iload 5, 2) := by decide +kernel
theorem dL_law_203 : decode mL_law.2.1 203 = .ok (.if_icmp .eq 5, 3) := by decide +kernel
theorem dL_law_206 : decode mL_law.2.1 206 = .ok (.iconst 0, 1) := by decide +kernel
theorem dL_law_207 : decode mL_law.2.1 207 = .ok (.ireturn, 1) := by decide +kernel
theorem dL_law_208 : decode mL_law.2.1 208 = .ok (.iload 5, 2) := by decide +kernel
theorem dL_law_210 : decode mL_law.2.1 210 = .ok (.ifCond .ne 15, 3) := by decide +kernel
theorem dL_law_213 : decode mL_law.2.1 213 = .ok (.aload_n 3, 1) := by decide +kernel
theorem dL_law_214 : decode mL_law.2.1 214 = .ok (.iconst 0, 1) := by decide +kernel
theorem dL_law_215 : decode mL_law.2.1 215 = .ok (.laload, 1) := by decide +kernel
theorem dL_law_216 : decode mL_law.2.1 216 = .ok (.iload 6, 2) := by decide +kernel
theorem dL_law_218 : decode mL_law.2.1 218 = .ok (.i2l, 1) := by decide +kernel
theorem dL_law_219 : decode mL_law.2.1 219 = .ok (.lcmp, 1) := by decide +kernel
theorem dL_law_220 : decode mL_law.2.1 220 = .ok (.ifCond .eq 5, 3) := by decide +kernel
theorem dL_law_223 : decode mL_law.2.1 223 = .ok (.iconst 0, 1) := by decide +kernel
theorem dL_law_224 : decode mL_law.2.1 224 = .ok (.ireturn, 1) := by decide +kernel
theorem dL_law_225 : decode mL_law.2.1 225 = .ok (.goto 1465, 3) := by decide +kernel
theorem dL_law_228 : decode mL_law.2.1 228 = .ok (.aload_n 1, 1) := by decide +kernel
theorem dL_law_229 : decode mL_law.2.1 229 = .ok (.aload_n 0, 1) := by decide +kernel
theorem dL_law_230 : decode mL_law.2.1 230 = .ok (.iload 4, 2) := by decide +kernel
theorem dL_law_232 : decode mL_law.2.1 232 = .ok (.iconst 1, 1) := by decide +kernel
theorem dL_law_233 : decode mL_law.2.1 233 = .ok (.iadd, 1) := by decide +kernel
theorem dL_law_234 : decode mL_law.2.1 234 = .ok (.iaload, 1) := by decide +kernel
theorem dL_law_235 : decode mL_law.2.1 235 = .ok (.aload_n 0, 1) := by decide +kernel
theorem dL_law_236 : decode mL_law.2.1 236 = .ok (.iload 4, 2) := by decide +kernel
theorem dL_law_238 : decode mL_law.2.1 238 = .ok (.iconst 2, 1) := by decide +kernel
theorem dL_law_239 : decode mL_law.2.1 239 = .ok (.iadd, 1) := by decide +kernel
theorem dL_law_240 : decode mL_law.2.1 240 = .ok (.iaload, 1) := by decide +kernel
theorem dL_law_241 : decode mL_law.2.1 241 = .ok (.aload_n 0, 1) := by decide +kernel
theorem dL_law_242 : decode mL_law.2.1 242 = .ok (.iload 4, 2) := by decide +kernel
theorem dL_law_244 : decode mL_law.2.1 244 = .ok (.iconst 3, 1) := by decide +kernel
theorem dL_law_245 : decode mL_law.2.1 245 = .ok (.iadd, 1) := by decide +kernel
theorem dL_law_246 : decode mL_law.2.1 246 = .ok (.iaload, 1) := by decide +kernel
theorem dL_law_247 : decode mL_law.2.1 247 = .ok (.aload_n 0, 1) := by decide +kernel
theorem dL_law_248 : decode mL_law.2.1 248 = .ok (.iload 4, 2) := by decide +kernel
theorem dL_law_250 : decode mL_law.2.1 250 = .ok (.iconst 4, 1) := by decide +kernel
theorem dL_law_251 : decode mL_law.2.1 251 = .ok (.iadd, 1) := by decide +kernel
theorem dL_law_252 : decode mL_law.2.1 252 = .ok (.iaload, 1) := by decide +kernel
theorem dL_law_253 : decode mL_law.2.1 253 = .ok (.aload_n 0, 1) := by decide +kernel
theorem dL_law_254 : decode mL_law.2.1 254 = .ok (.iload 4, 2) := by decide +kernel
theorem dL_law_256 : decode mL_law.2.1 256 = .ok (.iconst 5, 1) := by decide +kernel
theorem dL_law_257 : decode mL_law.2.1 257 = .ok (.iadd, 1) := by decide +kernel
theorem dL_law_258 : decode mL_law.2.1 258 = .ok (.iaload, 1) := by decide +kernel
theorem dL_law_259 : decode mL_law.2.1 259 = .ok (.aload_n 0, 1) := by decide +kernel
theorem dL_law_260 : decode mL_law.2.1 260 = .ok (.iload 4, 2) := by decide +kernel
theorem dL_law_262 : decode mL_law.2.1 262 = .ok (.bipush 6, 2) := by decide +kernel
theorem dL_law_264 : decode mL_law.2.1 264 = .ok (.iadd, 1) := by decide +kernel
theorem dL_law_265 : decode mL_law.2.1 265 = .ok (.iaload, 1) := by decide +kernel
theorem dL_law_266 : decode mL_law.2.1 266 = .ok (.invokestatic 109, 3) := by decide +kernel
theorem dL_law_269 : decode mL_law.2.1 269 = .ok (.istore 5, 2) := by decide +kernel
theorem dL_law_271 : decode mL_law.2.1 271 = .ok (.aload_n 2, 1) := by decide +kernel
theorem dL_law_272 : decode mL_law.2.1 272 = .ok (.aload_n 0, 1) := by decide +kernel
theorem dL_law_273 : decode mL_law.2.1 273 = .ok (.iload 4, 2) := by decide +kernel
theorem dL_law_275 : decode mL_law.2.1 275 = .ok (.iconst 1, 1) := by decide +kernel
theorem dL_law_276 : decode mL_law.2.1 276 = .ok (.iadd, 1) := by decide +kernel
theorem dL_law_277 : decode mL_law.2.1 277 = .ok (.iaload, 1) := by decide +kernel
theorem dL_law_278 : decode mL_law.2.1 278 = .ok (.aload_n 0, 1) := by decide +kernel
theorem dL_law_279 : decode mL_law.2.1 279 = .ok (.iload 4, 2) := by decide +kernel
theorem dL_law_281 : decode mL_law.2.1 281 = .ok (.iconst 2, 1) := by decide +kernel
theorem dL_law_282 : decode mL_law.2.1 282 = .ok (.iadd, 1) := by decide +kernel
theorem dL_law_283 : decode mL_law.2.1 283 = .ok (.iaload, 1) := by decide +kernel
theorem dL_law_284 : decode mL_law.2.1 284 = .ok (.aload_n 0, 1) := by decide +kernel
theorem dL_law_285 : decode mL_law.2.1 285 = .ok (.iload 4, 2) := by decide +kernel
theorem dL_law_287 : decode mL_law.2.1 287 = .ok (.iconst 3, 1) := by decide +kernel
theorem dL_law_288 : decode mL_law.2.1 288 = .ok (.iadd, 1) := by decide +kernel
theorem dL_law_289 : decode mL_law.2.1 289 = .ok (.iaload, 1) := by decide +kernel
theorem dL_law_290 : decode mL_law.2.1 290 = .ok (.aload_n 0, 1) := by decide +kernel
theorem dL_law_291 : decode mL_law.2.1 291 = .ok (.iload 4, 2) := by decide +kernel
theorem dL_law_293 : decode mL_law.2.1 293 = .ok (.iconst 4, 1) := by decide +kernel
theorem dL_law_294 : decode mL_law.2.1 294 = .ok (.iadd, 1) := by decide +kernel
theorem dL_law_295 : decode mL_law.2.1 295 = .ok (.iaload, 1) := by decide +kernel
theorem dL_law_296 : decode mL_law.2.1 296 = .ok (.aload_n 0, 1) := by decide +kernel
theorem dL_law_297 : decode mL_law.2.1 297 = .ok (.iload 4, 2) := by decide +kernel
theorem dL_law_299 : decode mL_law.2.1 299 = .ok (.iconst 5, 1) := by decide +kernel
theorem dL_law_300 : decode mL_law.2.1 300 = .ok (.iadd, 1) := by decide +kernel
theorem dL_law_301 : decode mL_law.2.1 301 = .ok (.iaload, 1) := by decide +kernel
theorem dL_law_302 : decode mL_law.2.1 302 = .ok (.aload_n 0, 1) := by decide +kernel
theorem dL_law_303 : decode mL_law.2.1 303 = .ok (.iload 4, 2) := by decide +kernel
theorem dL_law_305 : decode mL_law.2.1 305 = .ok (.bipush 6, 2) := by decide +kernel
theorem dL_law_307 : decode mL_law.2.1 307 = .ok (.iadd, 1) := by decide +kernel
theorem dL_law_308 : decode mL_law.2.1 308 = .ok (.iaload, 1) := by decide +kernel
theorem dL_law_309 : decode mL_law.2.1 309 = .ok (.invokevirtual 112, 3) := by decide +kernel
theorem dL_law_312 : decode mL_law.2.1 312 = .ok (.aload_n 2, 1) := by decide +kernel
theorem dL_law_313 : decode mL_law.2.1 313 = .ok (.invokevirtual 105, 3) := by decide +kernel
theorem dL_law_316 : decode mL_law.2.1 316 = .ok (.iload 5, 2) := by decide +kernel
theorem dL_law_318 : decode mL_law.2.1 318 = .ok (.if_icmp .eq 5, 3) := by decide +kernel
theorem dL_law_321 : decode mL_law.2.1 321 = .ok (.iconst 0, 1) := by decide +kernel
theorem dL_law_322 : decode mL_law.2.1 322 = .ok (.ireturn, 1) := by decide +kernel
theorem dL_law_323 : decode mL_law.2.1 323 = .ok (.goto 1367, 3) := by decide +kernel
theorem dL_law_326 : decode mL_law.2.1 326 = .ok (.aload_n 1, 1) := by decide +kernel
theorem dL_law_327 : decode mL_law.2.1 327 = .ok (.aload_n 0, 1) := by decide +kernel
theorem dL_law_328 : decode mL_law.2.1 328 = .ok (.iload 4, 2) := by decide +kernel
theorem dL_law_330 : decode mL_law.2.1 330 = .ok (.iconst 1, 1) := by decide +kernel
theorem dL_law_331 : decode mL_law.2.1 331 = .ok (.iadd, 1) := by decide +kernel
theorem dL_law_332 : decode mL_law.2.1 332 = .ok (.iaload, 1) := by decide +kernel
theorem dL_law_333 : decode mL_law.2.1 333 = .ok (.aload_n 0, 1) := by decide +kernel
theorem dL_law_334 : decode mL_law.2.1 334 = .ok (.iload 4, 2) := by decide +kernel
theorem dL_law_336 : decode mL_law.2.1 336 = .ok (.iconst 2, 1) := by decide +kernel
theorem dL_law_337 : decode mL_law.2.1 337 = .ok (.iadd, 1) := by decide +kernel
theorem dL_law_338 : decode mL_law.2.1 338 = .ok (.iaload, 1) := by decide +kernel
theorem dL_law_339 : decode mL_law.2.1 339 = .ok (.invokestatic 113, 3) := by decide +kernel
theorem dL_law_342 : decode mL_law.2.1 342 = .ok (.istore 5, 2) := by decide +kernel
theorem dL_law_344 : decode mL_law.2.1 344 = .ok (.aload_n 2, 1) := by decide +kernel
theorem dL_law_345 : decode mL_law.2.1 345 = .ok (.aload_n 0, 1) := by decide +kernel
theorem dL_law_346 : decode mL_law.2.1 346 = .ok (.iload 4, 2) := by decide +kernel
theorem dL_law_348 : decode mL_law.2.1 348 = .ok (.iconst 1, 1) := by decide +kernel
theorem dL_law_349 : decode mL_law.2.1 349 = .ok (.iadd, 1) := by decide +kernel
theorem dL_law_350 : decode mL_law.2.1 350 = .ok (.iaload, 1) := by decide +kernel
theorem dL_law_351 : decode mL_law.2.1 351 = .ok (.aload_n 0, 1) := by decide +kernel
theorem dL_law_352 : decode mL_law.2.1 352 = .ok (.iload 4, 2) := by decide +kernel
theorem dL_law_354 : decode mL_law.2.1 354 = .ok (.iconst 2, 1) := by decide +kernel
theorem dL_law_355 : decode mL_law.2.1 355 = .ok (.iadd, 1) := by decide +kernel
theorem dL_law_356 : decode mL_law.2.1 356 = .ok (.iaload, 1) := by decide +kernel
theorem dL_law_357 : decode mL_law.2.1 357 = .ok (.invokevirtual 116, 3) := by decide +kernel
theorem dL_law_360 : decode mL_law.2.1 360 = .ok (.aload_n 2, 1) := by decide +kernel
theorem dL_law_361 : decode mL_law.2.1 361 = .ok (.invokevirtual 105, 3) := by decide +kernel
theorem dL_law_364 : decode mL_law.2.1 364 = .ok (.iload 5, 2) := by decide +kernel
theorem dL_law_366 : decode mL_law.2.1 366 = .ok (.if_icmp .eq 5, 3) := by decide +kernel
theorem dL_law_369 : decode mL_law.2.1 369 = .ok (.iconst 0, 1) := by decide +kernel
theorem dL_law_370 : decode mL_law.2.1 370 = .ok (.ireturn, 1) := by decide +kernel
theorem dL_law_371 : decode mL_law.2.1 371 = .ok (.goto 1319, 3) := by decide +kernel
theorem dL_law_374 : decode mL_law.2.1 374 = .ok (.aload_n 1, 1) := by decide +kernel
theorem dL_law_375 : decode mL_law.2.1 375 = .ok (.aload_n 0, 1) := by decide +kernel
theorem dL_law_376 : decode mL_law.2.1 376 = .ok (.iload 4, 2) := by decide +kernel
theorem dL_law_378 : decode mL_law.2.1 378 = .ok (.iconst 1, 1) := by decide +kernel
theorem dL_law_379 : decode mL_law.2.1 379 = .ok (.iadd, 1) := by decide +kernel
theorem dL_law_380 : decode mL_law.2.1 380 = .ok (.iaload, 1) := by decide +kernel
theorem dL_law_381 : decode mL_law.2.1 381 = .ok (.aload_n 0, 1) := by decide +kernel
theorem dL_law_382 : decode mL_law.2.1 382 = .ok (.iload 4, 2) := by decide +kernel
theorem dL_law_384 : decode mL_law.2.1 384 = .ok (.iconst 2, 1) := by decide +kernel
theorem dL_law_385 : decode mL_law.2.1 385 = .ok (.iadd, 1) := by decide +kernel
theorem dL_law_386 : decode mL_law.2.1 386 = .ok (.iaload, 1) := by decide +kernel
theorem dL_law_387 : decode mL_law.2.1 387 = .ok (.aload_n 0, 1) := by decide +kernel
theorem dL_law_388 : decode mL_law.2.1 388 = .ok (.iload 4, 2) := by decide +kernel
theorem dL_law_390 : decode mL_law.2.1 390 = .ok (.iconst 3, 1) := by decide +kernel
theorem dL_law_391 : decode mL_law.2.1 391 = .ok (.iadd, 1) := by decide +kernel
theorem dL_law_392 : decode mL_law.2.1 392 = .ok (.iaload, 1) := by decide +kernel
theorem dL_law_393 : decode mL_law.2.1 393 = .ok (.aload_n 0, 1) := by decide +kernel
theorem dL_law_394 : decode mL_law.2.1 394 = .ok (.iload 4, 2) := by decide +kernel
theorem dL_law_396 : decode mL_law.2.1 396 = .ok (.iconst 4, 1) := by decide +kernel
theorem dL_law_397 : decode mL_law.2.1 397 = .ok (.iadd, 1) := by decide +kernel
theorem dL_law_398 : decode mL_law.2.1 398 = .ok (.iaload, 1) := by decide +kernel
theorem dL_law_399 : decode mL_law.2.1 399 = .ok (.aload_n 3, 1) := by decide +kernel
theorem dL_law_400 : decode mL_law.2.1 400 = .ok (.invokestatic 117, 3) := by decide +kernel
theorem dL_law_403 : decode mL_law.2.1 403 = .ok (.istore 5, 2) := by decide +kernel
theorem dL_law_405 : decode mL_law.2.1 405 = .ok (.aload_n 2, 1) := by decide +kernel
theorem dL_law_406 : decode mL_law.2.1 406 = .ok (.aload_n 0, 1) := by decide +kernel
theorem dL_law_407 : decode mL_law.2.1 407 = .ok (.iload 4, 2) := by decide +kernel
theorem dL_law_409 : decode mL_law.2.1 409 = .ok (.iconst 1, 1) := by decide +kernel
theorem dL_law_410 : decode mL_law.2.1 410 = .ok (.iadd, 1) := by decide +kernel
theorem dL_law_411 : decode mL_law.2.1 411 = .ok (.iaload, 1) := by decide +kernel
theorem dL_law_412 : decode mL_law.2.1 412 = .ok (.aload_n 0, 1) := by decide +kernel
theorem dL_law_413 : decode mL_law.2.1 413 = .ok (.iload 4, 2) := by decide +kernel
theorem dL_law_415 : decode mL_law.2.1 415 = .ok (.iconst 2, 1) := by decide +kernel
theorem dL_law_416 : decode mL_law.2.1 416 = .ok (.iadd, 1) := by decide +kernel
theorem dL_law_417 : decode mL_law.2.1 417 = .ok (.iaload, 1) := by decide +kernel
theorem dL_law_418 : decode mL_law.2.1 418 = .ok (.aload_n 0, 1) := by decide +kernel
theorem dL_law_419 : decode mL_law.2.1 419 = .ok (.iload 4, 2) := by decide +kernel
theorem dL_law_421 : decode mL_law.2.1 421 = .ok (.iconst 3, 1) := by decide +kernel
theorem dL_law_422 : decode mL_law.2.1 422 = .ok (.iadd, 1) := by decide +kernel
theorem dL_law_423 : decode mL_law.2.1 423 = .ok (.iaload, 1) := by decide +kernel
theorem dL_law_424 : decode mL_law.2.1 424 = .ok (.aload_n 0, 1) := by decide +kernel
theorem dL_law_425 : decode mL_law.2.1 425 = .ok (.iload 4, 2) := by decide +kernel
theorem dL_law_427 : decode mL_law.2.1 427 = .ok (.iconst 4, 1) := by decide +kernel
theorem dL_law_428 : decode mL_law.2.1 428 = .ok (.iadd, 1) := by decide +kernel
theorem dL_law_429 : decode mL_law.2.1 429 = .ok (.iaload, 1) := by decide +kernel
theorem dL_law_430 : decode mL_law.2.1 430 = .ok (.invokevirtual 120, 3) := by decide +kernel
theorem dL_law_433 : decode mL_law.2.1 433 = .ok (.istore 6, 2) := by decide +kernel
theorem dL_law_435 : decode mL_law.2.1 435 = .ok (.aload_n 2, 1) := by decide +kernel
theorem dL_law_436 : decode mL_law.2.1 436 = .ok (.invokevirtual 105, 3) := by decide +kernel
theorem dL_law_439 : decode mL_law.2.1 439 = .ok (.iload 5, 2) := by decide +kernel
theorem dL_law_441 : decode mL_law.2.1 441 = .ok (.if_icmp .eq 5, 3) := by decide +kernel
theorem dL_law_444 : decode mL_law.2.1 444 = .ok (.iconst 0, 1) := by decide +kernel
theorem dL_law_445 : decode mL_law.2.1 445 = .ok (.ireturn, 1) := by decide +kernel
theorem dL_law_446 : decode mL_law.2.1 446 = .ok (.iload 5, 2) := by decide +kernel
theorem dL_law_448 : decode mL_law.2.1 448 = .ok (.ifCond .ne 22, 3) := by decide +kernel
theorem dL_law_451 : decode mL_law.2.1 451 = .ok (.aload_n 3, 1) := by decide +kernel
theorem dL_law_452 : decode mL_law.2.1 452 = .ok (.iconst 0, 1) := by decide +kernel
theorem dL_law_453 : decode mL_law.2.1 453 = .ok (.laload, 1) := by decide +kernel
theorem dL_law_454 : decode mL_law.2.1 454 = .ok (.iload 6, 2) := by decide +kernel
theorem dL_law_456 : decode mL_law.2.1 456 = .ok (.ifCond .eq 7, 3) := by decide +kernel
theorem dL_law_459 : decode mL_law.2.1 459 = .ok (.lconst 1, 1) := by decide +kernel
theorem dL_law_460 : decode mL_law.2.1 460 = .ok (.goto 4, 3) := by decide +kernel
theorem dL_law_463 : decode mL_law.2.1 463 = .ok (.lconst 0, 1) := by decide +kernel
theorem dL_law_464 : decode mL_law.2.1 464 = .ok (.lcmp, 1) := by decide +kernel
theorem dL_law_465 : decode mL_law.2.1 465 = .ok (.ifCond .eq 5, 3) := by decide +kernel
theorem dL_law_468 : decode mL_law.2.1 468 = .ok (.iconst 0, 1) := by decide +kernel
theorem dL_law_469 : decode mL_law.2.1 469 = .ok (.ireturn, 1) := by decide +kernel
theorem dL_law_470 : decode mL_law.2.1 470 = .ok (.goto 1220, 3) := by decide +kernel
theorem dL_law_473 : decode mL_law.2.1 473 = .ok (.aload_n 1, 1) := by decide +kernel
theorem dL_law_474 : decode mL_law.2.1 474 = .ok (.aload_n 0, 1) := by decide +kernel
theorem dL_law_475 : decode mL_law.2.1 475 = .ok (.iload 4, 2) := by decide +kernel
theorem dL_law_477 : decode mL_law.2.1 477 = .ok (.iconst 1, 1) := by decide +kernel
theorem dL_law_478 : decode mL_law.2.1 478 = .ok (.iadd, 1) := by decide +kernel
theorem dL_law_479 : decode mL_law.2.1 479 = .ok (.iaload, 1) := by decide +kernel
theorem dL_law_480 : decode mL_law.2.1 480 = .ok (.aload_n 0, 1) := by decide +kernel
theorem dL_law_481 : decode mL_law.2.1 481 = .ok (.iload 4, 2) := by decide +kernel
theorem dL_law_483 : decode mL_law.2.1 483 = .ok (.iconst 2, 1) := by decide +kernel
theorem dL_law_484 : decode mL_law.2.1 484 = .ok (.iadd, 1) := by decide +kernel
theorem dL_law_485 : decode mL_law.2.1 485 = .ok (.iaload, 1) := by decide +kernel
theorem dL_law_486 : decode mL_law.2.1 486 = .ok (.aload_n 0, 1) := by decide +kernel
theorem dL_law_487 : decode mL_law.2.1 487 = .ok (.iload 4, 2) := by decide +kernel
theorem dL_law_489 : decode mL_law.2.1 489 = .ok (.iconst 3, 1) := by decide +kernel
theorem dL_law_490 : decode mL_law.2.1 490 = .ok (.iadd, 1) := by decide +kernel
theorem dL_law_491 : decode mL_law.2.1 491 = .ok (.iaload, 1) := by decide +kernel
theorem dL_law_492 : decode mL_law.2.1 492 = .ok (.aload_n 3, 1) := by decide +kernel
theorem dL_law_493 : decode mL_law.2.1 493 = .ok (.invokestatic 121, 3) := by decide +kernel
theorem dL_law_496 : decode mL_law.2.1 496 = .ok (.istore 5, 2) := by decide +kernel
theorem dL_law_498 : decode mL_law.2.1 498 = .ok (.aload_n 2, 1) := by decide +kernel
theorem dL_law_499 : decode mL_law.2.1 499 = .ok (.aload_n 0, 1) := by decide +kernel
theorem dL_law_500 : decode mL_law.2.1 500 = .ok (.iload 4, 2) := by decide +kernel
theorem dL_law_502 : decode mL_law.2.1 502 = .ok (.iconst 1, 1) := by decide +kernel
theorem dL_law_503 : decode mL_law.2.1 503 = .ok (.iadd, 1) := by decide +kernel
theorem dL_law_504 : decode mL_law.2.1 504 = .ok (.iaload, 1) := by decide +kernel
theorem dL_law_505 : decode mL_law.2.1 505 = .ok (.aload_n 0, 1) := by decide +kernel
theorem dL_law_506 : decode mL_law.2.1 506 = .ok (.iload 4, 2) := by decide +kernel
theorem dL_law_508 : decode mL_law.2.1 508 = .ok (.iconst 2, 1) := by decide +kernel
theorem dL_law_509 : decode mL_law.2.1 509 = .ok (.iadd, 1) := by decide +kernel
theorem dL_law_510 : decode mL_law.2.1 510 = .ok (.iaload, 1) := by decide +kernel
theorem dL_law_511 : decode mL_law.2.1 511 = .ok (.aload_n 0, 1) := by decide +kernel
theorem dL_law_512 : decode mL_law.2.1 512 = .ok (.iload 4, 2) := by decide +kernel
theorem dL_law_514 : decode mL_law.2.1 514 = .ok (.iconst 3, 1) := by decide +kernel
theorem dL_law_515 : decode mL_law.2.1 515 = .ok (.iadd, 1) := by decide +kernel
theorem dL_law_516 : decode mL_law.2.1 516 = .ok (.iaload, 1) := by decide +kernel
theorem dL_law_517 : decode mL_law.2.1 517 = .ok (.invokevirtual 124, 3) := by decide +kernel
theorem dL_law_520 : decode mL_law.2.1 520 = .ok (.istore 6, 2) := by decide +kernel
theorem dL_law_522 : decode mL_law.2.1 522 = .ok (.aload_n 2, 1) := by decide +kernel
theorem dL_law_523 : decode mL_law.2.1 523 = .ok (.invokevirtual 105, 3) := by decide +kernel
theorem dL_law_526 : decode mL_law.2.1 526 = .ok (.iload 5, 2) := by decide +kernel
theorem dL_law_528 : decode mL_law.2.1 528 = .ok (.if_icmp .eq 5, 3) := by decide +kernel
theorem dL_law_531 : decode mL_law.2.1 531 = .ok (.iconst 0, 1) := by decide +kernel
theorem dL_law_532 : decode mL_law.2.1 532 = .ok (.ireturn, 1) := by decide +kernel
theorem dL_law_533 : decode mL_law.2.1 533 = .ok (.iload 5, 2) := by decide +kernel
theorem dL_law_535 : decode mL_law.2.1 535 = .ok (.ifCond .ne 15, 3) := by decide +kernel
theorem dL_law_538 : decode mL_law.2.1 538 = .ok (.aload_n 3, 1) := by decide +kernel
theorem dL_law_539 : decode mL_law.2.1 539 = .ok (.iconst 0, 1) := by decide +kernel
theorem dL_law_540 : decode mL_law.2.1 540 = .ok (.laload, 1) := by decide +kernel
theorem dL_law_541 : decode mL_law.2.1 541 = .ok (.iload 6, 2) := by decide +kernel
theorem dL_law_543 : decode mL_law.2.1 543 = .ok (.i2l, 1) := by decide +kernel
theorem dL_law_544 : decode mL_law.2.1 544 = .ok (.lcmp, 1) := by decide +kernel
theorem dL_law_545 : decode mL_law.2.1 545 = .ok (.ifCond .eq 5, 3) := by decide +kernel
theorem dL_law_548 : decode mL_law.2.1 548 = .ok (.iconst 0, 1) := by decide +kernel
theorem dL_law_549 : decode mL_law.2.1 549 = .ok (.ireturn, 1) := by decide +kernel
theorem dL_law_550 : decode mL_law.2.1 550 = .ok (.goto 1140, 3) := by decide +kernel
theorem dL_law_553 : decode mL_law.2.1 553 = .ok (.aload_n 1, 1) := by decide +kernel
theorem dL_law_554 : decode mL_law.2.1 554 = .ok (.aload_n 0, 1) := by decide +kernel
theorem dL_law_555 : decode mL_law.2.1 555 = .ok (.iload 4, 2) := by decide +kernel
theorem dL_law_557 : decode mL_law.2.1 557 = .ok (.iconst 1, 1) := by decide +kernel
theorem dL_law_558 : decode mL_law.2.1 558 = .ok (.iadd, 1) := by decide +kernel
theorem dL_law_559 : decode mL_law.2.1 559 = .ok (.iaload, 1) := by decide +kernel
theorem dL_law_560 : decode mL_law.2.1 560 = .ok (.aload_n 0, 1) := by decide +kernel
theorem dL_law_561 : decode mL_law.2.1 561 = .ok (.iload 4, 2) := by decide +kernel
theorem dL_law_563 : decode mL_law.2.1 563 = .ok (.iconst 2, 1) := by decide +kernel
theorem dL_law_564 : decode mL_law.2.1 564 = .ok (.iadd, 1) := by decide +kernel
theorem dL_law_565 : decode mL_law.2.1 565 = .ok (.iaload, 1) := by decide +kernel
theorem dL_law_566 : decode mL_law.2.1 566 = .ok (.aload_n 3, 1) := by decide +kernel
theorem dL_law_567 : decode mL_law.2.1 567 = .ok (.invokestatic 125, 3) := by decide +kernel
theorem dL_law_570 : decode mL_law.2.1 570 = .ok (.istore 5, 2) := by decide +kernel
theorem dL_law_572 : decode mL_law.2.1 572 = .ok (.aload_n 2, 1) := by decide +kernel
theorem dL_law_573 : decode mL_law.2.1 573 = .ok (.aload_n 0, 1) := by decide +kernel
theorem dL_law_574 : decode mL_law.2.1 574 = .ok (.iload 4, 2) := by decide +kernel
theorem dL_law_576 : decode mL_law.2.1 576 = .ok (.iconst 1, 1) := by decide +kernel
theorem dL_law_577 : decode mL_law.2.1 577 = .ok (.iadd, 1) := by decide +kernel
theorem dL_law_578 : decode mL_law.2.1 578 = .ok (.iaload, 1) := by decide +kernel
theorem dL_law_579 : decode mL_law.2.1 579 = .ok (.aload_n 0, 1) := by decide +kernel
theorem dL_law_580 : decode mL_law.2.1 580 = .ok (.iload 4, 2) := by decide +kernel
theorem dL_law_582 : decode mL_law.2.1 582 = .ok (.iconst 2, 1) := by decide +kernel
theorem dL_law_583 : decode mL_law.2.1 583 = .ok (.iadd, 1) := by decide +kernel
theorem dL_law_584 : decode mL_law.2.1 584 = .ok (.iaload, 1) := by decide +kernel
theorem dL_law_585 : decode mL_law.2.1 585 = .ok (.invokevirtual 128, 3) := by decide +kernel
theorem dL_law_588 : decode mL_law.2.1 588 = .ok (.istore 6, 2) := by decide +kernel
theorem dL_law_590 : decode mL_law.2.1 590 = .ok (.aload_n 2, 1) := by decide +kernel
theorem dL_law_591 : decode mL_law.2.1 591 = .ok (.invokevirtual 105, 3) := by decide +kernel
theorem dL_law_594 : decode mL_law.2.1 594 = .ok (.iload 5, 2) := by decide +kernel
theorem dL_law_596 : decode mL_law.2.1 596 = .ok (.if_icmp .eq 5, 3) := by decide +kernel
theorem dL_law_599 : decode mL_law.2.1 599 = .ok (.iconst 0, 1) := by decide +kernel
theorem dL_law_600 : decode mL_law.2.1 600 = .ok (.ireturn, 1) := by decide +kernel
theorem dL_law_601 : decode mL_law.2.1 601 = .ok (.iload 5, 2) := by decide +kernel
theorem dL_law_603 : decode mL_law.2.1 603 = .ok (.ifCond .ne 22, 3) := by decide +kernel
theorem dL_law_606 : decode mL_law.2.1 606 = .ok (.aload_n 3, 1) := by decide +kernel
theorem dL_law_607 : decode mL_law.2.1 607 = .ok (.iconst 0, 1) := by decide +kernel
theorem dL_law_608 : decode mL_law.2.1 608 = .ok (.laload, 1) := by decide +kernel
theorem dL_law_609 : decode mL_law.2.1 609 = .ok (.iload 6, 2) := by decide +kernel
theorem dL_law_611 : decode mL_law.2.1 611 = .ok (.ifCond .eq 7, 3) := by decide +kernel
theorem dL_law_614 : decode mL_law.2.1 614 = .ok (.lconst 1, 1) := by decide +kernel
theorem dL_law_615 : decode mL_law.2.1 615 = .ok (.goto 4, 3) := by decide +kernel
theorem dL_law_618 : decode mL_law.2.1 618 = .ok (.lconst 0, 1) := by decide +kernel
theorem dL_law_619 : decode mL_law.2.1 619 = .ok (.lcmp, 1) := by decide +kernel
theorem dL_law_620 : decode mL_law.2.1 620 = .ok (.ifCond .eq 5, 3) := by decide +kernel
theorem dL_law_623 : decode mL_law.2.1 623 = .ok (.iconst 0, 1) := by decide +kernel
theorem dL_law_624 : decode mL_law.2.1 624 = .ok (.ireturn, 1) := by decide +kernel
theorem dL_law_625 : decode mL_law.2.1 625 = .ok (.goto 1065, 3) := by decide +kernel
theorem dL_law_628 : decode mL_law.2.1 628 = .ok (.aload_n 1, 1) := by decide +kernel
theorem dL_law_629 : decode mL_law.2.1 629 = .ok (.aload_n 0, 1) := by decide +kernel
theorem dL_law_630 : decode mL_law.2.1 630 = .ok (.iload 4, 2) := by decide +kernel
theorem dL_law_632 : decode mL_law.2.1 632 = .ok (.iconst 1, 1) := by decide +kernel
theorem dL_law_633 : decode mL_law.2.1 633 = .ok (.iadd, 1) := by decide +kernel
theorem dL_law_634 : decode mL_law.2.1 634 = .ok (.iaload, 1) := by decide +kernel
theorem dL_law_635 : decode mL_law.2.1 635 = .ok (.aload_n 3, 1) := by decide +kernel
theorem dL_law_636 : decode mL_law.2.1 636 = .ok (.invokestatic 129, 3) := by decide +kernel
theorem dL_law_639 : decode mL_law.2.1 639 = .ok (.istore 5, 2) := by decide +kernel
theorem dL_law_641 : decode mL_law.2.1 641 = .ok (.aload_n 2, 1) := by decide +kernel
theorem dL_law_642 : decode mL_law.2.1 642 = .ok (.aload_n 0, 1) := by decide +kernel
theorem dL_law_643 : decode mL_law.2.1 643 = .ok (.iload 4, 2) := by decide +kernel
theorem dL_law_645 : decode mL_law.2.1 645 = .ok (.iconst 1, 1) := by decide +kernel
theorem dL_law_646 : decode mL_law.2.1 646 = .ok (.iadd, 1) := by decide +kernel
theorem dL_law_647 : decode mL_law.2.1 647 = .ok (.iaload, 1) := by decide +kernel
theorem dL_law_648 : decode mL_law.2.1 648 = .ok (.invokevirtual 132, 3) := by decide +kernel
theorem dL_law_651 : decode mL_law.2.1 651 = .ok (.istore 6, 2) := by decide +kernel
theorem dL_law_653 : decode mL_law.2.1 653 = .ok (.aload_n 2, 1) := by decide +kernel
theorem dL_law_654 : decode mL_law.2.1 654 = .ok (.invokevirtual 105, 3) := by decide +kernel
theorem dL_law_657 : decode mL_law.2.1 657 = .ok (.iload 5, 2) := by decide +kernel
theorem dL_law_659 : decode mL_law.2.1 659 = .ok (.if_icmp .eq 5, 3) := by decide +kernel
theorem dL_law_662 : decode mL_law.2.1 662 = .ok (.iconst 0, 1) := by decide +kernel
theorem dL_law_663 : decode mL_law.2.1 663 = .ok (.ireturn, 1) := by decide +kernel
theorem dL_law_664 : decode mL_law.2.1 664 = .ok (.iload 5, 2) := by decide +kernel
theorem dL_law_666 : decode mL_law.2.1 666 = .ok (.ifCond .ne 22, 3) := by decide +kernel
theorem dL_law_669 : decode mL_law.2.1 669 = .ok (.aload_n 3, 1) := by decide +kernel
theorem dL_law_670 : decode mL_law.2.1 670 = .ok (.iconst 0, 1) := by decide +kernel
theorem dL_law_671 : decode mL_law.2.1 671 = .ok (.laload, 1) := by decide +kernel
theorem dL_law_672 : decode mL_law.2.1 672 = .ok (.iload 6, 2) := by decide +kernel
theorem dL_law_674 : decode mL_law.2.1 674 = .ok (.ifCond .eq 7, 3) := by decide +kernel
theorem dL_law_677 : decode mL_law.2.1 677 = .ok (.lconst 1, 1) := by decide +kernel
theorem dL_law_678 : decode mL_law.2.1 678 = .ok (.goto 4, 3) := by decide +kernel
theorem dL_law_681 : decode mL_law.2.1 681 = .ok (.lconst 0, 1) := by decide +kernel
theorem dL_law_682 : decode mL_law.2.1 682 = .ok (.lcmp, 1) := by decide +kernel
theorem dL_law_683 : decode mL_law.2.1 683 = .ok (.ifCond .eq 5, 3) := by decide +kernel
theorem dL_law_686 : decode mL_law.2.1 686 = .ok (.iconst 0, 1) := by decide +kernel
theorem dL_law_687 : decode mL_law.2.1 687 = .ok (.ireturn, 1) := by decide +kernel
theorem dL_law_688 : decode mL_law.2.1 688 = .ok (.goto 1002, 3) := by decide +kernel
theorem dL_law_691 : decode mL_law.2.1 691 = .ok (.aload_n 1, 1) := by decide +kernel
theorem dL_law_692 : decode mL_law.2.1 692 = .ok (.aload_n 0, 1) := by decide +kernel
theorem dL_law_693 : decode mL_law.2.1 693 = .ok (.iload 4, 2) := by decide +kernel
theorem dL_law_695 : decode mL_law.2.1 695 = .ok (.iconst 1, 1) := by decide +kernel
theorem dL_law_696 : decode mL_law.2.1 696 = .ok (.iadd, 1) := by decide +kernel
theorem dL_law_697 : decode mL_law.2.1 697 = .ok (.iaload, 1) := by decide +kernel
theorem dL_law_698 : decode mL_law.2.1 698 = .ok (.aload_n 0, 1) := by decide +kernel
theorem dL_law_699 : decode mL_law.2.1 699 = .ok (.iload 4, 2) := by decide +kernel
theorem dL_law_701 : decode mL_law.2.1 701 = .ok (.iconst 2, 1) := by decide +kernel
theorem dL_law_702 : decode mL_law.2.1 702 = .ok (.iadd, 1) := by decide +kernel
theorem dL_law_703 : decode mL_law.2.1 703 = .ok (.iaload, 1) := by decide +kernel
theorem dL_law_704 : decode mL_law.2.1 704 = .ok (.aload_n 3, 1) := by decide +kernel
theorem dL_law_705 : decode mL_law.2.1 705 = .ok (.invokestatic 133, 3) := by decide +kernel
theorem dL_law_708 : decode mL_law.2.1 708 = .ok (.istore 5, 2) := by decide +kernel
theorem dL_law_710 : decode mL_law.2.1 710 = .ok (.aload_n 2, 1) := by decide +kernel
theorem dL_law_711 : decode mL_law.2.1 711 = .ok (.aload_n 0, 1) := by decide +kernel
theorem dL_law_712 : decode mL_law.2.1 712 = .ok (.iload 4, 2) := by decide +kernel
theorem dL_law_714 : decode mL_law.2.1 714 = .ok (.iconst 1, 1) := by decide +kernel
theorem dL_law_715 : decode mL_law.2.1 715 = .ok (.iadd, 1) := by decide +kernel
theorem dL_law_716 : decode mL_law.2.1 716 = .ok (.iaload, 1) := by decide +kernel
theorem dL_law_717 : decode mL_law.2.1 717 = .ok (.aload_n 0, 1) := by decide +kernel
theorem dL_law_718 : decode mL_law.2.1 718 = .ok (.iload 4, 2) := by decide +kernel
theorem dL_law_720 : decode mL_law.2.1 720 = .ok (.iconst 2, 1) := by decide +kernel
theorem dL_law_721 : decode mL_law.2.1 721 = .ok (.iadd, 1) := by decide +kernel
theorem dL_law_722 : decode mL_law.2.1 722 = .ok (.iaload, 1) := by decide +kernel
theorem dL_law_723 : decode mL_law.2.1 723 = .ok (.invokevirtual 135, 3) := by decide +kernel
theorem dL_law_726 : decode mL_law.2.1 726 = .ok (.istore 6, 2) := by decide +kernel
theorem dL_law_728 : decode mL_law.2.1 728 = .ok (.aload_n 2, 1) := by decide +kernel
theorem dL_law_729 : decode mL_law.2.1 729 = .ok (.invokevirtual 105, 3) := by decide +kernel
theorem dL_law_732 : decode mL_law.2.1 732 = .ok (.iload 5, 2) := by decide +kernel
theorem dL_law_734 : decode mL_law.2.1 734 = .ok (.if_icmp .eq 5, 3) := by decide +kernel
theorem dL_law_737 : decode mL_law.2.1 737 = .ok (.iconst 0, 1) := by decide +kernel
theorem dL_law_738 : decode mL_law.2.1 738 = .ok (.ireturn, 1) := by decide +kernel
theorem dL_law_739 : decode mL_law.2.1 739 = .ok (.iload 5, 2) := by decide +kernel
theorem dL_law_741 : decode mL_law.2.1 741 = .ok (.ifCond .ne 15, 3) := by decide +kernel
theorem dL_law_744 : decode mL_law.2.1 744 = .ok (.aload_n 3, 1) := by decide +kernel
theorem dL_law_745 : decode mL_law.2.1 745 = .ok (.iconst 0, 1) := by decide +kernel
theorem dL_law_746 : decode mL_law.2.1 746 = .ok (.laload, 1) := by decide +kernel
theorem dL_law_747 : decode mL_law.2.1 747 = .ok (.iload 6, 2) := by decide +kernel
theorem dL_law_749 : decode mL_law.2.1 749 = .ok (.i2l, 1) := by decide +kernel
theorem dL_law_750 : decode mL_law.2.1 750 = .ok (.lcmp, 1) := by decide +kernel
theorem dL_law_751 : decode mL_law.2.1 751 = .ok (.ifCond .eq 5, 3) := by decide +kernel
theorem dL_law_754 : decode mL_law.2.1 754 = .ok (.iconst 0, 1) := by decide +kernel
theorem dL_law_755 : decode mL_law.2.1 755 = .ok (.ireturn, 1) := by decide +kernel
theorem dL_law_756 : decode mL_law.2.1 756 = .ok (.goto 934, 3) := by decide +kernel
theorem dL_law_759 : decode mL_law.2.1 759 = .ok (.aload_n 1, 1) := by decide +kernel
theorem dL_law_760 : decode mL_law.2.1 760 = .ok (.aload_n 0, 1) := by decide +kernel
theorem dL_law_761 : decode mL_law.2.1 761 = .ok (.iload 4, 2) := by decide +kernel
theorem dL_law_763 : decode mL_law.2.1 763 = .ok (.iconst 1, 1) := by decide +kernel
theorem dL_law_764 : decode mL_law.2.1 764 = .ok (.iadd, 1) := by decide +kernel
theorem dL_law_765 : decode mL_law.2.1 765 = .ok (.iaload, 1) := by decide +kernel
theorem dL_law_766 : decode mL_law.2.1 766 = .ok (.aload_n 0, 1) := by decide +kernel
theorem dL_law_767 : decode mL_law.2.1 767 = .ok (.iload 4, 2) := by decide +kernel
theorem dL_law_769 : decode mL_law.2.1 769 = .ok (.iconst 2, 1) := by decide +kernel
theorem dL_law_770 : decode mL_law.2.1 770 = .ok (.iadd, 1) := by decide +kernel
theorem dL_law_771 : decode mL_law.2.1 771 = .ok (.iaload, 1) := by decide +kernel
theorem dL_law_772 : decode mL_law.2.1 772 = .ok (.ifCond .eq 7, 3) := by decide +kernel
theorem dL_law_775 : decode mL_law.2.1 775 = .ok (.iconst 1, 1) := by decide +kernel
theorem dL_law_776 : decode mL_law.2.1 776 = .ok (.goto 4, 3) := by decide +kernel
theorem dL_law_779 : decode mL_law.2.1 779 = .ok (.iconst 0, 1) := by decide +kernel
theorem dL_law_780 : decode mL_law.2.1 780 = .ok (.aload_n 0, 1) := by decide +kernel
theorem dL_law_781 : decode mL_law.2.1 781 = .ok (.iload 4, 2) := by decide +kernel
theorem dL_law_783 : decode mL_law.2.1 783 = .ok (.iconst 3, 1) := by decide +kernel
theorem dL_law_784 : decode mL_law.2.1 784 = .ok (.iadd, 1) := by decide +kernel
theorem dL_law_785 : decode mL_law.2.1 785 = .ok (.iaload, 1) := by decide +kernel
theorem dL_law_786 : decode mL_law.2.1 786 = .ok (.aload_n 0, 1) := by decide +kernel
theorem dL_law_787 : decode mL_law.2.1 787 = .ok (.iload 4, 2) := by decide +kernel
theorem dL_law_789 : decode mL_law.2.1 789 = .ok (.iconst 4, 1) := by decide +kernel
theorem dL_law_790 : decode mL_law.2.1 790 = .ok (.iadd, 1) := by decide +kernel
theorem dL_law_791 : decode mL_law.2.1 791 = .ok (.iaload, 1) := by decide +kernel
theorem dL_law_792 : decode mL_law.2.1 792 = .ok (.invokestatic 136, 3) := by decide +kernel
theorem dL_law_795 : decode mL_law.2.1 795 = .ok (.istore 5, 2) := by decide +kernel
theorem dL_law_797 : decode mL_law.2.1 797 = .ok (.aload_n 2, 1) := by decide +kernel
theorem dL_law_798 : decode mL_law.2.1 798 = .ok (.aload_n 0, 1) := by decide +kernel
theorem dL_law_799 : decode mL_law.2.1 799 = .ok (.iload 4, 2) := by decide +kernel
theorem dL_law_801 : decode mL_law.2.1 801 = .ok (.iconst 1, 1) := by decide +kernel
theorem dL_law_802 : decode mL_law.2.1 802 = .ok (.iadd, 1) := by decide +kernel
theorem dL_law_803 : decode mL_law.2.1 803 = .ok (.iaload, 1) := by decide +kernel
theorem dL_law_804 : decode mL_law.2.1 804 = .ok (.aload_n 0, 1) := by decide +kernel
theorem dL_law_805 : decode mL_law.2.1 805 = .ok (.iload 4, 2) := by decide +kernel
theorem dL_law_807 : decode mL_law.2.1 807 = .ok (.iconst 2, 1) := by decide +kernel
theorem dL_law_808 : decode mL_law.2.1 808 = .ok (.iadd, 1) := by decide +kernel
theorem dL_law_809 : decode mL_law.2.1 809 = .ok (.iaload, 1) := by decide +kernel
theorem dL_law_810 : decode mL_law.2.1 810 = .ok (.ifCond .eq 7, 3) := by decide +kernel
theorem dL_law_813 : decode mL_law.2.1 813 = .ok (.iconst 1, 1) := by decide +kernel
theorem dL_law_814 : decode mL_law.2.1 814 = .ok (.goto 4, 3) := by decide +kernel
theorem dL_law_817 : decode mL_law.2.1 817 = .ok (.iconst 0, 1) := by decide +kernel
theorem dL_law_818 : decode mL_law.2.1 818 = .ok (.aload_n 0, 1) := by decide +kernel
theorem dL_law_819 : decode mL_law.2.1 819 = .ok (.iload 4, 2) := by decide +kernel
theorem dL_law_821 : decode mL_law.2.1 821 = .ok (.iconst 3, 1) := by decide +kernel
theorem dL_law_822 : decode mL_law.2.1 822 = .ok (.iadd, 1) := by decide +kernel
theorem dL_law_823 : decode mL_law.2.1 823 = .ok (.iaload, 1) := by decide +kernel
theorem dL_law_824 : decode mL_law.2.1 824 = .ok (.aload_n 0, 1) := by decide +kernel
theorem dL_law_825 : decode mL_law.2.1 825 = .ok (.iload 4, 2) := by decide +kernel
theorem dL_law_827 : decode mL_law.2.1 827 = .ok (.iconst 4, 1) := by decide +kernel
theorem dL_law_828 : decode mL_law.2.1 828 = .ok (.iadd, 1) := by decide +kernel
theorem dL_law_829 : decode mL_law.2.1 829 = .ok (.iaload, 1) := by decide +kernel
theorem dL_law_830 : decode mL_law.2.1 830 = .ok (.invokevirtual 139, 3) := by decide +kernel
theorem dL_law_833 : decode mL_law.2.1 833 = .ok (.aload_n 2, 1) := by decide +kernel
theorem dL_law_834 : decode mL_law.2.1 834 = .ok (.invokevirtual 105, 3) := by decide +kernel
theorem dL_law_837 : decode mL_law.2.1 837 = .ok (.iload 5, 2) := by decide +kernel
theorem dL_law_839 : decode mL_law.2.1 839 = .ok (.if_icmp .eq 5, 3) := by decide +kernel
theorem dL_law_842 : decode mL_law.2.1 842 = .ok (.iconst 0, 1) := by decide +kernel
theorem dL_law_843 : decode mL_law.2.1 843 = .ok (.ireturn, 1) := by decide +kernel
theorem dL_law_844 : decode mL_law.2.1 844 = .ok (.goto 846, 3) := by decide +kernel
theorem dL_law_847 : decode mL_law.2.1 847 = .ok (.aload_n 1, 1) := by decide +kernel
theorem dL_law_848 : decode mL_law.2.1 848 = .ok (.aload_n 0, 1) := by decide +kernel
theorem dL_law_849 : decode mL_law.2.1 849 = .ok (.iload 4, 2) := by decide +kernel
theorem dL_law_851 : decode mL_law.2.1 851 = .ok (.iconst 1, 1) := by decide +kernel
theorem dL_law_852 : decode mL_law.2.1 852 = .ok (.iadd, 1) := by decide +kernel
theorem dL_law_853 : decode mL_law.2.1 853 = .ok (.iaload, 1) := by decide +kernel
theorem dL_law_854 : decode mL_law.2.1 854 = .ok (.aload_n 0, 1) := by decide +kernel
theorem dL_law_855 : decode mL_law.2.1 855 = .ok (.iload 4, 2) := by decide +kernel
theorem dL_law_857 : decode mL_law.2.1 857 = .ok (.iconst 2, 1) := by decide +kernel
theorem dL_law_858 : decode mL_law.2.1 858 = .ok (.iadd, 1) := by decide +kernel
theorem dL_law_859 : decode mL_law.2.1 859 = .ok (.iaload, 1) := by decide +kernel
theorem dL_law_860 : decode mL_law.2.1 860 = .ok (.aload_n 3, 1) := by decide +kernel
theorem dL_law_861 : decode mL_law.2.1 861 = .ok (.invokestatic 140, 3) := by decide +kernel
theorem dL_law_864 : decode mL_law.2.1 864 = .ok (.istore 5, 2) := by decide +kernel
theorem dL_law_866 : decode mL_law.2.1 866 = .ok (.aload_n 2, 1) := by decide +kernel
theorem dL_law_867 : decode mL_law.2.1 867 = .ok (.aload_n 0, 1) := by decide +kernel
theorem dL_law_868 : decode mL_law.2.1 868 = .ok (.iload 4, 2) := by decide +kernel
theorem dL_law_870 : decode mL_law.2.1 870 = .ok (.iconst 1, 1) := by decide +kernel
theorem dL_law_871 : decode mL_law.2.1 871 = .ok (.iadd, 1) := by decide +kernel
theorem dL_law_872 : decode mL_law.2.1 872 = .ok (.iaload, 1) := by decide +kernel
theorem dL_law_873 : decode mL_law.2.1 873 = .ok (.aload_n 0, 1) := by decide +kernel
theorem dL_law_874 : decode mL_law.2.1 874 = .ok (.iload 4, 2) := by decide +kernel
theorem dL_law_876 : decode mL_law.2.1 876 = .ok (.iconst 2, 1) := by decide +kernel
theorem dL_law_877 : decode mL_law.2.1 877 = .ok (.iadd, 1) := by decide +kernel
theorem dL_law_878 : decode mL_law.2.1 878 = .ok (.iaload, 1) := by decide +kernel
theorem dL_law_879 : decode mL_law.2.1 879 = .ok (.invokevirtual 142, 3) := by decide +kernel
theorem dL_law_882 : decode mL_law.2.1 882 = .ok (.istore 6, 2) := by decide +kernel
theorem dL_law_884 : decode mL_law.2.1 884 = .ok (.aload_n 2, 1) := by decide +kernel
theorem dL_law_885 : decode mL_law.2.1 885 = .ok (.invokevirtual 105, 3) := by decide +kernel
theorem dL_law_888 : decode mL_law.2.1 888 = .ok (.iload 5, 2) := by decide +kernel
theorem dL_law_890 : decode mL_law.2.1 890 = .ok (.if_icmp .eq 5, 3) := by decide +kernel
theorem dL_law_893 : decode mL_law.2.1 893 = .ok (.iconst 0, 1) := by decide +kernel
theorem dL_law_894 : decode mL_law.2.1 894 = .ok (.ireturn, 1) := by decide +kernel
theorem dL_law_895 : decode mL_law.2.1 895 = .ok (.iload 5, 2) := by decide +kernel
