theorem d_L_law_0 : decode b_L_law 0 = .ok (.new 8, 3) := by decide +kernel
theorem d_L_law_3 : decode b_L_law 3 = .ok (.dup, 1) := by decide +kernel
theorem d_L_law_4 : decode b_L_law 4 = .ok (.invokespecial 70, 3) := by decide +kernel
theorem d_L_law_7 : decode b_L_law 7 = .ok (.astore_n 1, 1) := by decide +kernel
theorem d_L_law_8 : decode b_L_law 8 = .ok (.new 71, 3) := by decide +kernel
theorem d_L_law_11 : decode b_L_law 11 = .ok (.dup, 1) := by decide +kernel
theorem d_L_law_12 : decode b_L_law 12 = .ok (.invokespecial 73, 3) := by decide +kernel
theorem d_L_law_15 : decode b_L_law 15 = .ok (.astore_n 2, 1) := by decide +kernel
theorem d_L_law_16 : decode b_L_law 16 = .ok (.iconst 1, 1) := by decide +kernel
theorem d_L_law_17 : decode b_L_law 17 = .ok (.newarray .long, 2) := by decide +kernel
theorem d_L_law_19 : decode b_L_law 19 = .ok (.astore_n 3, 1) := by decide +kernel
theorem d_L_law_20 : decode b_L_law 20 = .ok (.iconst 0, 1) := by decide +kernel
theorem d_L_law_21 : decode b_L_law 21 = .ok (.istore 4, 2) := by decide +kernel
theorem d_L_law_23 : decode b_L_law 23 = .ok (.iload 4, 2) := by decide +kernel
theorem d_L_law_25 : decode b_L_law 25 = .ok (.aload_n 0, 1) := by decide +kernel
theorem d_L_law_26 : decode b_L_law 26 = .ok (.arraylength, 1) := by decide +kernel
theorem d_L_law_27 : decode b_L_law 27 = .ok (.iconst 5, 1) := by decide +kernel
theorem d_L_law_28 : decode b_L_law 28 = .ok (.isub, 1) := by decide +kernel
theorem d_L_law_29 : decode b_L_law 29 = .ok (.if_icmp .gt 1319, 3) := by decide +kernel
theorem d_L_law_32 : decode b_L_law 32 = .ok (.aload_n 0, 1) := by decide +kernel
theorem d_L_law_33 : decode b_L_law 33 = .ok (.iload 4, 2) := by decide +kernel
theorem d_L_law_35 : decode b_L_law 35 = .ok (.iaload, 1) := by decide +kernel
theorem d_L_law_36 : decode b_L_law 36 = .ok (.bipush 15, 2) := by decide +kernel
theorem d_L_law_38 : decode b_L_law 38 = .ok (.iand, 1) := by decide +kernel
theorem d_L_law_39 : decode b_L_law 39 = .ok (.tableswitch 1303 0 15 #[77, 133, 213, 293, 356, 431, 499, 591, 683, 751, 819, 899, 971, 1039, 1131, 1211], 77) := by decide +kernel
theorem d_L_law_116 : decode b_L_law 116 = .ok (.aload_n 1, 1) := by decide +kernel
theorem d_L_law_117 : decode b_L_law 117 = .ok (.aload_n 0, 1) := by decide +kernel
theorem d_L_law_118 : decode b_L_law 118 = .ok (.iload 4, 2) := by decide +kernel
theorem d_L_law_120 : decode b_L_law 120 = .ok (.iconst 1, 1) := by decide +kernel
theorem d_L_law_121 : decode b_L_law 121 = .ok (.iadd, 1) := by decide +kernel
theorem d_L_law_122 : decode b_L_law 122 = .ok (.iaload, 1) := by decide +kernel
theorem d_L_law_123 : decode b_L_law 123 = .ok (.aload_n 3, 1) := by decide +kernel
theorem d_L_law_124 : decode b_L_law 124 = .ok (.invokestatic 74, 3) := by decide +kernel
theorem d_L_law_127 : decode b_L_law 127 = .ok (.istore 5, 2) := by decide +kernel
theorem d_L_law_129 : decode b_L_law 129 = .ok (.aload_n 2, 1) := by decide +kernel
theorem d_L_law_130 : decode b_L_law 130 = .ok (.aload_n 0, 1) := by decide +kernel
theorem d_L_law_131 : decode b_L_law 131 = .ok (.iload 4, 2) := by decide +kernel
theorem d_L_law_133 : decode b_L_law 133 = .ok (.iconst 1, 1) := by decide +kernel
theorem d_L_law_134 : decode b_L_law 134 = .ok (.iadd, 1) := by decide +kernel
theorem d_L_law_135 : decode b_L_law 135 = .ok (.iaload, 1) := by decide +kernel
theorem d_L_law_136 : decode b_L_law 136 = .ok (.invokevirtual 79, 3) := by decide +kernel
theorem d_L_law_139 : decode b_L_law 139 = .ok (.istore 6, 2) := by decide +kernel
theorem d_L_law_141 : decode b_L_law 141 = .ok (.aload_n 2, 1) := by decide +kernel
theorem d_L_law_142 : decode b_L_law 142 = .ok (.invokevirtual 80, 3) := by decide +kernel
theorem d_L_law_145 : decode b_L_law 145 = .ok (.iload 5, 2) := by decide +kernel
theorem d_L_law_147 : decode b_L_law 147 = .ok (.if_icmp .eq 5, 3) := by decide +kernel
theorem d_L_law_150 : decode b_L_law 150 = .ok (.iconst 0, 1) := by decide +kernel
theorem d_L_law_151 : decode b_L_law 151 = .ok (.ireturn, 1) := by decide +kernel
theorem d_L_law_152 : decode b_L_law 152 = .ok (.iload 5, 2) := by decide +kernel
theorem d_L_law_154 : decode b_L_law 154 = .ok (.ifCond .ne 15, 3) := by decide +kernel
theorem d_L_law_157 : decode b_L_law 157 = .ok (.aload_n 3, 1) := by decide +kernel
theorem d_L_law_158 : decode b_L_law 158 = .ok (.iconst 0, 1) := by decide +kernel
theorem d_L_law_159 : decode b_L_law 159 = .ok (.laload, 1) := by decide +kernel
theorem d_L_law_160 : decode b_L_law 160 = .ok (.iload 6, 2) := by decide +kernel
theorem d_L_law_162 : decode b_L_law 162 = .ok (.i2l, 1) := by decide +kernel
theorem d_L_law_163 : decode b_L_law 163 = .ok (.lcmp, 1) := by decide +kernel
theorem d_L_law_164 : decode b_L_law 164 = .ok (.ifCond .eq 5, 3) := by decide +kernel
theorem d_L_law_167 : decode b_L_law 167 = .ok (.iconst 0, 1) := by decide +kernel
theorem d_L_law_168 : decode b_L_law 168 = .ok (.ireturn, 1) := by decide +kernel
theorem d_L_law_169 : decode b_L_law 169 = .ok (.goto 1173, 3) := by decide +kernel
theorem d_L_law_172 : decode b_L_law 172 = .ok (.aload_n 1, 1) := by decide +kernel
theorem d_L_law_173 : decode b_L_law 173 = .ok (.aload_n 0, 1) := by decide +kernel
theorem d_L_law_174 : decode b_L_law 174 = .ok (.iload 4, 2) := by decide +kernel
theorem d_L_law_176 : decode b_L_law 176 = .ok (.iconst 1, 1) := by decide +kernel
theorem d_L_law_177 : decode b_L_law 177 = .ok (.iadd, 1) := by decide +kernel
theorem d_L_law_178 : decode b_L_law 178 = .ok (.iaload, 1) := by decide +kernel
theorem d_L_law_179 : decode b_L_law 179 = .ok (.aload_n 0, 1) := by decide +kernel
theorem d_L_law_180 : decode b_L_law 180 = .ok (.iload 4, 2) := by decide +kernel
theorem d_L_law_182 : decode b_L_law 182 = .ok (.iconst 2, 1) := by decide +kernel
theorem d_L_law_183 : decode b_L_law 183 = .ok (.iadd, 1) := by decide +kernel
theorem d_L_law_184 : decode b_L_law 184 = .ok (.iaload, 1) := by decide +kernel
theorem d_L_law_185 : decode b_L_law 185 = .ok (.aload_n 0, 1) := by decide +kernel
theorem d_L_law_186 : decode b_L_law 186 = .ok (.iload 4, 2) := by decide +kernel
theorem d_L_law_188 : decode b_L_law 188 = .ok (.iconst 3, 1) := by decide +kernel
theorem d_L_law_189 : decode b_L_law 189 = .ok (.iadd, 1) := by decide +kernel
theorem d_L_law_190 : decode b_L_law 190 = .ok (.iaload, 1) := by decide +kernel
theorem d_L_law_191 : decode b_L_law 191 = .ok (.aload_n 3, 1) := by decide +kernel
theorem d_L_law_192 : decode b_L_law 192 = .ok (.invokestatic 84, 3) := by decide +kernel
theorem d_L_law_195 : decode b_L_law 195 = .ok (.istore 5, 2) := by decide +kernel
theorem d_L_law_197 : decode b_L_law 197 = .ok (.aload_n 2, 1) := by decide +kernel
theorem d_L_law_198 : decode b_L_law 198 = .ok (.aload_n 0, 1) := by decide +kernel
theorem d_L_law_199 : decode b_L_law 199 = .ok (.iload 4, 2) := by decide +kernel
theorem d_L_law_201 : decode b_L_law 201 = .ok (.iconst 1, 1) := by decide +kernel
theorem d_L_law_202 : decode b_L_law 202 = .ok (.iadd, 1) := by decide +kernel
theorem d_L_law_203 : decode b_L_law 203 = .ok (.iaload, 1) := by decide +kernel
theorem d_L_law_204 : decode b_L_law 204 = .ok (.aload_n 0, 1) := by decide +kernel
theorem d_L_law_205 : decode b_L_law 205 = .ok (.iload 4, 2) := by decide +kernel
theorem d_L_law_207 : decode b_L_law 207 = .ok (.iconst 2, 1) := by decide +kernel
theorem d_L_law_208 : decode b_L_law 208 = .ok (.iadd, 1) := by decide +kernel
theorem d_L_law_209 : decode b_L_law 209 = .ok (.iaload, 1) := by decide +kernel
theorem d_L_law_210 : decode b_L_law 210 = .ok (.aload_n 0, 1) := by decide +kernel
theorem d_L_law_211 : decode b_L_law 211 = .ok (.iload 4, 2) := by decide +kernel
theorem d_L_law_213 : decode b_L_law 213 = .ok (.iconst 3, 1) := by decide +kernel
theorem d_L_law_214 : decode b_L_law 214 = .ok (.iadd, 1) := by decide +kernel
theorem d_L_law_215 : decode b_L_law 215 = .ok (.iaload, 1) := by decide +kernel
theorem d_L_law_216 : decode b_L_law 216 = .ok (.invokevirtual 87, 3) := by decide +kernel
theorem d_L_law_219 : decode b_L_law 219 = .ok (.istore 6, 2) := by decide +kernel
theorem d_L_law_221 : decode b_L_law 221 = .ok (.aload_n 2, 1) := by decide +kernel
theorem d_L_law_222 : decode b_L_law 222 = .ok (.invokevirtual 80, 3) := by decide +kernel
theorem d_L_law_225 : decode b_L_law 225 = .ok (.iload 5, 2) := by decide +kernel
theorem d_L_law_227 : decode b_L_law 227 = .ok (.if_icmp .eq 5, 3) := by decide +kernel
theorem d_L_law_230 : decode b_L_law 230 = .ok (.iconst 0, 1) := by decide +kernel
theorem d_L_law_231 : decode b_L_law 231 = .ok (.ireturn, 1) := by decide +kernel
theorem d_L_law_232 : decode b_L_law 232 = .ok (.iload 5, 2) := by decide +kernel
theorem d_L_law_234 : decode b_L_law 234 = .ok (.ifCond .ne 15, 3) := by decide +kernel
theorem d_L_law_237 : decode b_L_law 237 = .ok (.aload_n 3, 1) := by decide +kernel
theorem d_L_law_238 : decode b_L_law 238 = .ok (.iconst 0, 1) := by decide +kernel
theorem d_L_law_239 : decode b_L_law 239 = .ok (.laload, 1) := by decide +kernel
theorem d_L_law_240 : decode b_L_law 240 = .ok (.iload 6, 2) := by decide +kernel
theorem d_L_law_242 : decode b_L_law 242 = .ok (.i2l, 1) := by decide +kernel
theorem d_L_law_243 : decode b_L_law 243 = .ok (.lcmp, 1) := by decide +kernel
theorem d_L_law_244 : decode b_L_law 244 = .ok (.ifCond .eq 5, 3) := by decide +kernel
theorem d_L_law_247 : decode b_L_law 247 = .ok (.iconst 0, 1) := by decide +kernel
theorem d_L_law_248 : decode b_L_law 248 = .ok (.ireturn, 1) := by decide +kernel
theorem d_L_law_249 : decode b_L_law 249 = .ok (.goto 1093, 3) := by decide +kernel
theorem d_L_law_252 : decode b_L_law 252 = .ok (.aload_n 1, 1) := by decide +kernel
theorem d_L_law_253 : decode b_L_law 253 = .ok (.aload_n 0, 1) := by decide +kernel
theorem d_L_law_254 : decode b_L_law 254 = .ok (.iload 4, 2) := by decide +kernel
theorem d_L_law_256 : decode b_L_law 256 = .ok (.iconst 1, 1) := by decide +kernel
theorem d_L_law_257 : decode b_L_law 257 = .ok (.iadd, 1) := by decide +kernel
theorem d_L_law_258 : decode b_L_law 258 = .ok (.iaload, 1) := by decide +kernel
theorem d_L_law_259 : decode b_L_law 259 = .ok (.aload_n 0, 1) := by decide +kernel
theorem d_L_law_260 : decode b_L_law 260 = .ok (.iload 4, 2) := by decide +kernel
theorem d_L_law_262 : decode b_L_law 262 = .ok (.iconst 2, 1) := by decide +kernel
theorem d_L_law_263 : decode b_L_law 263 = .ok (.iadd, 1) := by decide +kernel
theorem d_L_law_264 : decode b_L_law 264 = .ok (.iaload, 1) := by decide +kernel
theorem d_L_law_265 : decode b_L_law 265 = .ok (.aload_n 0, 1) := by decide +kernel
theorem d_L_law_266 : decode b_L_law 266 = .ok (.iload 4, 2) := by decide +kernel
theorem d_L_law_268 : decode b_L_law 268 = .ok (.iconst 3, 1) := by decide +kernel
theorem d_L_law_269 : decode b_L_law 269 = .ok (.iadd, 1) := by decide +kernel
theorem d_L_law_270 : decode b_L_law 270 = .ok (.iaload, 1) := by decide +kernel
theorem d_L_law_271 : decode b_L_law 271 = .ok (.aload_n 3, 1) := by decide +kernel
theorem d_L_law_272 : decode b_L_law 272 = .ok (.invokestatic 88, 3) := by decide +kernel
theorem d_L_law_275 : decode b_L_law 275 = .ok (.istore 5, 2) := by decide +kernel
theorem d_L_law_277 : decode b_L_law 277 = .ok (.aload_n 2, 1) := by decide +kernel
theorem d_L_law_278 : decode b_L_law 278 = .ok (.aload_n 0, 1) := by decide +kernel
theorem d_L_law_279 : decode b_L_law 279 = .ok (.iload 4, 2) := by decide +kernel
theorem d_L_law_281 : decode b_L_law 281 = .ok (.iconst 1, 1) := by decide +kernel
theorem d_L_law_282 : decode b_L_law 282 = .ok (.iadd, 1) := by decide +kernel
theorem d_L_law_283 : decode b_L_law 283 = .ok (.iaload, 1) := by decide +kernel
theorem d_L_law_284 : decode b_L_law 284 = .ok (.aload_n 0, 1) := by decide +kernel
theorem d_L_law_285 : decode b_L_law 285 = .ok (.iload 4, 2) := by decide +kernel
theorem d_L_law_287 : decode b_L_law 287 = .ok (.iconst 2, 1) := by decide +kernel
theorem d_L_law_288 : decode b_L_law 288 = .ok (.iadd, 1) := by decide +kernel
theorem d_L_law_289 : decode b_L_law 289 = .ok (.iaload, 1) := by decide +kernel
theorem d_L_law_290 : decode b_L_law 290 = .ok (.aload_n 0, 1) := by decide +kernel
theorem d_L_law_291 : decode b_L_law 291 = .ok (.iload 4, 2) := by decide +kernel
theorem d_L_law_293 : decode b_L_law 293 = .ok (.iconst 3, 1) := by decide +kernel
theorem d_L_law_294 : decode b_L_law 294 = .ok (.iadd, 1) := by decide +kernel
theorem d_L_law_295 : decode b_L_law 295 = .ok (.iaload, 1) := by decide +kernel
theorem d_L_law_296 : decode b_L_law 296 = .ok (.invokevirtual 90, 3) := by decide +kernel
theorem d_L_law_299 : decode b_L_law 299 = .ok (.istore 6, 2) := by decide +kernel
theorem d_L_law_301 : decode b_L_law 301 = .ok (.aload_n 2, 1) := by decide +kernel
theorem d_L_law_302 : decode b_L_law 302 = .ok (.invokevirtual 80, 3) := by decide +kernel
theorem d_L_law_305 : decode b_L_law 305 = .ok (.iload 5, 2) := by decide +kernel
theorem d_L_law_307 : decode b_L_law 307 = .ok (.if_icmp .eq 5, 3) := by decide +kernel
theorem d_L_law_310 : decode b_L_law 310 = .ok (.iconst 0, 1) := by decide +kernel
theorem d_L_law_311 : decode b_L_law 311 = .ok (.ireturn, 1) := by decide +kernel
theorem d_L_law_312 : decode b_L_law 312 = .ok (.iload 5, 2) := by decide +kernel
theorem d_L_law_314 : decode b_L_law 314 = .ok (.ifCond .ne 15, 3) := by decide +kernel
theorem d_L_law_317 : decode b_L_law 317 = .ok (.aload_n 3, 1) := by decide +kernel
theorem d_L_law_318 : decode b_L_law 318 = .ok (.iconst 0, 1) := by decide +kernel
theorem d_L_law_319 : decode b_L_law 319 = .ok (.laload, 1) := by decide +kernel
theorem d_L_law_320 : decode b_L_law 320 = .ok (.iload 6, 2) := by decide +kernel
theorem d_L_law_322 : decode b_L_law 322 = .ok (.i2l, 1) := by decide +kernel
theorem d_L_law_323 : decode b_L_law 323 = .ok (.lcmp, 1) := by decide +kernel
theorem d_L_law_324 : decode b_L_law 324 = .ok (.ifCond .eq 5, 3) := by decide +kernel
theorem d_L_law_327 : decode b_L_law 327 = .ok (.iconst 0, 1) := by decide +kernel
theorem d_L_law_328 : decode b_L_law 328 = .ok (.ireturn, 1) := by decide +kernel
theorem d_L_law_329 : decode b_L_law 329 = .ok (.goto 1013, 3) := by decide +kernel
theorem d_L_law_332 : decode b_L_law 332 = .ok (.aload_n 1, 1) := by decide +kernel
theorem d_L_law_333 : decode b_L_law 333 = .ok (.aload_n 0, 1) := by decide +kernel
theorem d_L_law_334 : decode b_L_law 334 = .ok (.iload 4, 2) := by decide +kernel
theorem d_L_law_336 : decode b_L_law 336 = .ok (.iconst 1, 1) := by decide +kernel
theorem d_L_law_337 : decode b_L_law 337 = .ok (.iadd, 1) := by decide +kernel
theorem d_L_law_338 : decode b_L_law 338 = .ok (.iaload, 1) := by decide +kernel
theorem d_L_law_339 : decode b_L_law 339 = .ok (.aload_n 3, 1) := by decide +kernel
theorem d_L_law_340 : decode b_L_law 340 = .ok (.invokestatic 91, 3) := by decide +kernel
theorem d_L_law_343 : decode b_L_law 343 = .ok (.istore 5, 2) := by decide +kernel
theorem d_L_law_345 : decode b_L_law 345 = .ok (.aload_n 2, 1) := by decide +kernel
theorem d_L_law_346 : decode b_L_law 346 = .ok (.aload_n 0, 1) := by decide +kernel
theorem d_L_law_347 : decode b_L_law 347 = .ok (.iload 4, 2) := by decide +kernel
theorem d_L_law_349 : decode b_L_law 349 = .ok (.iconst 1, 1) := by decide +kernel
theorem d_L_law_350 : decode b_L_law 350 = .ok (.iadd, 1) := by decide +kernel
theorem d_L_law_351 : decode b_L_law 351 = .ok (.iaload, 1) := by decide +kernel
theorem d_L_law_352 : decode b_L_law 352 = .ok (.invokevirtual 93, 3) := by decide +kernel
theorem d_L_law_355 : decode b_L_law 355 = .ok (.istore 6, 2) := by decide +kernel
theorem d_L_law_357 : decode b_L_law 357 = .ok (.aload_n 2, 1) := by decide +kernel
theorem d_L_law_358 : decode b_L_law 358 = .ok (.invokevirtual 80, 3) := by decide +kernel
theorem d_L_law_361 : decode b_L_law 361 = .ok (.iload 5, 2) := by decide +kernel
theorem d_L_law_363 : decode b_L_law 363 = .ok (.if_icmp .eq 5, 3) := by decide +kernel
theorem d_L_law_366 : decode b_L_law 366 = .ok (.iconst 0, 1) := by decide +kernel
theorem d_L_law_367 : decode b_L_law 367 = .ok (.ireturn, 1) := by decide +kernel
theorem d_L_law_368 : decode b_L_law 368 = .ok (.iload 5, 2) := by decide +kernel
theorem d_L_law_370 : decode b_L_law 370 = .ok (.ifCond .ne 22, 3) := by decide +kernel
theorem d_L_law_373 : decode b_L_law 373 = .ok (.aload_n 3, 1) := by decide +kernel
theorem d_L_law_374 : decode b_L_law 374 = .ok (.iconst 0, 1) := by decide +kernel
theorem d_L_law_375 : decode b_L_law 375 = .ok (.laload, 1) := by decide +kernel
theorem d_L_law_376 : decode b_L_law 376 = .ok (.iload 6, 2) := by decide +kernel
theorem d_L_law_378 : decode b_L_law 378 = .ok (.ifCond .eq 7, 3) := by decide +kernel
theorem d_L_law_381 : decode b_L_law 381 = .ok (.lconst 1, 1) := by decide +kernel
theorem d_L_law_382 : decode b_L_law 382 = .ok (.goto 4, 3) := by decide +kernel
theorem d_L_law_385 : decode b_L_law 385 = .ok (.lconst 0, 1) := by decide +kernel
theorem d_L_law_386 : decode b_L_law 386 = .ok (.lcmp, 1) := by decide +kernel
theorem d_L_law_387 : decode b_L_law 387 = .ok (.ifCond .eq 5, 3) := by decide +kernel
theorem d_L_law_390 : decode b_L_law 390 = .ok (.iconst 0, 1) := by decide +kernel
theorem d_L_law_391 : decode b_L_law 391 = .ok (.ireturn, 1) := by decide +kernel
theorem d_L_law_392 : decode b_L_law 392 = .ok (.goto 950, 3) := by decide +kernel
theorem d_L_law_395 : decode b_L_law 395 = .ok (.aload_n 1, 1) := by decide +kernel
theorem d_L_law_396 : decode b_L_law 396 = .ok (.aload_n 0, 1) := by decide +kernel
theorem d_L_law_397 : decode b_L_law 397 = .ok (.iload 4, 2) := by decide +kernel
theorem d_L_law_399 : decode b_L_law 399 = .ok (.iconst 1, 1) := by decide +kernel
theorem d_L_law_400 : decode b_L_law 400 = .ok (.iadd, 1) := by decide +kernel
theorem d_L_law_401 : decode b_L_law 401 = .ok (.iaload, 1) := by decide +kernel
theorem d_L_law_402 : decode b_L_law 402 = .ok (.aload_n 0, 1) := by decide +kernel
theorem d_L_law_403 : decode b_L_law 403 = .ok (.iload 4, 2) := by decide +kernel
