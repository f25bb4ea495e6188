theorem d_L0_cell_0 : decode b_L0_cell 0 = .ok (.iload_n 1, 1) := by decide +kernel
theorem d_L0_cell_1 : decode b_L0_cell 1 = .ok (.aload_n 0, 1) := by decide +kernel
theorem d_L0_cell_2 : decode b_L0_cell 2 = .ok (.arraylength, 1) := by decide +kernel
theorem d_L0_cell_3 : decode b_L0_cell 3 = .ok (.if_icmp .ge 9, 3) := by decide +kernel
theorem d_L0_cell_6 : decode b_L0_cell 6 = .ok (.aload_n 0, 1) := by decide +kernel
theorem d_L0_cell_7 : decode b_L0_cell 7 = .ok (.iload_n 1, 1) := by decide +kernel
theorem d_L0_cell_8 : decode b_L0_cell 8 = .ok (.iaload, 1) := by decide +kernel
theorem d_L0_cell_9 : decode b_L0_cell 9 = .ok (.goto 4, 3) := by decide +kernel
theorem d_L0_cell_12 : decode b_L0_cell 12 = .ok (.iconst 0, 1) := by decide +kernel
theorem d_L0_cell_13 : decode b_L0_cell 13 = .ok (.ireturn, 1) := by decide +kernel
theorem d_L0_law_0 : decode code 0 = .ok (.new 7, 3) := by decide +kernel
theorem d_L0_law_3 : decode code 3 = .ok (.dup, 1) := by decide +kernel
theorem d_L0_law_4 : decode code 4 = .ok (.aload_n 0, 1) := by decide +kernel
theorem d_L0_law_5 : decode code 5 = .ok (.iconst 0, 1) := by decide +kernel
theorem d_L0_law_6 : decode code 6 = .ok (.invokestatic 9, 3) := by decide +kernel
theorem d_L0_law_9 : decode code 9 = .ok (.aload_n 0, 1) := by decide +kernel
theorem d_L0_law_10 : decode code 10 = .ok (.iconst 1, 1) := by decide +kernel
theorem d_L0_law_11 : decode code 11 = .ok (.invokestatic 9, 3) := by decide +kernel
theorem d_L0_law_14 : decode code 14 = .ok (.aload_n 0, 1) := by decide +kernel
theorem d_L0_law_15 : decode code 15 = .ok (.iconst 2, 1) := by decide +kernel
theorem d_L0_law_16 : decode code 16 = .ok (.invokestatic 9, 3) := by decide +kernel
theorem d_L0_law_19 : decode code 19 = .ok (.aload_n 0, 1) := by decide +kernel
theorem d_L0_law_20 : decode code 20 = .ok (.iconst 3, 1) := by decide +kernel
theorem d_L0_law_21 : decode code 21 = .ok (.invokestatic 9, 3) := by decide +kernel
theorem d_L0_law_24 : decode code 24 = .ok (.invokespecial 15, 3) := by decide +kernel
theorem d_L0_law_27 : decode code 27 = .ok (.astore_n 1, 1) := by decide +kernel
theorem d_L0_law_28 : decode code 28 = .ok (.new 18, 3) := by decide +kernel
theorem d_L0_law_31 : decode code 31 = .ok (.dup, 1) := by decide +kernel
theorem d_L0_law_32 : decode code 32 = .ok (.aload_n 0, 1) := by decide +kernel
theorem d_L0_law_33 : decode code 33 = .ok (.iconst 0, 1) := by decide +kernel
theorem d_L0_law_34 : decode code 34 = .ok (.invokestatic 9, 3) := by decide +kernel
theorem d_L0_law_37 : decode code 37 = .ok (.aload_n 0, 1) := by decide +kernel
theorem d_L0_law_38 : decode code 38 = .ok (.iconst 1, 1) := by decide +kernel
theorem d_L0_law_39 : decode code 39 = .ok (.invokestatic 9, 3) := by decide +kernel
theorem d_L0_law_42 : decode code 42 = .ok (.aload_n 0, 1) := by decide +kernel
theorem d_L0_law_43 : decode code 43 = .ok (.iconst 2, 1) := by decide +kernel
theorem d_L0_law_44 : decode code 44 = .ok (.invokestatic 9, 3) := by decide +kernel
theorem d_L0_law_47 : decode code 47 = .ok (.aload_n 0, 1) := by decide +kernel
theorem d_L0_law_48 : decode code 48 = .ok (.iconst 3, 1) := by decide +kernel
theorem d_L0_law_49 : decode code 49 = .ok (.invokestatic 9, 3) := by decide +kernel
theorem d_L0_law_52 : decode code 52 = .ok (.invokespecial 20, 3) := by decide +kernel
theorem d_L0_law_55 : decode code 55 = .ok (.astore_n 2, 1) := by decide +kernel
theorem d_L0_law_56 : decode code 56 = .ok (.iconst 4, 1) := by decide +kernel
theorem d_L0_law_57 : decode code 57 = .ok (.istore_n 3, 1) := by decide +kernel
theorem d_L0_law_58 : decode code 58 = .ok (.iload_n 3, 1) := by decide +kernel
theorem d_L0_law_59 : decode code 59 = .ok (.aload_n 0, 1) := by decide +kernel
theorem d_L0_law_60 : decode code 60 = .ok (.arraylength, 1) := by decide +kernel
theorem d_L0_law_61 : decode code 61 = .ok (.iconst 5, 1) := by decide +kernel
theorem d_L0_law_62 : decode code 62 = .ok (.isub, 1) := by decide +kernel
theorem d_L0_law_63 : decode code 63 = .ok (.if_icmp .gt 652, 3) := by decide +kernel
theorem d_L0_law_66 : decode code 66 = .ok (.aload_n 0, 1) := by decide +kernel
theorem d_L0_law_67 : decode code 67 = .ok (.iload_n 3, 1) := by decide +kernel
theorem d_L0_law_68 : decode code 68 = .ok (.iaload, 1) := by decide +kernel
theorem d_L0_law_69 : decode code 69 = .ok (.bipush 31, 2) := by decide +kernel
theorem d_L0_law_71 : decode code 71 = .ok (.iand, 1) := by decide +kernel
theorem d_L0_law_72 : decode code 72 = .ok (.tableswitch 637 0 19 #[96, 109, 142, 195, 228, 277, 311, 334, 347, 370, 383, 406, 429, 478, 491, 524, 537, 561, 611, 624], 96) := by decide +kernel
theorem d_L0_law_168 : decode code 168 = .ok (.aload_n 1, 1) := by decide +kernel
theorem d_L0_law_169 : decode code 169 = .ok (.invokevirtual 21, 3) := by decide +kernel
theorem d_L0_law_172 : decode code 172 = .ok (.aload_n 2, 1) := by decide +kernel
theorem d_L0_law_173 : decode code 173 = .ok (.invokevirtual 25, 3) := by decide +kernel
theorem d_L0_law_176 : decode code 176 = .ok (.if_icmp .eq 533, 3) := by decide +kernel
theorem d_L0_law_179 : decode code 179 = .ok (.iconst 0, 1) := by decide +kernel
theorem d_L0_law_180 : decode code 180 = .ok (.ireturn, 1) := by decide +kernel
theorem d_L0_law_181 : decode code 181 = .ok (.aload_n 1, 1) := by decide +kernel
theorem d_L0_law_182 : decode code 182 = .ok (.aload_n 0, 1) := by decide +kernel
theorem d_L0_law_183 : decode code 183 = .ok (.iload_n 3, 1) := by decide +kernel
theorem d_L0_law_184 : decode code 184 = .ok (.iconst 1, 1) := by decide +kernel
theorem d_L0_law_185 : decode code 185 = .ok (.iadd, 1) := by decide +kernel
theorem d_L0_law_186 : decode code 186 = .ok (.iaload, 1) := by decide +kernel
theorem d_L0_law_187 : decode code 187 = .ok (.aload_n 0, 1) := by decide +kernel
theorem d_L0_law_188 : decode code 188 = .ok (.iload_n 3, 1) := by decide +kernel
theorem d_L0_law_189 : decode code 189 = .ok (.iconst 2, 1) := by decide +kernel
theorem d_L0_law_190 : decode code 190 = .ok (.iadd, 1) := by decide +kernel
theorem d_L0_law_191 : decode code 191 = .ok (.iaload, 1) := by decide +kernel
theorem d_L0_law_192 : decode code 192 = .ok (.invokevirtual 26, 3) := by decide +kernel
theorem d_L0_law_195 : decode code 195 = .ok (.aload_n 2, 1) := by decide +kernel
theorem d_L0_law_196 : decode code 196 = .ok (.aload_n 0, 1) := by decide +kernel
theorem d_L0_law_197 : decode code 197 = .ok (.iload_n 3, 1) := by decide +kernel
theorem d_L0_law_198 : decode code 198 = .ok (.iconst 1, 1) := by decide +kernel
theorem d_L0_law_199 : decode code 199 = .ok (.iadd, 1) := by decide +kernel
theorem d_L0_law_200 : decode code 200 = .ok (.iaload, 1) := by decide +kernel
theorem d_L0_law_201 : decode code 201 = .ok (.aload_n 0, 1) := by decide +kernel
theorem d_L0_law_202 : decode code 202 = .ok (.iload_n 3, 1) := by decide +kernel
theorem d_L0_law_203 : decode code 203 = .ok (.iconst 2, 1) := by decide +kernel
theorem d_L0_law_204 : decode code 204 = .ok (.iadd, 1) := by decide +kernel
theorem d_L0_law_205 : decode code 205 = .ok (.iaload, 1) := by decide +kernel
theorem d_L0_law_206 : decode code 206 = .ok (.invokevirtual 30, 3) := by decide +kernel
theorem d_L0_law_209 : decode code 209 = .ok (.if_icmp .eq 500, 3) := by decide +kernel
theorem d_L0_law_212 : decode code 212 = .ok (.iconst 0, 1) := by decide +kernel
theorem d_L0_law_213 : decode code 213 = .ok (.ireturn, 1) := by decide +kernel
theorem d_L0_law_214 : decode code 214 = .ok (.aload_n 1, 1) := by decide +kernel
theorem d_L0_law_215 : decode code 215 = .ok (.aload_n 0, 1) := by decide +kernel
theorem d_L0_law_216 : decode code 216 = .ok (.iload_n 3, 1) := by decide +kernel
theorem d_L0_law_217 : decode code 217 = .ok (.iconst 1, 1) := by decide +kernel
theorem d_L0_law_218 : decode code 218 = .ok (.iadd, 1) := by decide +kernel
theorem d_L0_law_219 : decode code 219 = .ok (.iaload, 1) := by decide +kernel
theorem d_L0_law_220 : decode code 220 = .ok (.aload_n 0, 1) := by decide +kernel
theorem d_L0_law_221 : decode code 221 = .ok (.iload_n 3, 1) := by decide +kernel
theorem d_L0_law_222 : decode code 222 = .ok (.iconst 2, 1) := by decide +kernel
theorem d_L0_law_223 : decode code 223 = .ok (.iadd, 1) := by decide +kernel
theorem d_L0_law_224 : decode code 224 = .ok (.iaload, 1) := by decide +kernel
theorem d_L0_law_225 : decode code 225 = .ok (.aload_n 0, 1) := by decide +kernel
theorem d_L0_law_226 : decode code 226 = .ok (.iload_n 3, 1) := by decide +kernel
theorem d_L0_law_227 : decode code 227 = .ok (.iconst 3, 1) := by decide +kernel
theorem d_L0_law_228 : decode code 228 = .ok (.iadd, 1) := by decide +kernel
theorem d_L0_law_229 : decode code 229 = .ok (.iaload, 1) := by decide +kernel
theorem d_L0_law_230 : decode code 230 = .ok (.aload_n 0, 1) := by decide +kernel
theorem d_L0_law_231 : decode code 231 = .ok (.iload_n 3, 1) := by decide +kernel
theorem d_L0_law_232 : decode code 232 = .ok (.iconst 4, 1) := by decide +kernel
theorem d_L0_law_233 : decode code 233 = .ok (.iadd, 1) := by decide +kernel
theorem d_L0_law_234 : decode code 234 = .ok (.iaload, 1) := by decide +kernel
theorem d_L0_law_235 : decode code 235 = .ok (.invokevirtual 31, 3) := by decide +kernel
theorem d_L0_law_238 : decode code 238 = .ok (.aload_n 2, 1) := by decide +kernel
theorem d_L0_law_239 : decode code 239 = .ok (.aload_n 0, 1) := by decide +kernel
theorem d_L0_law_240 : decode code 240 = .ok (.iload_n 3, 1) := by decide +kernel
theorem d_L0_law_241 : decode code 241 = .ok (.iconst 1, 1) := by decide +kernel
theorem d_L0_law_242 : decode code 242 = .ok (.iadd, 1) := by decide +kernel
theorem d_L0_law_243 : decode code 243 = .ok (.iaload, 1) := by decide +kernel
theorem d_L0_law_244 : decode code 244 = .ok (.aload_n 0, 1) := by decide +kernel
theorem d_L0_law_245 : decode code 245 = .ok (.iload_n 3, 1) := by decide +kernel
theorem d_L0_law_246 : decode code 246 = .ok (.iconst 2, 1) := by decide +kernel
theorem d_L0_law_247 : decode code 247 = .ok (.iadd, 1) := by decide +kernel
theorem d_L0_law_248 : decode code 248 = .ok (.iaload, 1) := by decide +kernel
theorem d_L0_law_249 : decode code 249 = .ok (.aload_n 0, 1) := by decide +kernel
theorem d_L0_law_250 : decode code 250 = .ok (.iload_n 3, 1) := by decide +kernel
theorem d_L0_law_251 : decode code 251 = .ok (.iconst 3, 1) := by decide +kernel
theorem d_L0_law_252 : decode code 252 = .ok (.iadd, 1) := by decide +kernel
theorem d_L0_law_253 : decode code 253 = .ok (.iaload, 1) := by decide +kernel
theorem d_L0_law_254 : decode code 254 = .ok (.aload_n 0, 1) := by decide +kernel
theorem d_L0_law_255 : decode code 255 = .ok (.iload_n 3, 1) := by decide +kernel
theorem d_L0_law_256 : decode code 256 = .ok (.iconst 4, 1) := by decide +kernel
theorem d_L0_law_257 : decode code 257 = .ok (.iadd, 1) := by decide +kernel
theorem d_L0_law_258 : decode code 258 = .ok (.iaload, 1) := by decide +kernel
theorem d_L0_law_259 : decode code 259 = .ok (.invokevirtual 35, 3) := by decide +kernel
theorem d_L0_law_262 : decode code 262 = .ok (.if_icmp .eq 447, 3) := by decide +kernel
theorem d_L0_law_265 : decode code 265 = .ok (.iconst 0, 1) := by decide +kernel
theorem d_L0_law_266 : decode code 266 = .ok (.ireturn, 1) := by decide +kernel
theorem d_L0_law_267 : decode code 267 = .ok (.aload_n 1, 1) := by decide +kernel
theorem d_L0_law_268 : decode code 268 = .ok (.aload_n 0, 1) := by decide +kernel
theorem d_L0_law_269 : decode code 269 = .ok (.iload_n 3, 1) := by decide +kernel
theorem d_L0_law_270 : decode code 270 = .ok (.iconst 1, 1) := by decide +kernel
theorem d_L0_law_271 : decode code 271 = .ok (.iadd, 1) := by decide +kernel
theorem d_L0_law_272 : decode code 272 = .ok (.iaload, 1) := by decide +kernel
theorem d_L0_law_273 : decode code 273 = .ok (.aload_n 0, 1) := by decide +kernel
theorem d_L0_law_274 : decode code 274 = .ok (.iload_n 3, 1) := by decide +kernel
theorem d_L0_law_275 : decode code 275 = .ok (.iconst 2, 1) := by decide +kernel
theorem d_L0_law_276 : decode code 276 = .ok (.iadd, 1) := by decide +kernel
theorem d_L0_law_277 : decode code 277 = .ok (.iaload, 1) := by decide +kernel
theorem d_L0_law_278 : decode code 278 = .ok (.invokevirtual 36, 3) := by decide +kernel
theorem d_L0_law_281 : decode code 281 = .ok (.aload_n 2, 1) := by decide +kernel
theorem d_L0_law_282 : decode code 282 = .ok (.aload_n 0, 1) := by decide +kernel
theorem d_L0_law_283 : decode code 283 = .ok (.iload_n 3, 1) := by decide +kernel
theorem d_L0_law_284 : decode code 284 = .ok (.iconst 1, 1) := by decide +kernel
theorem d_L0_law_285 : decode code 285 = .ok (.iadd, 1) := by decide +kernel
theorem d_L0_law_286 : decode code 286 = .ok (.iaload, 1) := by decide +kernel
theorem d_L0_law_287 : decode code 287 = .ok (.aload_n 0, 1) := by decide +kernel
theorem d_L0_law_288 : decode code 288 = .ok (.iload_n 3, 1) := by decide +kernel
theorem d_L0_law_289 : decode code 289 = .ok (.iconst 2, 1) := by decide +kernel
theorem d_L0_law_290 : decode code 290 = .ok (.iadd, 1) := by decide +kernel
theorem d_L0_law_291 : decode code 291 = .ok (.iaload, 1) := by decide +kernel
theorem d_L0_law_292 : decode code 292 = .ok (.invokevirtual 39, 3) := by decide +kernel
theorem d_L0_law_295 : decode code 295 = .ok (.if_icmp .eq 414, 3) := by decide +kernel
theorem d_L0_law_298 : decode code 298 = .ok (.iconst 0, 1) := by decide +kernel
theorem d_L0_law_299 : decode code 299 = .ok (.ireturn, 1) := by decide +kernel
theorem d_L0_law_300 : decode code 300 = .ok (.aload_n 1, 1) := by decide +kernel
theorem d_L0_law_301 : decode code 301 = .ok (.aload_n 0, 1) := by decide +kernel
theorem d_L0_law_302 : decode code 302 = .ok (.iload_n 3, 1) := by decide +kernel
theorem d_L0_law_303 : decode code 303 = .ok (.iconst 1, 1) := by decide +kernel
theorem d_L0_law_304 : decode code 304 = .ok (.iadd, 1) := by decide +kernel
theorem d_L0_law_305 : decode code 305 = .ok (.iaload, 1) := by decide +kernel
theorem d_L0_law_306 : decode code 306 = .ok (.aload_n 0, 1) := by decide +kernel
theorem d_L0_law_307 : decode code 307 = .ok (.iload_n 3, 1) := by decide +kernel
theorem d_L0_law_308 : decode code 308 = .ok (.iconst 2, 1) := by decide +kernel
theorem d_L0_law_309 : decode code 309 = .ok (.iadd, 1) := by decide +kernel
theorem d_L0_law_310 : decode code 310 = .ok (.iaload, 1) := by decide +kernel
theorem d_L0_law_311 : decode code 311 = .ok (.ifCond .eq 7, 3) := by decide +kernel
theorem d_L0_law_314 : decode code 314 = .ok (.iconst 1, 1) := by decide +kernel
theorem d_L0_law_315 : decode code 315 = .ok (.goto 4, 3) := by decide +kernel
theorem d_L0_law_318 : decode code 318 = .ok (.iconst 0, 1) := by decide +kernel
theorem d_L0_law_319 : decode code 319 = .ok (.invokevirtual 40, 3) := by decide +kernel
theorem d_L0_law_322 : decode code 322 = .ok (.aload_n 2, 1) := by decide +kernel
theorem d_L0_law_323 : decode code 323 = .ok (.aload_n 0, 1) := by decide +kernel
theorem d_L0_law_324 : decode code 324 = .ok (.iload_n 3, 1) := by decide +kernel
theorem d_L0_law_325 : decode code 325 = .ok (.iconst 1, 1) := by decide +kernel
theorem d_L0_law_326 : decode code 326 = .ok (.iadd, 1) := by decide +kernel
theorem d_L0_law_327 : decode code 327 = .ok (.iaload, 1) := by decide +kernel
theorem d_L0_law_328 : decode code 328 = .ok (.aload_n 0, 1) := by decide +kernel
theorem d_L0_law_329 : decode code 329 = .ok (.iload_n 3, 1) := by decide +kernel
theorem d_L0_law_330 : decode code 330 = .ok (.iconst 2, 1) := by decide +kernel
theorem d_L0_law_331 : decode code 331 = .ok (.iadd, 1) := by decide +kernel
theorem d_L0_law_332 : decode code 332 = .ok (.iaload, 1) := by decide +kernel
theorem d_L0_law_333 : decode code 333 = .ok (.ifCond .eq 7, 3) := by decide +kernel
theorem d_L0_law_336 : decode code 336 = .ok (.iconst 1, 1) := by decide +kernel
theorem d_L0_law_337 : decode code 337 = .ok (.goto 4, 3) := by decide +kernel
theorem d_L0_law_340 : decode code 340 = .ok (.iconst 0, 1) := by decide +kernel
theorem d_L0_law_341 : decode code 341 = .ok (.invokevirtual 44, 3) := by decide +kernel
theorem d_L0_law_344 : decode code 344 = .ok (.if_icmp .eq 365, 3) := by decide +kernel
theorem d_L0_law_347 : decode code 347 = .ok (.iconst 0, 1) := by decide +kernel
theorem d_L0_law_348 : decode code 348 = .ok (.ireturn, 1) := by decide +kernel
theorem d_L0_law_349 : decode code 349 = .ok (.aload_n 1, 1) := by decide +kernel
theorem d_L0_law_350 : decode code 350 = .ok (.aload_n 0, 1) := by decide +kernel
theorem d_L0_law_351 : decode code 351 = .ok (.iload_n 3, 1) := by decide +kernel
theorem d_L0_law_352 : decode code 352 = .ok (.iconst 1, 1) := by decide +kernel
theorem d_L0_law_353 : decode code 353 = .ok (.iadd, 1) := by decide +kernel
theorem d_L0_law_354 : decode code 354 = .ok (.iaload, 1) := by decide +kernel
theorem d_L0_law_355 : decode code 355 = .ok (.aload_n 0, 1) := by decide +kernel
theorem d_L0_law_356 : decode code 356 = .ok (.iload_n 3, 1) := by decide +kernel
theorem d_L0_law_357 : decode code 357 = .ok (.iconst 2, 1) := by decide +kernel
theorem d_L0_law_358 : decode code 358 = .ok (.iadd, 1) := by decide +kernel
theorem d_L0_law_359 : decode code 359 = .ok (.iaload, 1) := by decide +kernel
theorem d_L0_law_360 : decode code 360 = .ok (.invokevirtual 45, 3) := by decide +kernel
theorem d_L0_law_363 : decode code 363 = .ok (.aload_n 2, 1) := by decide +kernel
theorem d_L0_law_364 : decode code 364 = .ok (.aload_n 0, 1) := by decide +kernel
theorem d_L0_law_365 : decode code 365 = .ok (.iload_n 3, 1) := by decide +kernel
theorem d_L0_law_366 : decode code 366 = .ok (.iconst 1, 1) := by decide +kernel
theorem d_L0_law_367 : decode code 367 = .ok (.iadd, 1) := by decide +kernel
theorem d_L0_law_368 : decode code 368 = .ok (.iaload, 1) := by decide +kernel
theorem d_L0_law_369 : decode code 369 = .ok (.aload_n 0, 1) := by decide +kernel
theorem d_L0_law_370 : decode code 370 = .ok (.iload_n 3, 1) := by decide +kernel
theorem d_L0_law_371 : decode code 371 = .ok (.iconst 2, 1) := by decide +kernel
theorem d_L0_law_372 : decode code 372 = .ok (.iadd, 1) := by decide +kernel
theorem d_L0_law_373 : decode code 373 = .ok (.iaload, 1) := by decide +kernel
theorem d_L0_law_374 : decode code 374 = .ok (.invokevirtual 49, 3) := by decide +kernel
theorem d_L0_law_377 : decode code 377 = .ok (.lcmp, 1) := by decide +kernel
theorem d_L0_law_378 : decode code 378 = .ok (.ifCond .eq 331, 3) := by decide +kernel
theorem d_L0_law_381 : decode code 381 = .ok (.iconst 0, 1) := by decide +kernel
theorem d_L0_law_382 : decode code 382 = .ok (.ireturn, 1) := by decide +kernel
theorem d_L0_law_383 : decode code 383 = .ok (.aload_n 1, 1) := by decide +kernel
theorem d_L0_law_384 : decode code 384 = .ok (.aload_n 0, 1) := by decide +kernel
theorem d_L0_law_385 : decode code 385 = .ok (.iload_n 3, 1) := by decide +kernel
theorem d_L0_law_386 : decode code 386 = .ok (.iconst 1, 1) := by decide +kernel
theorem d_L0_law_387 : decode code 387 = .ok (.iadd, 1) := by decide +kernel
theorem d_L0_law_388 : decode code 388 = .ok (.iaload, 1) := by decide +kernel
theorem d_L0_law_389 : decode code 389 = .ok (.invokevirtual 50, 3) := by decide +kernel
theorem d_L0_law_392 : decode code 392 = .ok (.aload_n 2, 1) := by decide +kernel
theorem d_L0_law_393 : decode code 393 = .ok (.aload_n 0, 1) := by decide +kernel
theorem d_L0_law_394 : decode code 394 = .ok (.iload_n 3, 1) := by decide +kernel
theorem d_L0_law_395 : decode code 395 = .ok (.iconst 1, 1) := by decide +kernel
theorem d_L0_law_396 : decode code 396 = .ok (.iadd, 1) := by decide +kernel
theorem d_L0_law_397 : decode code 397 = .ok (.iaload, 1) := by decide +kernel
theorem d_L0_law_398 : decode code 398 = .ok (.invokevirtual 54, 3) := by decide +kernel
theorem d_L0_law_401 : decode code 401 = .ok (.if_icmp .eq 308, 3) := by decide +kernel
theorem d_L0_law_404 : decode code 404 = .ok (.iconst 0, 1) := by decide +kernel
theorem d_L0_law_405 : decode code 405 = .ok (.ireturn, 1) := by decide +kernel
theorem d_L0_law_406 : decode code 406 = .ok (.aload_n 1, 1) := by decide +kernel
theorem d_L0_law_407 : decode code 407 = .ok (.invokevirtual 55, 3) := by decide +kernel
theorem d_L0_law_410 : decode code 410 = .ok (.aload_n 2, 1) := by decide +kernel
theorem d_L0_law_411 : decode code 411 = .ok (.invokevirtual 58, 3) := by decide +kernel
theorem d_L0_law_414 : decode code 414 = .ok (.if_icmp .eq 295, 3) := by decide +kernel
theorem d_L0_law_417 : decode code 417 = .ok (.iconst 0, 1) := by decide +kernel
theorem d_L0_law_418 : decode code 418 = .ok (.ireturn, 1) := by decide +kernel
theorem d_L0_law_419 : decode code 419 = .ok (.aload_n 1, 1) := by decide +kernel
theorem d_L0_law_420 : decode code 420 = .ok (.aload_n 0, 1) := by decide +kernel
theorem d_L0_law_421 : decode code 421 = .ok (.iload_n 3, 1) := by decide +kernel
theorem d_L0_law_422 : decode code 422 = .ok (.iconst 1, 1) := by decide +kernel
theorem d_L0_law_423 : decode code 423 = .ok (.iadd, 1) := by decide +kernel
theorem d_L0_law_424 : decode code 424 = .ok (.iaload, 1) := by decide +kernel
theorem d_L0_law_425 : decode code 425 = .ok (.invokevirtual 59, 3) := by decide +kernel
theorem d_L0_law_428 : decode code 428 = .ok (.aload_n 2, 1) := by decide +kernel
theorem d_L0_law_429 : decode code 429 = .ok (.aload_n 0, 1) := by decide +kernel
theorem d_L0_law_430 : decode code 430 = .ok (.iload_n 3, 1) := by decide +kernel
theorem d_L0_law_431 : decode code 431 = .ok (.iconst 1, 1) := by decide +kernel
theorem d_L0_law_432 : decode code 432 = .ok (.iadd, 1) := by decide +kernel
theorem d_L0_law_433 : decode code 433 = .ok (.iaload, 1) := by decide +kernel
theorem d_L0_law_434 : decode code 434 = .ok (.invokevirtual 63, 3) := by decide +kernel
theorem d_L0_law_437 : decode code 437 = .ok (.if_icmp .eq 272, 3) := by decide +kernel
theorem d_L0_law_440 : decode code 440 = .ok (.iconst 0, 1) := by decide +kernel
theorem d_L0_law_441 : decode code 441 = .ok (.ireturn, 1) := by decide +kernel
theorem d_L0_law_442 : decode code 442 = .ok (.aload_n 1, 1) := by decide +kernel
theorem d_L0_law_443 : decode code 443 = .ok (.invokevirtual 64, 3) := by decide +kernel
theorem d_L0_law_446 : decode code 446 = .ok (.aload_n 2, 1) := by decide +kernel
theorem d_L0_law_447 : decode code 447 = .ok (.invokevirtual 67, 3) := by decide +kernel
theorem d_L0_law_450 : decode code 450 = .ok (.if_icmp .eq 259, 3) := by decide +kernel
theorem d_L0_law_453 : decode code 453 = .ok (.iconst 0, 1) := by decide +kernel
theorem d_L0_law_454 : decode code 454 = .ok (.ireturn, 1) := by decide +kernel
theorem d_L0_law_455 : decode code 455 = .ok (.aload_n 1, 1) := by decide +kernel
theorem d_L0_law_456 : decode code 456 = .ok (.aload_n 0, 1) := by decide +kernel
theorem d_L0_law_457 : decode code 457 = .ok (.iload_n 3, 1) := by decide +kernel
theorem d_L0_law_458 : decode code 458 = .ok (.iconst 1, 1) := by decide +kernel
theorem d_L0_law_459 : decode code 459 = .ok (.iadd, 1) := by decide +kernel
theorem d_L0_law_460 : decode code 460 = .ok (.iaload, 1) := by decide +kernel
theorem d_L0_law_461 : decode code 461 = .ok (.invokevirtual 68, 3) := by decide +kernel
theorem d_L0_law_464 : decode code 464 = .ok (.aload_n 2, 1) := by decide +kernel
theorem d_L0_law_465 : decode code 465 = .ok (.aload_n 0, 1) := by decide +kernel
theorem d_L0_law_466 : decode code 466 = .ok (.iload_n 3, 1) := by decide +kernel
theorem d_L0_law_467 : decode code 467 = .ok (.iconst 1, 1) := by decide +kernel
theorem d_L0_law_468 : decode code 468 = .ok (.iadd, 1) := by decide +kernel
theorem d_L0_law_469 : decode code 469 = .ok (.iaload, 1) := by decide +kernel
theorem d_L0_law_470 : decode code 470 = .ok (.invokevirtual 71, 3) := by decide +kernel
theorem d_L0_law_473 : decode code 473 = .ok (.if_icmp .eq 236, 3) := by decide +kernel
theorem d_L0_law_476 : decode code 476 = .ok (.iconst 0, 1) := by decide +kernel
theorem d_L0_law_477 : decode code 477 = .ok (.ireturn, 1) := by decide +kernel
theorem d_L0_law_478 : decode code 478 = .ok (.aload_n 1, 1) := by decide +kernel
theorem d_L0_law_479 : decode code 479 = .ok (.aload_n 0, 1) := by decide +kernel
theorem d_L0_law_480 : decode code 480 = .ok (.iload_n 3, 1) := by decide +kernel
theorem d_L0_law_481 : decode code 481 = .ok (.iconst 1, 1) := by decide +kernel
theorem d_L0_law_482 : decode code 482 = .ok (.iadd, 1) := by decide +kernel
theorem d_L0_law_483 : decode code 483 = .ok (.iaload, 1) := by decide +kernel
theorem d_L0_law_484 : decode code 484 = .ok (.invokevirtual 72, 3) := by decide +kernel
theorem d_L0_law_487 : decode code 487 = .ok (.aload_n 2, 1) := by decide +kernel
theorem d_L0_law_488 : decode code 488 = .ok (.aload_n 0, 1) := by decide +kernel
theorem d_L0_law_489 : decode code 489 = .ok (.iload_n 3, 1) := by decide +kernel
theorem d_L0_law_490 : decode code 490 = .ok (.iconst 1, 1) := by decide +kernel
theorem d_L0_law_491 : decode code 491 = .ok (.iadd, 1) := by decide +kernel
theorem d_L0_law_492 : decode code 492 = .ok (.iaload, 1) := by decide +kernel
theorem d_L0_law_493 : decode code 493 = .ok (.invokevirtual 75, 3) := by decide +kernel
theorem d_L0_law_496 : decode code 496 = .ok (.if_icmp .eq 213, 3) := by decide +kernel
theorem d_L0_law_499 : decode code 499 = .ok (.iconst 0, 1) := by decide +kernel
theorem d_L0_law_500 : decode code 500 = .ok (.ireturn, 1) := by decide +kernel
theorem d_L0_law_501 : decode code 501 = .ok (.aload_n 1, 1) := by decide +kernel
theorem d_L0_law_502 : decode code 502 = .ok (.aload_n 0, 1) := by decide +kernel
theorem d_L0_law_503 : decode code 503 = .ok (.iload_n 3, 1) := by decide +kernel
theorem d_L0_law_504 : decode code 504 = .ok (.iconst 1, 1) := by decide +kernel
theorem d_L0_law_505 : decode code 505 = .ok (.iadd, 1) := by decide +kernel
theorem d_L0_law_506 : decode code 506 = .ok (.iaload, 1) := by decide +kernel
theorem d_L0_law_507 : decode code 507 = .ok (.aload_n 0, 1) := by decide +kernel
theorem d_L0_law_508 : decode code 508 = .ok (.iload_n 3, 1) := by decide +kernel
theorem d_L0_law_509 : decode code 509 = .ok (.iconst 2, 1) := by decide +kernel
theorem d_L0_law_510 : decode code 510 = .ok (.iadd, 1) := by decide +kernel
theorem d_L0_law_511 : decode code 511 = .ok (.iaload, 1) := by decide +kernel
theorem d_L0_law_512 : decode code 512 = .ok (.ifCond .eq 7, 3) := by decide +kernel
theorem d_L0_law_515 : decode code 515 = .ok (.iconst 1, 1) := by decide +kernel
theorem d_L0_law_516 : decode code 516 = .ok (.goto 4, 3) := by decide +kernel
theorem d_L0_law_519 : decode code 519 = .ok (.iconst 0, 1) := by decide +kernel
theorem d_L0_law_520 : decode code 520 = .ok (.invokevirtual 76, 3) := by decide +kernel
theorem d_L0_law_523 : decode code 523 = .ok (.aload_n 2, 1) := by decide +kernel
theorem d_L0_law_524 : decode code 524 = .ok (.aload_n 0, 1) := by decide +kernel
theorem d_L0_law_525 : decode code 525 = .ok (.iload_n 3, 1) := by decide +kernel
theorem d_L0_law_526 : decode code 526 = .ok (.iconst 1, 1) := by decide +kernel
theorem d_L0_law_527 : decode code 527 = .ok (.iadd, 1) := by decide +kernel
theorem d_L0_law_528 : decode code 528 = .ok (.iaload, 1) := by decide +kernel
theorem d_L0_law_529 : decode code 529 = .ok (.aload_n 0, 1) := by decide +kernel
theorem d_L0_law_530 : decode code 530 = .ok (.iload_n 3, 1) := by decide +kernel
theorem d_L0_law_531 : decode code 531 = .ok (.iconst 2, 1) := by decide +kernel
theorem d_L0_law_532 : decode code 532 = .ok (.iadd, 1) := by decide +kernel
theorem d_L0_law_533 : decode code 533 = .ok (.iaload, 1) := by decide +kernel
theorem d_L0_law_534 : decode code 534 = .ok (.ifCond .eq 7, 3) := by decide +kernel
theorem d_L0_law_537 : decode code 537 = .ok (.iconst 1, 1) := by decide +kernel
theorem d_L0_law_538 : decode code 538 = .ok (.goto 4, 3) := by decide +kernel
theorem d_L0_law_541 : decode code 541 = .ok (.iconst 0, 1) := by decide +kernel
theorem d_L0_law_542 : decode code 542 = .ok (.invokevirtual 80, 3) := by decide +kernel
theorem d_L0_law_545 : decode code 545 = .ok (.if_icmp .eq 164, 3) := by decide +kernel
theorem d_L0_law_548 : decode code 548 = .ok (.iconst 0, 1) := by decide +kernel
theorem d_L0_law_549 : decode code 549 = .ok (.ireturn, 1) := by decide +kernel
theorem d_L0_law_550 : decode code 550 = .ok (.aload_n 1, 1) := by decide +kernel
theorem d_L0_law_551 : decode code 551 = .ok (.invokevirtual 81, 3) := by decide +kernel
theorem d_L0_law_554 : decode code 554 = .ok (.aload_n 2, 1) := by decide +kernel
theorem d_L0_law_555 : decode code 555 = .ok (.invokevirtual 84, 3) := by decide +kernel
theorem d_L0_law_558 : decode code 558 = .ok (.if_icmp .eq 151, 3) := by decide +kernel
theorem d_L0_law_561 : decode code 561 = .ok (.iconst 0, 1) := by decide +kernel
theorem d_L0_law_562 : decode code 562 = .ok (.ireturn, 1) := by decide +kernel
theorem d_L0_law_563 : decode code 563 = .ok (.aload_n 1, 1) := by decide +kernel
theorem d_L0_law_564 : decode code 564 = .ok (.aload_n 0, 1) := by decide +kernel
theorem d_L0_law_565 : decode code 565 = .ok (.iload_n 3, 1) := by decide +kernel
theorem d_L0_law_566 : decode code 566 = .ok (.iconst 1, 1) := by decide +kernel
theorem d_L0_law_567 : decode code 567 = .ok (.iadd, 1) := by decide +kernel
theorem d_L0_law_568 : decode code 568 = .ok (.iaload, 1) := by decide +kernel
theorem d_L0_law_569 : decode code 569 = .ok (.aload_n 0, 1) := by decide +kernel
theorem d_L0_law_570 : decode code 570 = .ok (.iload_n 3, 1) := by decide +kernel
theorem d_L0_law_571 : decode code 571 = .ok (.iconst 2, 1) := by decide +kernel
theorem d_L0_law_572 : decode code 572 = .ok (.iadd, 1) := by decide +kernel
theorem d_L0_law_573 : decode code 573 = .ok (.iaload, 1) := by decide +kernel
theorem d_L0_law_574 : decode code 574 = .ok (.invokevirtual 85, 3) := by decide +kernel
theorem d_L0_law_577 : decode code 577 = .ok (.aload_n 2, 1) := by decide +kernel
theorem d_L0_law_578 : decode code 578 = .ok (.aload_n 0, 1) := by decide +kernel
theorem d_L0_law_579 : decode code 579 = .ok (.iload_n 3, 1) := by decide +kernel
theorem d_L0_law_580 : decode code 580 = .ok (.iconst 1, 1) := by decide +kernel
theorem d_L0_law_581 : decode code 581 = .ok (.iadd, 1) := by decide +kernel
theorem d_L0_law_582 : decode code 582 = .ok (.iaload, 1) := by decide +kernel
theorem d_L0_law_583 : decode code 583 = .ok (.aload_n 0, 1) := by decide +kernel
theorem d_L0_law_584 : decode code 584 = .ok (.iload_n 3, 1) := by decide +kernel
theorem d_L0_law_585 : decode code 585 = .ok (.iconst 2, 1) := by decide +kernel
theorem d_L0_law_586 : decode code 586 = .ok (.iadd, 1) := by decide +kernel
theorem d_L0_law_587 : decode code 587 = .ok (.iaload, 1) := by decide +kernel
theorem d_L0_law_588 : decode code 588 = .ok (.invokevirtual 88, 3) := by decide +kernel
theorem d_L0_law_591 : decode code 591 = .ok (.if_icmp .eq 118, 3) := by decide +kernel
theorem d_L0_law_594 : decode code 594 = .ok (.iconst 0, 1) := by decide +kernel
theorem d_L0_law_595 : decode code 595 = .ok (.ireturn, 1) := by decide +kernel
theorem d_L0_law_596 : decode code 596 = .ok (.aload_n 1, 1) := by decide +kernel
theorem d_L0_law_597 : decode code 597 = .ok (.invokevirtual 89, 3) := by decide +kernel
theorem d_L0_law_600 : decode code 600 = .ok (.aload_n 2, 1) := by decide +kernel
theorem d_L0_law_601 : decode code 601 = .ok (.invokevirtual 93, 3) := by decide +kernel
theorem d_L0_law_604 : decode code 604 = .ok (.if_icmp .eq 105, 3) := by decide +kernel
theorem d_L0_law_607 : decode code 607 = .ok (.iconst 0, 1) := by decide +kernel
theorem d_L0_law_608 : decode code 608 = .ok (.ireturn, 1) := by decide +kernel
theorem d_L0_law_609 : decode code 609 = .ok (.aload_n 1, 1) := by decide +kernel
theorem d_L0_law_610 : decode code 610 = .ok (.aload_n 0, 1) := by decide +kernel
theorem d_L0_law_611 : decode code 611 = .ok (.iload_n 3, 1) := by decide +kernel
theorem d_L0_law_612 : decode code 612 = .ok (.iconst 1, 1) := by decide +kernel
theorem d_L0_law_613 : decode code 613 = .ok (.iadd, 1) := by decide +kernel
theorem d_L0_law_614 : decode code 614 = .ok (.iaload, 1) := by decide +kernel
theorem d_L0_law_615 : decode code 615 = .ok (.invokevirtual 94, 3) := by decide +kernel
theorem d_L0_law_618 : decode code 618 = .ok (.aload_n 2, 1) := by decide +kernel
theorem d_L0_law_619 : decode code 619 = .ok (.aload_n 0, 1) := by decide +kernel
theorem d_L0_law_620 : decode code 620 = .ok (.iload_n 3, 1) := by decide +kernel
theorem d_L0_law_621 : decode code 621 = .ok (.iconst 1, 1) := by decide +kernel
theorem d_L0_law_622 : decode code 622 = .ok (.iadd, 1) := by decide +kernel
theorem d_L0_law_623 : decode code 623 = .ok (.iaload, 1) := by decide +kernel
theorem d_L0_law_624 : decode code 624 = .ok (.invokevirtual 98, 3) := by decide +kernel
theorem d_L0_law_627 : decode code 627 = .ok (.lcmp, 1) := by decide +kernel
