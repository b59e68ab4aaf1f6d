theorem dLW_cell_0 : decode method_2_code 0 = .ok (.iload_n 1, 1) := by decide +kernel
theorem dLW_cell_1 : decode method_2_code 1 = .ok (.aload_n 0, 1) := by decide +kernel
theorem dLW_cell_2 : decode method_2_code 2 = .ok (.arraylength, 1) := by decide +kernel
theorem dLW_cell_3 : decode method_2_code 3 = .ok (.if_icmp .ge (9), 3) := by decide +kernel
theorem dLW_cell_6 : decode method_2_code 6 = .ok (.aload_n 0, 1) := by decide +kernel
theorem dLW_cell_7 : decode method_2_code 7 = .ok (.iload_n 1, 1) := by decide +kernel
theorem dLW_cell_8 : decode method_2_code 8 = .ok (.iaload, 1) := by decide +kernel
theorem dLW_cell_9 : decode method_2_code 9 = .ok (.goto (4), 3) := by decide +kernel
theorem dLW_cell_12 : decode method_2_code 12 = .ok (.iconst 0, 1) := by decide +kernel
theorem dLW_cell_13 : decode method_2_code 13 = .ok (.ireturn, 1) := by decide +kernel
theorem dLW_law_0 : decode code 0 = .ok (.new 7, 3) := by decide +kernel
theorem dLW_law_3 : decode code 3 = .ok (.dup, 1) := by decide +kernel
theorem dLW_law_4 : decode code 4 = .ok (.aload_n 0, 1) := by decide +kernel
theorem dLW_law_5 : decode code 5 = .ok (.iconst 0, 1) := by decide +kernel
theorem dLW_law_6 : decode code 6 = .ok (.invokestatic 9, 3) := by decide +kernel
theorem dLW_law_9 : decode code 9 = .ok (.aload_n 0, 1) := by decide +kernel
theorem dLW_law_10 : decode code 10 = .ok (.iconst 1, 1) := by decide +kernel
theorem dLW_law_11 : decode code 11 = .ok (.invokestatic 9, 3) := by decide +kernel
theorem dLW_law_14 : decode code 14 = .ok (.invokespecial 15, 3) := by decide +kernel
theorem dLW_law_17 : decode code 17 = .ok (.astore_n 1, 1) := by decide +kernel
theorem dLW_law_18 : decode code 18 = .ok (.new 18, 3) := by decide +kernel
theorem dLW_law_21 : decode code 21 = .ok (.dup, 1) := by decide +kernel
theorem dLW_law_22 : decode code 22 = .ok (.aload_n 0, 1) := by decide +kernel
theorem dLW_law_23 : decode code 23 = .ok (.iconst 0, 1) := by decide +kernel
theorem dLW_law_24 : decode code 24 = .ok (.invokestatic 9, 3) := by decide +kernel
theorem dLW_law_27 : decode code 27 = .ok (.aload_n 0, 1) := by decide +kernel
theorem dLW_law_28 : decode code 28 = .ok (.iconst 1, 1) := by decide +kernel
theorem dLW_law_29 : decode code 29 = .ok (.invokestatic 9, 3) := by decide +kernel
theorem dLW_law_32 : decode code 32 = .ok (.invokespecial 20, 3) := by decide +kernel
theorem dLW_law_35 : decode code 35 = .ok (.astore_n 2, 1) := by decide +kernel
theorem dLW_law_36 : decode code 36 = .ok (.iconst 2, 1) := by decide +kernel
theorem dLW_law_37 : decode code 37 = .ok (.istore_n 3, 1) := by decide +kernel
theorem dLW_law_38 : decode code 38 = .ok (.iload_n 3, 1) := by decide +kernel
theorem dLW_law_39 : decode code 39 = .ok (.aload_n 0, 1) := by decide +kernel
theorem dLW_law_40 : decode code 40 = .ok (.arraylength, 1) := by decide +kernel
theorem dLW_law_41 : decode code 41 = .ok (.iconst 3, 1) := by decide +kernel
theorem dLW_law_42 : decode code 42 = .ok (.isub, 1) := by decide +kernel
theorem dLW_law_43 : decode code 43 = .ok (.if_icmp .gt (406), 3) := by decide +kernel
theorem dLW_law_46 : decode code 46 = .ok (.aload_n 0, 1) := by decide +kernel
theorem dLW_law_47 : decode code 47 = .ok (.iload_n 3, 1) := by decide +kernel
theorem dLW_law_48 : decode code 48 = .ok (.iaload, 1) := by decide +kernel
theorem dLW_law_49 : decode code 49 = .ok (.bipush 15, 2) := by decide +kernel
theorem dLW_law_51 : decode code 51 = .ok (.iand, 1) := by decide +kernel
theorem dLW_law_52 : decode code 52 = .ok (.tableswitch 391 0 14 #[76, 109, 142, 165, 188, 201, 214, 227, 240, 253, 276, 289, 312, 345, 368], 76) := by decide +kernel
theorem dLW_law_128 : decode code 128 = .ok (.aload_n 1, 1) := by decide +kernel
theorem dLW_law_129 : decode code 129 = .ok (.aload_n 0, 1) := by decide +kernel
theorem dLW_law_130 : decode code 130 = .ok (.iload_n 3, 1) := by decide +kernel
theorem dLW_law_131 : decode code 131 = .ok (.iconst 1, 1) := by decide +kernel
theorem dLW_law_132 : decode code 132 = .ok (.iadd, 1) := by decide +kernel
theorem dLW_law_133 : decode code 133 = .ok (.iaload, 1) := by decide +kernel
theorem dLW_law_134 : decode code 134 = .ok (.aload_n 0, 1) := by decide +kernel
theorem dLW_law_135 : decode code 135 = .ok (.iload_n 3, 1) := by decide +kernel
theorem dLW_law_136 : decode code 136 = .ok (.iconst 2, 1) := by decide +kernel
theorem dLW_law_137 : decode code 137 = .ok (.iadd, 1) := by decide +kernel
theorem dLW_law_138 : decode code 138 = .ok (.iaload, 1) := by decide +kernel
theorem dLW_law_139 : decode code 139 = .ok (.invokevirtual 21, 3) := by decide +kernel
theorem dLW_law_142 : decode code 142 = .ok (.aload_n 2, 1) := by decide +kernel
theorem dLW_law_143 : decode code 143 = .ok (.aload_n 0, 1) := by decide +kernel
theorem dLW_law_144 : decode code 144 = .ok (.iload_n 3, 1) := by decide +kernel
theorem dLW_law_145 : decode code 145 = .ok (.iconst 1, 1) := by decide +kernel
theorem dLW_law_146 : decode code 146 = .ok (.iadd, 1) := by decide +kernel
theorem dLW_law_147 : decode code 147 = .ok (.iaload, 1) := by decide +kernel
theorem dLW_law_148 : decode code 148 = .ok (.aload_n 0, 1) := by decide +kernel
theorem dLW_law_149 : decode code 149 = .ok (.iload_n 3, 1) := by decide +kernel
theorem dLW_law_150 : decode code 150 = .ok (.iconst 2, 1) := by decide +kernel
theorem dLW_law_151 : decode code 151 = .ok (.iadd, 1) := by decide +kernel
theorem dLW_law_152 : decode code 152 = .ok (.iaload, 1) := by decide +kernel
theorem dLW_law_153 : decode code 153 = .ok (.invokevirtual 25, 3) := by decide +kernel
theorem dLW_law_156 : decode code 156 = .ok (.if_icmp .eq (287), 3) := by decide +kernel
theorem dLW_law_159 : decode code 159 = .ok (.iconst 0, 1) := by decide +kernel
theorem dLW_law_160 : decode code 160 = .ok (.ireturn, 1) := by decide +kernel
theorem dLW_law_161 : decode code 161 = .ok (.aload_n 1, 1) := by decide +kernel
theorem dLW_law_162 : decode code 162 = .ok (.aload_n 0, 1) := by decide +kernel
theorem dLW_law_163 : decode code 163 = .ok (.iload_n 3, 1) := by decide +kernel
theorem dLW_law_164 : decode code 164 = .ok (.iconst 1, 1) := by decide +kernel
theorem dLW_law_165 : decode code 165 = .ok (.iadd, 1) := by decide +kernel
theorem dLW_law_166 : decode code 166 = .ok (.iaload, 1) := by decide +kernel
theorem dLW_law_167 : decode code 167 = .ok (.aload_n 0, 1) := by decide +kernel
theorem dLW_law_168 : decode code 168 = .ok (.iload_n 3, 1) := by decide +kernel
theorem dLW_law_169 : decode code 169 = .ok (.iconst 2, 1) := by decide +kernel
theorem dLW_law_170 : decode code 170 = .ok (.iadd, 1) := by decide +kernel
theorem dLW_law_171 : decode code 171 = .ok (.iaload, 1) := by decide +kernel
theorem dLW_law_172 : decode code 172 = .ok (.invokevirtual 26, 3) := by decide +kernel
theorem dLW_law_175 : decode code 175 = .ok (.aload_n 2, 1) := by decide +kernel
theorem dLW_law_176 : decode code 176 = .ok (.aload_n 0, 1) := by decide +kernel
theorem dLW_law_177 : decode code 177 = .ok (.iload_n 3, 1) := by decide +kernel
theorem dLW_law_178 : decode code 178 = .ok (.iconst 1, 1) := by decide +kernel
theorem dLW_law_179 : decode code 179 = .ok (.iadd, 1) := by decide +kernel
theorem dLW_law_180 : decode code 180 = .ok (.iaload, 1) := by decide +kernel
theorem dLW_law_181 : decode code 181 = .ok (.aload_n 0, 1) := by decide +kernel
theorem dLW_law_182 : decode code 182 = .ok (.iload_n 3, 1) := by decide +kernel
theorem dLW_law_183 : decode code 183 = .ok (.iconst 2, 1) := by decide +kernel
theorem dLW_law_184 : decode code 184 = .ok (.iadd, 1) := by decide +kernel
theorem dLW_law_185 : decode code 185 = .ok (.iaload, 1) := by decide +kernel
theorem dLW_law_186 : decode code 186 = .ok (.invokevirtual 29, 3) := by decide +kernel
theorem dLW_law_189 : decode code 189 = .ok (.if_icmp .eq (254), 3) := by decide +kernel
theorem dLW_law_192 : decode code 192 = .ok (.iconst 0, 1) := by decide +kernel
theorem dLW_law_193 : decode code 193 = .ok (.ireturn, 1) := by decide +kernel
theorem dLW_law_194 : decode code 194 = .ok (.aload_n 1, 1) := by decide +kernel
theorem dLW_law_195 : decode code 195 = .ok (.aload_n 0, 1) := by decide +kernel
theorem dLW_law_196 : decode code 196 = .ok (.iload_n 3, 1) := by decide +kernel
theorem dLW_law_197 : decode code 197 = .ok (.iconst 1, 1) := by decide +kernel
theorem dLW_law_198 : decode code 198 = .ok (.iadd, 1) := by decide +kernel
theorem dLW_law_199 : decode code 199 = .ok (.iaload, 1) := by decide +kernel
theorem dLW_law_200 : decode code 200 = .ok (.invokevirtual 30, 3) := by decide +kernel
theorem dLW_law_203 : decode code 203 = .ok (.aload_n 2, 1) := by decide +kernel
theorem dLW_law_204 : decode code 204 = .ok (.aload_n 0, 1) := by decide +kernel
theorem dLW_law_205 : decode code 205 = .ok (.iload_n 3, 1) := by decide +kernel
theorem dLW_law_206 : decode code 206 = .ok (.iconst 1, 1) := by decide +kernel
theorem dLW_law_207 : decode code 207 = .ok (.iadd, 1) := by decide +kernel
theorem dLW_law_208 : decode code 208 = .ok (.iaload, 1) := by decide +kernel
theorem dLW_law_209 : decode code 209 = .ok (.invokevirtual 34, 3) := by decide +kernel
theorem dLW_law_212 : decode code 212 = .ok (.if_icmp .eq (231), 3) := by decide +kernel
theorem dLW_law_215 : decode code 215 = .ok (.iconst 0, 1) := by decide +kernel
theorem dLW_law_216 : decode code 216 = .ok (.ireturn, 1) := by decide +kernel
theorem dLW_law_217 : decode code 217 = .ok (.aload_n 1, 1) := by decide +kernel
theorem dLW_law_218 : decode code 218 = .ok (.aload_n 0, 1) := by decide +kernel
theorem dLW_law_219 : decode code 219 = .ok (.iload_n 3, 1) := by decide +kernel
theorem dLW_law_220 : decode code 220 = .ok (.iconst 1, 1) := by decide +kernel
theorem dLW_law_221 : decode code 221 = .ok (.iadd, 1) := by decide +kernel
theorem dLW_law_222 : decode code 222 = .ok (.iaload, 1) := by decide +kernel
theorem dLW_law_223 : decode code 223 = .ok (.invokevirtual 35, 3) := by decide +kernel
theorem dLW_law_226 : decode code 226 = .ok (.aload_n 2, 1) := by decide +kernel
theorem dLW_law_227 : decode code 227 = .ok (.aload_n 0, 1) := by decide +kernel
theorem dLW_law_228 : decode code 228 = .ok (.iload_n 3, 1) := by decide +kernel
theorem dLW_law_229 : decode code 229 = .ok (.iconst 1, 1) := by decide +kernel
theorem dLW_law_230 : decode code 230 = .ok (.iadd, 1) := by decide +kernel
theorem dLW_law_231 : decode code 231 = .ok (.iaload, 1) := by decide +kernel
theorem dLW_law_232 : decode code 232 = .ok (.invokevirtual 38, 3) := by decide +kernel
theorem dLW_law_235 : decode code 235 = .ok (.if_icmp .eq (208), 3) := by decide +kernel
theorem dLW_law_238 : decode code 238 = .ok (.iconst 0, 1) := by decide +kernel
theorem dLW_law_239 : decode code 239 = .ok (.ireturn, 1) := by decide +kernel
theorem dLW_law_240 : decode code 240 = .ok (.aload_n 1, 1) := by decide +kernel
theorem dLW_law_241 : decode code 241 = .ok (.invokevirtual 39, 3) := by decide +kernel
theorem dLW_law_244 : decode code 244 = .ok (.aload_n 2, 1) := by decide +kernel
theorem dLW_law_245 : decode code 245 = .ok (.invokevirtual 43, 3) := by decide +kernel
theorem dLW_law_248 : decode code 248 = .ok (.if_icmp .eq (195), 3) := by decide +kernel
theorem dLW_law_251 : decode code 251 = .ok (.iconst 0, 1) := by decide +kernel
theorem dLW_law_252 : decode code 252 = .ok (.ireturn, 1) := by decide +kernel
theorem dLW_law_253 : decode code 253 = .ok (.aload_n 1, 1) := by decide +kernel
theorem dLW_law_254 : decode code 254 = .ok (.invokevirtual 44, 3) := by decide +kernel
theorem dLW_law_257 : decode code 257 = .ok (.aload_n 2, 1) := by decide +kernel
theorem dLW_law_258 : decode code 258 = .ok (.invokevirtual 47, 3) := by decide +kernel
theorem dLW_law_261 : decode code 261 = .ok (.if_icmp .eq (182), 3) := by decide +kernel
theorem dLW_law_264 : decode code 264 = .ok (.iconst 0, 1) := by decide +kernel
theorem dLW_law_265 : decode code 265 = .ok (.ireturn, 1) := by decide +kernel
theorem dLW_law_266 : decode code 266 = .ok (.aload_n 1, 1) := by decide +kernel
theorem dLW_law_267 : decode code 267 = .ok (.invokevirtual 48, 3) := by decide +kernel
theorem dLW_law_270 : decode code 270 = .ok (.aload_n 2, 1) := by decide +kernel
theorem dLW_law_271 : decode code 271 = .ok (.invokevirtual 51, 3) := by decide +kernel
theorem dLW_law_274 : decode code 274 = .ok (.if_icmp .eq (169), 3) := by decide +kernel
theorem dLW_law_277 : decode code 277 = .ok (.iconst 0, 1) := by decide +kernel
theorem dLW_law_278 : decode code 278 = .ok (.ireturn, 1) := by decide +kernel
theorem dLW_law_279 : decode code 279 = .ok (.aload_n 1, 1) := by decide +kernel
theorem dLW_law_280 : decode code 280 = .ok (.invokevirtual 52, 3) := by decide +kernel
theorem dLW_law_283 : decode code 283 = .ok (.aload_n 2, 1) := by decide +kernel
theorem dLW_law_284 : decode code 284 = .ok (.invokevirtual 55, 3) := by decide +kernel
theorem dLW_law_287 : decode code 287 = .ok (.if_icmp .eq (156), 3) := by decide +kernel
theorem dLW_law_290 : decode code 290 = .ok (.iconst 0, 1) := by decide +kernel
theorem dLW_law_291 : decode code 291 = .ok (.ireturn, 1) := by decide +kernel
theorem dLW_law_292 : decode code 292 = .ok (.aload_n 1, 1) := by decide +kernel
theorem dLW_law_293 : decode code 293 = .ok (.invokevirtual 56, 3) := by decide +kernel
theorem dLW_law_296 : decode code 296 = .ok (.aload_n 2, 1) := by decide +kernel
theorem dLW_law_297 : decode code 297 = .ok (.invokevirtual 59, 3) := by decide +kernel
theorem dLW_law_300 : decode code 300 = .ok (.if_icmp .eq (143), 3) := by decide +kernel
theorem dLW_law_303 : decode code 303 = .ok (.iconst 0, 1) := by decide +kernel
theorem dLW_law_304 : decode code 304 = .ok (.ireturn, 1) := by decide +kernel
theorem dLW_law_305 : decode code 305 = .ok (.aload_n 1, 1) := by decide +kernel
theorem dLW_law_306 : decode code 306 = .ok (.aload_n 0, 1) := by decide +kernel
theorem dLW_law_307 : decode code 307 = .ok (.iload_n 3, 1) := by decide +kernel
theorem dLW_law_308 : decode code 308 = .ok (.iconst 1, 1) := by decide +kernel
theorem dLW_law_309 : decode code 309 = .ok (.iadd, 1) := by decide +kernel
theorem dLW_law_310 : decode code 310 = .ok (.iaload, 1) := by decide +kernel
theorem dLW_law_311 : decode code 311 = .ok (.invokevirtual 60, 3) := by decide +kernel
theorem dLW_law_314 : decode code 314 = .ok (.aload_n 2, 1) := by decide +kernel
theorem dLW_law_315 : decode code 315 = .ok (.aload_n 0, 1) := by decide +kernel
theorem dLW_law_316 : decode code 316 = .ok (.iload_n 3, 1) := by decide +kernel
theorem dLW_law_317 : decode code 317 = .ok (.iconst 1, 1) := by decide +kernel
theorem dLW_law_318 : decode code 318 = .ok (.iadd, 1) := by decide +kernel
theorem dLW_law_319 : decode code 319 = .ok (.iaload, 1) := by decide +kernel
theorem dLW_law_320 : decode code 320 = .ok (.invokevirtual 64, 3) := by decide +kernel
theorem dLW_law_323 : decode code 323 = .ok (.if_icmp .eq (120), 3) := by decide +kernel
theorem dLW_law_326 : decode code 326 = .ok (.iconst 0, 1) := by decide +kernel
theorem dLW_law_327 : decode code 327 = .ok (.ireturn, 1) := by decide +kernel
theorem dLW_law_328 : decode code 328 = .ok (.aload_n 1, 1) := by decide +kernel
theorem dLW_law_329 : decode code 329 = .ok (.invokevirtual 65, 3) := by decide +kernel
theorem dLW_law_332 : decode code 332 = .ok (.aload_n 2, 1) := by decide +kernel
theorem dLW_law_333 : decode code 333 = .ok (.invokevirtual 68, 3) := by decide +kernel
theorem dLW_law_336 : decode code 336 = .ok (.if_icmp .eq (107), 3) := by decide +kernel
theorem dLW_law_339 : decode code 339 = .ok (.iconst 0, 1) := by decide +kernel
theorem dLW_law_340 : decode code 340 = .ok (.ireturn, 1) := by decide +kernel
theorem dLW_law_341 : decode code 341 = .ok (.aload_n 1, 1) := by decide +kernel
theorem dLW_law_342 : decode code 342 = .ok (.aload_n 0, 1) := by decide +kernel
theorem dLW_law_343 : decode code 343 = .ok (.iload_n 3, 1) := by decide +kernel
theorem dLW_law_344 : decode code 344 = .ok (.iconst 1, 1) := by decide +kernel
theorem dLW_law_345 : decode code 345 = .ok (.iadd, 1) := by decide +kernel
theorem dLW_law_346 : decode code 346 = .ok (.iaload, 1) := by decide +kernel
theorem dLW_law_347 : decode code 347 = .ok (.invokevirtual 69, 3) := by decide +kernel
theorem dLW_law_350 : decode code 350 = .ok (.aload_n 2, 1) := by decide +kernel
theorem dLW_law_351 : decode code 351 = .ok (.aload_n 0, 1) := by decide +kernel
theorem dLW_law_352 : decode code 352 = .ok (.iload_n 3, 1) := by decide +kernel
theorem dLW_law_353 : decode code 353 = .ok (.iconst 1, 1) := by decide +kernel
theorem dLW_law_354 : decode code 354 = .ok (.iadd, 1) := by decide +kernel
theorem dLW_law_355 : decode code 355 = .ok (.iaload, 1) := by decide +kernel
theorem dLW_law_356 : decode code 356 = .ok (.invokevirtual 72, 3) := by decide +kernel
theorem dLW_law_359 : decode code 359 = .ok (.if_icmp .eq (84), 3) := by decide +kernel
theorem dLW_law_362 : decode code 362 = .ok (.iconst 0, 1) := by decide +kernel
theorem dLW_law_363 : decode code 363 = .ok (.ireturn, 1) := by decide +kernel
theorem dLW_law_364 : decode code 364 = .ok (.aload_n 1, 1) := by decide +kernel
theorem dLW_law_365 : decode code 365 = .ok (.aload_n 0, 1) := by decide +kernel
theorem dLW_law_366 : decode code 366 = .ok (.iload_n 3, 1) := by decide +kernel
theorem dLW_law_367 : decode code 367 = .ok (.iconst 1, 1) := by decide +kernel
theorem dLW_law_368 : decode code 368 = .ok (.iadd, 1) := by decide +kernel
theorem dLW_law_369 : decode code 369 = .ok (.iaload, 1) := by decide +kernel
theorem dLW_law_370 : decode code 370 = .ok (.aload_n 0, 1) := by decide +kernel
theorem dLW_law_371 : decode code 371 = .ok (.iload_n 3, 1) := by decide +kernel
theorem dLW_law_372 : decode code 372 = .ok (.iconst 2, 1) := by decide +kernel
theorem dLW_law_373 : decode code 373 = .ok (.iadd, 1) := by decide +kernel
theorem dLW_law_374 : decode code 374 = .ok (.iaload, 1) := by decide +kernel
theorem dLW_law_375 : decode code 375 = .ok (.invokevirtual 73, 3) := by decide +kernel
theorem dLW_law_378 : decode code 378 = .ok (.aload_n 2, 1) := by decide +kernel
theorem dLW_law_379 : decode code 379 = .ok (.aload_n 0, 1) := by decide +kernel
theorem dLW_law_380 : decode code 380 = .ok (.iload_n 3, 1) := by decide +kernel
theorem dLW_law_381 : decode code 381 = .ok (.iconst 1, 1) := by decide +kernel
theorem dLW_law_382 : decode code 382 = .ok (.iadd, 1) := by decide +kernel
theorem dLW_law_383 : decode code 383 = .ok (.iaload, 1) := by decide +kernel
theorem dLW_law_384 : decode code 384 = .ok (.aload_n 0, 1) := by decide +kernel
theorem dLW_law_385 : decode code 385 = .ok (.iload_n 3, 1) := by decide +kernel
theorem dLW_law_386 : decode code 386 = .ok (.iconst 2, 1) := by decide +kernel
theorem dLW_law_387 : decode code 387 = .ok (.iadd, 1) := by decide +kernel
theorem dLW_law_388 : decode code 388 = .ok (.iaload, 1) := by decide +kernel
theorem dLW_law_389 : decode code 389 = .ok (.invokevirtual 76, 3) := by decide +kernel
theorem dLW_law_392 : decode code 392 = .ok (.if_icmp .eq (51), 3) := by decide +kernel
theorem dLW_law_395 : decode code 395 = .ok (.iconst 0, 1) := by decide +kernel
theorem dLW_law_396 : decode code 396 = .ok (.ireturn, 1) := by decide +kernel
theorem dLW_law_397 : decode code 397 = .ok (.aload_n 1, 1) := by decide +kernel
theorem dLW_law_398 : decode code 398 = .ok (.aload_n 0, 1) := by decide +kernel
theorem dLW_law_399 : decode code 399 = .ok (.iload_n 3, 1) := by decide +kernel
theorem dLW_law_400 : decode code 400 = .ok (.iconst 1, 1) := by decide +kernel
theorem dLW_law_401 : decode code 401 = .ok (.iadd, 1) := by decide +kernel
theorem dLW_law_402 : decode code 402 = .ok (.iaload, 1) := by decide +kernel
theorem dLW_law_403 : decode code 403 = .ok (.invokevirtual 77, 3) := by decide +kernel
theorem dLW_law_406 : decode code 406 = .ok (.aload_n 2, 1) := by decide +kernel
theorem dLW_law_407 : decode code 407 = .ok (.aload_n 0, 1) := by decide +kernel
theorem dLW_law_408 : decode code 408 = .ok (.iload_n 3, 1) := by decide +kernel
theorem dLW_law_409 : decode code 409 = .ok (.iconst 1, 1) := by decide +kernel
theorem dLW_law_410 : decode code 410 = .ok (.iadd, 1) := by decide +kernel
theorem dLW_law_411 : decode code 411 = .ok (.iaload, 1) := by decide +kernel
theorem dLW_law_412 : decode code 412 = .ok (.invokevirtual 80, 3) := by decide +kernel
theorem dLW_law_415 : decode code 415 = .ok (.if_icmp .eq (28), 3) := by decide +kernel
theorem dLW_law_418 : decode code 418 = .ok (.iconst 0, 1) := by decide +kernel
theorem dLW_law_419 : decode code 419 = .ok (.ireturn, 1) := by decide +kernel
theorem dLW_law_420 : decode code 420 = .ok (.aload_n 1, 1) := by decide +kernel
theorem dLW_law_421 : decode code 421 = .ok (.aload_n 0, 1) := by decide +kernel
theorem dLW_law_422 : decode code 422 = .ok (.iload_n 3, 1) := by decide +kernel
theorem dLW_law_423 : decode code 423 = .ok (.iconst 1, 1) := by decide +kernel
theorem dLW_law_424 : decode code 424 = .ok (.iadd, 1) := by decide +kernel
theorem dLW_law_425 : decode code 425 = .ok (.iaload, 1) := by decide +kernel
theorem dLW_law_426 : decode code 426 = .ok (.invokevirtual 81, 3) := by decide +kernel
theorem dLW_law_429 : decode code 429 = .ok (.aload_n 2, 1) := by decide +kernel
theorem dLW_law_430 : decode code 430 = .ok (.aload_n 0, 1) := by decide +kernel
theorem dLW_law_431 : decode code 431 = .ok (.iload_n 3, 1) := by decide +kernel
theorem dLW_law_432 : decode code 432 = .ok (.iconst 1, 1) := by decide +kernel
theorem dLW_law_433 : decode code 433 = .ok (.iadd, 1) := by decide +kernel
theorem dLW_law_434 : decode code 434 = .ok (.iaload, 1) := by decide +kernel
theorem dLW_law_435 : decode code 435 = .ok (.invokevirtual 84, 3) := by decide +kernel
theorem dLW_law_438 : decode code 438 = .ok (.if_icmp .eq (5), 3) := by decide +kernel
theorem dLW_law_441 : decode code 441 = .ok (.iconst 0, 1) := by decide +kernel
theorem dLW_law_442 : decode code 442 = .ok (.ireturn, 1) := by decide +kernel
theorem dLW_law_443 : decode code 443 = .ok (.iinc 3 3, 3) := by decide +kernel
theorem dLW_law_446 : decode code 446 = .ok (.goto (-408), 3) := by decide +kernel
theorem dLW_law_449 : decode code 449 = .ok (.iconst 1, 1) := by decide +kernel
theorem dLW_law_450 : decode code 450 = .ok (.ireturn, 1) := by decide +kernel
