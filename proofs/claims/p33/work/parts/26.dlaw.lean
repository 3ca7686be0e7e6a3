theorem dL_below_0 : decode cL_below 0 = .ok (.iload_n 0, 1) := by decide +kernel
theorem dL_below_1 : decode cL_below 1 = .ok (.ldc 7, 2) := by decide +kernel
theorem dL_below_3 : decode cL_below 3 = .ok (.iand, 1) := by decide +kernel
theorem dL_below_4 : decode cL_below 4 = .ok (.iload_n 1, 1) := by decide +kernel
theorem dL_below_5 : decode cL_below 5 = .ok (.irem, 1) := by decide +kernel
theorem dL_below_6 : decode cL_below 6 = .ok (.ireturn, 1) := by decide +kernel
theorem dL_cell_0 : decode cL_cell 0 = .ok (.iload_n 1, 1) := by decide +kernel
theorem dL_cell_1 : decode cL_cell 1 = .ok (.aload_n 0, 1) := by decide +kernel
theorem dL_cell_2 : decode cL_cell 2 = .ok (.arraylength, 1) := by decide +kernel
theorem dL_cell_3 : decode cL_cell 3 = .ok (.if_icmp .ge 9, 3) := by decide +kernel
theorem dL_cell_6 : decode cL_cell 6 = .ok (.aload_n 0, 1) := by decide +kernel
theorem dL_cell_7 : decode cL_cell 7 = .ok (.iload_n 1, 1) := by decide +kernel
theorem dL_cell_8 : decode cL_cell 8 = .ok (.iaload, 1) := by decide +kernel
theorem dL_cell_9 : decode cL_cell 9 = .ok (.goto 9, 3) := by decide +kernel
theorem dL_cell_12 : decode cL_cell 12 = .ok (.ldc 8, 2) := by decide +kernel
theorem dL_cell_14 : decode cL_cell 14 = .ok (.iload_n 1, 1) := by decide +kernel
theorem dL_cell_15 : decode cL_cell 15 = .ok (.iconst 3, 1) := by decide +kernel
theorem dL_cell_16 : decode cL_cell 16 = .ok (.iadd, 1) := by decide +kernel
theorem dL_cell_17 : decode cL_cell 17 = .ok (.imul, 1) := by decide +kernel
theorem dL_cell_18 : decode cL_cell 18 = .ok (.ireturn, 1) := by decide +kernel
theorem dL_act_0 : decode cL_act 0 = .ok (.aload_n 1, 1) := by decide +kernel
theorem dL_act_1 : decode cL_act 1 = .ok (.getfield 9, 3) := by decide +kernel
theorem dL_act_4 : decode cL_act 4 = .ok (.arraylength, 1) := by decide +kernel
theorem dL_act_5 : decode cL_act 5 = .ok (.istore_n 3, 1) := by decide +kernel
theorem dL_act_6 : decode cL_act 6 = .ok (.aload_n 1, 1) := by decide +kernel
theorem dL_act_7 : decode cL_act 7 = .ok (.getfield 15, 3) := by decide +kernel
theorem dL_act_10 : decode cL_act 10 = .ok (.arraylength, 1) := by decide +kernel
theorem dL_act_11 : decode cL_act 11 = .ok (.ifCond .ne 7, 3) := by decide +kernel
theorem dL_act_14 : decode cL_act 14 = .ok (.iconst 0, 1) := by decide +kernel
theorem dL_act_15 : decode cL_act 15 = .ok (.goto 14, 3) := by decide +kernel
theorem dL_act_18 : decode cL_act 18 = .ok (.iload_n 2, 1) := by decide +kernel
theorem dL_act_19 : decode cL_act 19 = .ok (.iconst 3, 1) := by decide +kernel
theorem dL_act_20 : decode cL_act 20 = .ok (.ishr, 1) := by decide +kernel
theorem dL_act_21 : decode cL_act 21 = .ok (.aload_n 1, 1) := by decide +kernel
theorem dL_act_22 : decode cL_act 22 = .ok (.getfield 15, 3) := by decide +kernel
theorem dL_act_25 : decode cL_act 25 = .ok (.arraylength, 1) := by decide +kernel
theorem dL_act_26 : decode cL_act 26 = .ok (.invokestatic 18, 3) := by decide +kernel
theorem dL_act_29 : decode cL_act 29 = .ok (.istore 4, 2) := by decide +kernel
theorem dL_act_31 : decode cL_act 31 = .ok (.iload_n 3, 1) := by decide +kernel
theorem dL_act_32 : decode cL_act 32 = .ok (.ifCond .ne 7, 3) := by decide +kernel
theorem dL_act_35 : decode cL_act 35 = .ok (.iconst 0, 1) := by decide +kernel
theorem dL_act_36 : decode cL_act 36 = .ok (.goto 10, 3) := by decide +kernel
theorem dL_act_39 : decode cL_act 39 = .ok (.iload_n 2, 1) := by decide +kernel
theorem dL_act_40 : decode cL_act 40 = .ok (.iconst 5, 1) := by decide +kernel
theorem dL_act_41 : decode cL_act 41 = .ok (.ishr, 1) := by decide +kernel
theorem dL_act_42 : decode cL_act 42 = .ok (.iload_n 3, 1) := by decide +kernel
theorem dL_act_43 : decode cL_act 43 = .ok (.invokestatic 18, 3) := by decide +kernel
theorem dL_act_46 : decode cL_act 46 = .ok (.istore 5, 2) := by decide +kernel
theorem dL_act_48 : decode cL_act 48 = .ok (.iconst 1, 1) := by decide +kernel
theorem dL_act_49 : decode cL_act 49 = .ok (.iload_n 2, 1) := by decide +kernel
theorem dL_act_50 : decode cL_act 50 = .ok (.bipush 6, 2) := by decide +kernel
theorem dL_act_52 : decode cL_act 52 = .ok (.ishr, 1) := by decide +kernel
theorem dL_act_53 : decode cL_act 53 = .ok (.iload_n 2, 1) := by decide +kernel
theorem dL_act_54 : decode cL_act 54 = .ok (.iconst 4, 1) := by decide +kernel
theorem dL_act_55 : decode cL_act 55 = .ok (.ishr, 1) := by decide +kernel
theorem dL_act_56 : decode cL_act 56 = .ok (.iconst 2, 1) := by decide +kernel
theorem dL_act_57 : decode cL_act 57 = .ok (.invokestatic 18, 3) := by decide +kernel
theorem dL_act_60 : decode cL_act 60 = .ok (.ifCond .ne 9, 3) := by decide +kernel
theorem dL_act_63 : decode cL_act 63 = .ok (.sipush 999, 3) := by decide +kernel
theorem dL_act_66 : decode cL_act 66 = .ok (.goto 6, 3) := by decide +kernel
theorem dL_act_69 : decode cL_act 69 = .ok (.sipush 200, 3) := by decide +kernel
theorem dL_act_72 : decode cL_act 72 = .ok (.invokestatic 18, 3) := by decide +kernel
theorem dL_act_75 : decode cL_act 75 = .ok (.iadd, 1) := by decide +kernel
theorem dL_act_76 : decode cL_act 76 = .ok (.istore 6, 2) := by decide +kernel
theorem dL_act_78 : decode cL_act 78 = .ok (.iload_n 3, 1) := by decide +kernel
theorem dL_act_79 : decode cL_act 79 = .ok (.bipush 16, 2) := by decide +kernel
theorem dL_act_81 : decode cL_act 81 = .ok (.if_icmp .ge 7, 3) := by decide +kernel
theorem dL_act_84 : decode cL_act 84 = .ok (.iconst 1, 1) := by decide +kernel
theorem dL_act_85 : decode cL_act 85 = .ok (.goto 4, 3) := by decide +kernel
theorem dL_act_88 : decode cL_act 88 = .ok (.iconst 0, 1) := by decide +kernel
theorem dL_act_89 : decode cL_act 89 = .ok (.istore 7, 2) := by decide +kernel
theorem dL_act_91 : decode cL_act 91 = .ok (.iload_n 2, 1) := by decide +kernel
theorem dL_act_92 : decode cL_act 92 = .ok (.bipush 16, 2) := by decide +kernel
theorem dL_act_94 : decode cL_act 94 = .ok (.invokestatic 18, 3) := by decide +kernel
theorem dL_act_97 : decode cL_act 97 = .ok (.tableswitch 640 0 11 #[63, 63, 163, 163, 270, 270, 377, 377, 377, 377, 531, 531], 63) := by decide +kernel
theorem dL_act_160 : decode cL_act 160 = .ok (.iconst 5, 1) := by decide +kernel
theorem dL_act_161 : decode cL_act 161 = .ok (.newarray .int, 2) := by decide +kernel
theorem dL_act_163 : decode cL_act 163 = .ok (.dup, 1) := by decide +kernel
theorem dL_act_164 : decode cL_act 164 = .ok (.iconst 0, 1) := by decide +kernel
theorem dL_act_165 : decode cL_act 165 = .ok (.iload_n 2, 1) := by decide +kernel
theorem dL_act_166 : decode cL_act 166 = .ok (.iconst 4, 1) := by decide +kernel
theorem dL_act_167 : decode cL_act 167 = .ok (.ishr, 1) := by decide +kernel
theorem dL_act_168 : decode cL_act 168 = .ok (.iconst 2, 1) := by decide +kernel
theorem dL_act_169 : decode cL_act 169 = .ok (.invokestatic 18, 3) := by decide +kernel
theorem dL_act_172 : decode cL_act 172 = .ok (.iastore, 1) := by decide +kernel
theorem dL_act_173 : decode cL_act 173 = .ok (.dup, 1) := by decide +kernel
theorem dL_act_174 : decode cL_act 174 = .ok (.iconst 1, 1) := by decide +kernel
theorem dL_act_175 : decode cL_act 175 = .ok (.bipush 10, 2) := by decide +kernel
theorem dL_act_177 : decode cL_act 177 = .ok (.iload_n 2, 1) := by decide +kernel
theorem dL_act_178 : decode cL_act 178 = .ok (.iconst 5, 1) := by decide +kernel
theorem dL_act_179 : decode cL_act 179 = .ok (.ishr, 1) := by decide +kernel
theorem dL_act_180 : decode cL_act 180 = .ok (.bipush 91, 2) := by decide +kernel
theorem dL_act_182 : decode cL_act 182 = .ok (.invokestatic 18, 3) := by decide +kernel
theorem dL_act_185 : decode cL_act 185 = .ok (.iadd, 1) := by decide +kernel
theorem dL_act_186 : decode cL_act 186 = .ok (.iastore, 1) := by decide +kernel
theorem dL_act_187 : decode cL_act 187 = .ok (.dup, 1) := by decide +kernel
theorem dL_act_188 : decode cL_act 188 = .ok (.iconst 2, 1) := by decide +kernel
theorem dL_act_189 : decode cL_act 189 = .ok (.iconst 1, 1) := by decide +kernel
theorem dL_act_190 : decode cL_act 190 = .ok (.iload_n 2, 1) := by decide +kernel
theorem dL_act_191 : decode cL_act 191 = .ok (.bipush 7, 2) := by decide +kernel
theorem dL_act_193 : decode cL_act 193 = .ok (.ishr, 1) := by decide +kernel
theorem dL_act_194 : decode cL_act 194 = .ok (.bipush 9, 2) := by decide +kernel
theorem dL_act_196 : decode cL_act 196 = .ok (.invokestatic 18, 3) := by decide +kernel
theorem dL_act_199 : decode cL_act 199 = .ok (.iadd, 1) := by decide +kernel
theorem dL_act_200 : decode cL_act 200 = .ok (.iastore, 1) := by decide +kernel
theorem dL_act_201 : decode cL_act 201 = .ok (.dup, 1) := by decide +kernel
theorem dL_act_202 : decode cL_act 202 = .ok (.iconst 3, 1) := by decide +kernel
theorem dL_act_203 : decode cL_act 203 = .ok (.iconst 0, 1) := by decide +kernel
theorem dL_act_204 : decode cL_act 204 = .ok (.iastore, 1) := by decide +kernel
theorem dL_act_205 : decode cL_act 205 = .ok (.dup, 1) := by decide +kernel
theorem dL_act_206 : decode cL_act 206 = .ok (.iconst 4, 1) := by decide +kernel
theorem dL_act_207 : decode cL_act 207 = .ok (.iconst (-1), 1) := by decide +kernel
theorem dL_act_208 : decode cL_act 208 = .ok (.iastore, 1) := by decide +kernel
theorem dL_act_209 : decode cL_act 209 = .ok (.astore 8, 2) := by decide +kernel
theorem dL_act_211 : decode cL_act 211 = .ok (.iload 7, 2) := by decide +kernel
theorem dL_act_213 : decode cL_act 213 = .ok (.ifCond .eq 16, 3) := by decide +kernel
theorem dL_act_216 : decode cL_act 216 = .ok (.aload_n 1, 1) := by decide +kernel
theorem dL_act_217 : decode cL_act 217 = .ok (.aload_n 1, 1) := by decide +kernel
theorem dL_act_218 : decode cL_act 218 = .ok (.getfield 9, 3) := by decide +kernel
theorem dL_act_221 : decode cL_act 221 = .ok (.aload 8, 2) := by decide +kernel
theorem dL_act_223 : decode cL_act 223 = .ok (.invokestatic 24, 3) := by decide +kernel
theorem dL_act_226 : decode cL_act 226 = .ok (.putfield 9, 3) := by decide +kernel
theorem dL_act_229 : decode cL_act 229 = .ok (.aload_n 0, 1) := by decide +kernel
theorem dL_act_230 : decode cL_act 230 = .ok (.aload 8, 2) := by decide +kernel
theorem dL_act_232 : decode cL_act 232 = .ok (.iconst 0, 1) := by decide +kernel
theorem dL_act_233 : decode cL_act 233 = .ok (.iaload, 1) := by decide +kernel
theorem dL_act_234 : decode cL_act 234 = .ok (.aload 8, 2) := by decide +kernel
theorem dL_act_236 : decode cL_act 236 = .ok (.iconst 1, 1) := by decide +kernel
theorem dL_act_237 : decode cL_act 237 = .ok (.iaload, 1) := by decide +kernel
theorem dL_act_238 : decode cL_act 238 = .ok (.aload 8, 2) := by decide +kernel
theorem dL_act_240 : decode cL_act 240 = .ok (.iconst 2, 1) := by decide +kernel
theorem dL_act_241 : decode cL_act 241 = .ok (.iaload, 1) := by decide +kernel
theorem dL_act_242 : decode cL_act 242 = .ok (.invokevirtual 28, 3) := by decide +kernel
theorem dL_act_245 : decode cL_act 245 = .ok (.iload_n 3, 1) := by decide +kernel
theorem dL_act_246 : decode cL_act 246 = .ok (.if_icmp .ne 12, 3) := by decide +kernel
theorem dL_act_249 : decode cL_act 249 = .ok (.iload 7, 2) := by decide +kernel
theorem dL_act_251 : decode cL_act 251 = .ok (.ifCond .eq 7, 3) := by decide +kernel
theorem dL_act_254 : decode cL_act 254 = .ok (.iconst 1, 1) := by decide +kernel
theorem dL_act_255 : decode cL_act 255 = .ok (.goto 4, 3) := by decide +kernel
theorem dL_act_258 : decode cL_act 258 = .ok (.iconst 0, 1) := by decide +kernel
theorem dL_act_259 : decode cL_act 259 = .ok (.ireturn, 1) := by decide +kernel
theorem dL_act_260 : decode cL_act 260 = .ok (.iload_n 3, 1) := by decide +kernel
theorem dL_act_261 : decode cL_act 261 = .ok (.ifCond .ne 5, 3) := by decide +kernel
theorem dL_act_264 : decode cL_act 264 = .ok (.iconst 1, 1) := by decide +kernel
theorem dL_act_265 : decode cL_act 265 = .ok (.ireturn, 1) := by decide +kernel
theorem dL_act_266 : decode cL_act 266 = .ok (.iconst 1, 1) := by decide +kernel
theorem dL_act_267 : decode cL_act 267 = .ok (.istore 7, 2) := by decide +kernel
theorem dL_act_269 : decode cL_act 269 = .ok (.iload_n 2, 1) := by decide +kernel
theorem dL_act_270 : decode cL_act 270 = .ok (.bipush 8, 2) := by decide +kernel
theorem dL_act_272 : decode cL_act 272 = .ok (.ishr, 1) := by decide +kernel
theorem dL_act_273 : decode cL_act 273 = .ok (.iload 5, 2) := by decide +kernel
theorem dL_act_275 : decode cL_act 275 = .ok (.iconst 1, 1) := by decide +kernel
theorem dL_act_276 : decode cL_act 276 = .ok (.iadd, 1) := by decide +kernel
theorem dL_act_277 : decode cL_act 277 = .ok (.invokestatic 18, 3) := by decide +kernel
theorem dL_act_280 : decode cL_act 280 = .ok (.iconst 1, 1) := by decide +kernel
theorem dL_act_281 : decode cL_act 281 = .ok (.isub, 1) := by decide +kernel
theorem dL_act_282 : decode cL_act 282 = .ok (.istore 8, 2) := by decide +kernel
theorem dL_act_284 : decode cL_act 284 = .ok (.iload 8, 2) := by decide +kernel
theorem dL_act_286 : decode cL_act 286 = .ok (.ifCond .lt 27, 3) := by decide +kernel
theorem dL_act_289 : decode cL_act 289 = .ok (.aload_n 1, 1) := by decide +kernel
theorem dL_act_290 : decode cL_act 290 = .ok (.getfield 9, 3) := by decide +kernel
theorem dL_act_293 : decode cL_act 293 = .ok (.iload 8, 2) := by decide +kernel
theorem dL_act_295 : decode cL_act 295 = .ok (.aaload, 1) := by decide +kernel
theorem dL_act_296 : decode cL_act 296 = .ok (.iconst 0, 1) := by decide +kernel
theorem dL_act_297 : decode cL_act 297 = .ok (.iaload, 1) := by decide +kernel
theorem dL_act_298 : decode cL_act 298 = .ok (.aload_n 1, 1) := by decide +kernel
theorem dL_act_299 : decode cL_act 299 = .ok (.getfield 9, 3) := by decide +kernel
theorem dL_act_302 : decode cL_act 302 = .ok (.iload 5, 2) := by decide +kernel
theorem dL_act_304 : decode cL_act 304 = .ok (.aaload, 1) := by decide +kernel
theorem dL_act_305 : decode cL_act 305 = .ok (.iconst 0, 1) := by decide +kernel
theorem dL_act_306 : decode cL_act 306 = .ok (.iaload, 1) := by decide +kernel
theorem dL_act_307 : decode cL_act 307 = .ok (.if_icmp .eq 6, 3) := by decide +kernel
theorem dL_act_310 : decode cL_act 310 = .ok (.iconst (-1), 1) := by decide +kernel
theorem dL_act_311 : decode cL_act 311 = .ok (.istore 8, 2) := by decide +kernel
theorem dL_act_313 : decode cL_act 313 = .ok (.aload_n 1, 1) := by decide +kernel
theorem dL_act_314 : decode cL_act 314 = .ok (.getfield 9, 3) := by decide +kernel
theorem dL_act_317 : decode cL_act 317 = .ok (.iload 5, 2) := by decide +kernel
theorem dL_act_319 : decode cL_act 319 = .ok (.aaload, 1) := by decide +kernel
theorem dL_act_320 : decode cL_act 320 = .ok (.iconst 3, 1) := by decide +kernel
theorem dL_act_321 : decode cL_act 321 = .ok (.iaload, 1) := by decide +kernel
theorem dL_act_322 : decode cL_act 322 = .ok (.istore 9, 2) := by decide +kernel
theorem dL_act_324 : decode cL_act 324 = .ok (.aload_n 1, 1) := by decide +kernel
theorem dL_act_325 : decode cL_act 325 = .ok (.getfield 9, 3) := by decide +kernel
theorem dL_act_328 : decode cL_act 328 = .ok (.iload 5, 2) := by decide +kernel
theorem dL_act_330 : decode cL_act 330 = .ok (.aaload, 1) := by decide +kernel
theorem dL_act_331 : decode cL_act 331 = .ok (.iconst 3, 1) := by decide +kernel
theorem dL_act_332 : decode cL_act 332 = .ok (.iload 6, 2) := by decide +kernel
theorem dL_act_334 : decode cL_act 334 = .ok (.iastore, 1) := by decide +kernel
theorem dL_act_335 : decode cL_act 335 = .ok (.aload_n 1, 1) := by decide +kernel
theorem dL_act_336 : decode cL_act 336 = .ok (.getfield 9, 3) := by decide +kernel
theorem dL_act_339 : decode cL_act 339 = .ok (.iload 5, 2) := by decide +kernel
theorem dL_act_341 : decode cL_act 341 = .ok (.aaload, 1) := by decide +kernel
theorem dL_act_342 : decode cL_act 342 = .ok (.iconst 4, 1) := by decide +kernel
theorem dL_act_343 : decode cL_act 343 = .ok (.iload 8, 2) := by decide +kernel
theorem dL_act_345 : decode cL_act 345 = .ok (.iastore, 1) := by decide +kernel
theorem dL_act_346 : decode cL_act 346 = .ok (.aload_n 0, 1) := by decide +kernel
theorem dL_act_347 : decode cL_act 347 = .ok (.iload 5, 2) := by decide +kernel
theorem dL_act_349 : decode cL_act 349 = .ok (.iload 6, 2) := by decide +kernel
theorem dL_act_351 : decode cL_act 351 = .ok (.iload 8, 2) := by decide +kernel
theorem dL_act_353 : decode cL_act 353 = .ok (.invokevirtual 34, 3) := by decide +kernel
theorem dL_act_356 : decode cL_act 356 = .ok (.iload 9, 2) := by decide +kernel
theorem dL_act_358 : decode cL_act 358 = .ok (.if_icmp .ne 7, 3) := by decide +kernel
theorem dL_act_361 : decode cL_act 361 = .ok (.iconst 1, 1) := by decide +kernel
theorem dL_act_362 : decode cL_act 362 = .ok (.goto 4, 3) := by decide +kernel
theorem dL_act_365 : decode cL_act 365 = .ok (.iconst 0, 1) := by decide +kernel
theorem dL_act_366 : decode cL_act 366 = .ok (.ireturn, 1) := by decide +kernel
theorem dL_act_367 : decode cL_act 367 = .ok (.iload_n 3, 1) := by decide +kernel
theorem dL_act_368 : decode cL_act 368 = .ok (.ifCond .eq 15, 3) := by decide +kernel
theorem dL_act_371 : decode cL_act 371 = .ok (.aload_n 1, 1) := by decide +kernel
theorem dL_act_372 : decode cL_act 372 = .ok (.getfield 9, 3) := by decide +kernel
theorem dL_act_375 : decode cL_act 375 = .ok (.iload 5, 2) := by decide +kernel
theorem dL_act_377 : decode cL_act 377 = .ok (.aaload, 1) := by decide +kernel
theorem dL_act_378 : decode cL_act 378 = .ok (.iconst 0, 1) := by decide +kernel
theorem dL_act_379 : decode cL_act 379 = .ok (.iaload, 1) := by decide +kernel
theorem dL_act_380 : decode cL_act 380 = .ok (.ifCond .ne 5, 3) := by decide +kernel
theorem dL_act_383 : decode cL_act 383 = .ok (.iconst 1, 1) := by decide +kernel
theorem dL_act_384 : decode cL_act 384 = .ok (.ireturn, 1) := by decide +kernel
theorem dL_act_385 : decode cL_act 385 = .ok (.aload_n 1, 1) := by decide +kernel
theorem dL_act_386 : decode cL_act 386 = .ok (.getfield 15, 3) := by decide +kernel
theorem dL_act_389 : decode cL_act 389 = .ok (.arraylength, 1) := by decide +kernel
theorem dL_act_390 : decode cL_act 390 = .ok (.bipush 6, 2) := by decide +kernel
theorem dL_act_392 : decode cL_act 392 = .ok (.if_icmp .ge 7, 3) := by decide +kernel
theorem dL_act_395 : decode cL_act 395 = .ok (.iconst 1, 1) := by decide +kernel
theorem dL_act_396 : decode cL_act 396 = .ok (.goto 4, 3) := by decide +kernel
theorem dL_act_399 : decode cL_act 399 = .ok (.iconst 0, 1) := by decide +kernel
theorem dL_act_400 : decode cL_act 400 = .ok (.istore 7, 2) := by decide +kernel
theorem dL_act_402 : decode cL_act 402 = .ok (.iload 7, 2) := by decide +kernel
theorem dL_act_404 : decode cL_act 404 = .ok (.ifCond .eq 41, 3) := by decide +kernel
theorem dL_act_407 : decode cL_act 407 = .ok (.aload_n 1, 1) := by decide +kernel
theorem dL_act_408 : decode cL_act 408 = .ok (.aload_n 1, 1) := by decide +kernel
theorem dL_act_409 : decode cL_act 409 = .ok (.getfield 15, 3) := by decide +kernel
theorem dL_act_412 : decode cL_act 412 = .ok (.iconst 1, 1) := by decide +kernel
theorem dL_act_413 : decode cL_act 413 = .ok (.newarray .int, 2) := by decide +kernel
theorem dL_act_415 : decode cL_act 415 = .ok (.dup, 1) := by decide +kernel
theorem dL_act_416 : decode cL_act 416 = .ok (.iconst 0, 1) := by decide +kernel
theorem dL_act_417 : decode cL_act 417 = .ok (.iload 6, 2) := by decide +kernel
theorem dL_act_419 : decode cL_act 419 = .ok (.iastore, 1) := by decide +kernel
theorem dL_act_420 : decode cL_act 420 = .ok (.invokestatic 24, 3) := by decide +kernel
theorem dL_act_423 : decode cL_act 423 = .ok (.putfield 15, 3) := by decide +kernel
theorem dL_act_426 : decode cL_act 426 = .ok (.aload_n 1, 1) := by decide +kernel
theorem dL_act_427 : decode cL_act 427 = .ok (.aload_n 1, 1) := by decide +kernel
theorem dL_act_428 : decode cL_act 428 = .ok (.getfield 37, 3) := by decide +kernel
theorem dL_act_431 : decode cL_act 431 = .ok (.iconst 1, 1) := by decide +kernel
theorem dL_act_432 : decode cL_act 432 = .ok (.newarray .int, 2) := by decide +kernel
theorem dL_act_434 : decode cL_act 434 = .ok (.dup, 1) := by decide +kernel
theorem dL_act_435 : decode cL_act 435 = .ok (.iconst 0, 1) := by decide +kernel
theorem dL_act_436 : decode cL_act 436 = .ok (.iload 5, 2) := by decide +kernel
theorem dL_act_438 : decode cL_act 438 = .ok (.iastore, 1) := by decide +kernel
theorem dL_act_439 : decode cL_act 439 = .ok (.invokestatic 24, 3) := by decide +kernel
theorem dL_act_442 : decode cL_act 442 = .ok (.putfield 37, 3) := by decide +kernel
theorem dL_act_445 : decode cL_act 445 = .ok (.aload_n 0, 1) := by decide +kernel
theorem dL_act_446 : decode cL_act 446 = .ok (.iload 5, 2) := by decide +kernel
theorem dL_act_448 : decode cL_act 448 = .ok (.iload 6, 2) := by decide +kernel
theorem dL_act_450 : decode cL_act 450 = .ok (.invokevirtual 40, 3) := by decide +kernel
theorem dL_act_453 : decode cL_act 453 = .ok (.aload_n 1, 1) := by decide +kernel
theorem dL_act_454 : decode cL_act 454 = .ok (.getfield 15, 3) := by decide +kernel
theorem dL_act_457 : decode cL_act 457 = .ok (.arraylength, 1) := by decide +kernel
theorem dL_act_458 : decode cL_act 458 = .ok (.iconst 1, 1) := by decide +kernel
theorem dL_act_459 : decode cL_act 459 = .ok (.isub, 1) := by decide +kernel
theorem dL_act_460 : decode cL_act 460 = .ok (.if_icmp .ne 12, 3) := by decide +kernel
theorem dL_act_463 : decode cL_act 463 = .ok (.iload 7, 2) := by decide +kernel
theorem dL_act_465 : decode cL_act 465 = .ok (.ifCond .eq 7, 3) := by decide +kernel
theorem dL_act_468 : decode cL_act 468 = .ok (.iconst 1, 1) := by decide +kernel
theorem dL_act_469 : decode cL_act 469 = .ok (.goto 4, 3) := by decide +kernel
theorem dL_act_472 : decode cL_act 472 = .ok (.iconst 0, 1) := by decide +kernel
theorem dL_act_473 : decode cL_act 473 = .ok (.ireturn, 1) := by decide +kernel
theorem dL_act_474 : decode cL_act 474 = .ok (.iload_n 3, 1) := by decide +kernel
theorem dL_act_475 : decode cL_act 475 = .ok (.ifCond .eq 24, 3) := by decide +kernel
theorem dL_act_478 : decode cL_act 478 = .ok (.aload_n 1, 1) := by decide +kernel
theorem dL_act_479 : decode cL_act 479 = .ok (.getfield 15, 3) := by decide +kernel
theorem dL_act_482 : decode cL_act 482 = .ok (.arraylength, 1) := by decide +kernel
theorem dL_act_483 : decode cL_act 483 = .ok (.ifCond .eq 16, 3) := by decide +kernel
theorem dL_act_486 : decode cL_act 486 = .ok (.aload_n 1, 1) := by decide +kernel
theorem dL_act_487 : decode cL_act 487 = .ok (.getfield 9, 3) := by decide +kernel
theorem dL_act_490 : decode cL_act 490 = .ok (.iload 5, 2) := by decide +kernel
theorem dL_act_492 : decode cL_act 492 = .ok (.aaload, 1) := by decide +kernel
theorem dL_act_493 : decode cL_act 493 = .ok (.iconst 0, 1) := by decide +kernel
theorem dL_act_494 : decode cL_act 494 = .ok (.iaload, 1) := by decide +kernel
theorem dL_act_495 : decode cL_act 495 = .ok (.iconst 1, 1) := by decide +kernel
theorem dL_act_496 : decode cL_act 496 = .ok (.if_icmp .ne 5, 3) := by decide +kernel
theorem dL_act_499 : decode cL_act 499 = .ok (.iconst 1, 1) := by decide +kernel
theorem dL_act_500 : decode cL_act 500 = .ok (.ireturn, 1) := by decide +kernel
theorem dL_act_501 : decode cL_act 501 = .ok (.aload_n 1, 1) := by decide +kernel
theorem dL_act_502 : decode cL_act 502 = .ok (.getfield 15, 3) := by decide +kernel
theorem dL_act_505 : decode cL_act 505 = .ok (.iload 4, 2) := by decide +kernel
theorem dL_act_507 : decode cL_act 507 = .ok (.aaload, 1) := by decide +kernel
theorem dL_act_508 : decode cL_act 508 = .ok (.arraylength, 1) := by decide +kernel
theorem dL_act_509 : decode cL_act 509 = .ok (.istore 8, 2) := by decide +kernel
theorem dL_act_511 : decode cL_act 511 = .ok (.iload 8, 2) := by decide +kernel
theorem dL_act_513 : decode cL_act 513 = .ok (.ifCond .le 13, 3) := by decide +kernel
theorem dL_act_516 : decode cL_act 516 = .ok (.iload 8, 2) := by decide +kernel
theorem dL_act_518 : decode cL_act 518 = .ok (.iconst 5, 1) := by decide +kernel
theorem dL_act_519 : decode cL_act 519 = .ok (.if_icmp .ge 7, 3) := by decide +kernel
theorem dL_act_522 : decode cL_act 522 = .ok (.iconst 1, 1) := by decide +kernel
theorem dL_act_523 : decode cL_act 523 = .ok (.goto 4, 3) := by decide +kernel
theorem dL_act_526 : decode cL_act 526 = .ok (.iconst 0, 1) := by decide +kernel
theorem dL_act_527 : decode cL_act 527 = .ok (.istore 7, 2) := by decide +kernel
theorem dL_act_529 : decode cL_act 529 = .ok (.iload 7, 2) := by decide +kernel
theorem dL_act_531 : decode cL_act 531 = .ok (.ifCond .eq 69, 3) := by decide +kernel
theorem dL_act_534 : decode cL_act 534 = .ok (.aload_n 1, 1) := by decide +kernel
theorem dL_act_535 : decode cL_act 535 = .ok (.getfield 15, 3) := by decide +kernel
theorem dL_act_538 : decode cL_act 538 = .ok (.iload 4, 2) := by decide +kernel
theorem dL_act_540 : decode cL_act 540 = .ok (.aload_n 1, 1) := by decide +kernel
theorem dL_act_541 : decode cL_act 541 = .ok (.getfield 15, 3) := by decide +kernel
theorem dL_act_544 : decode cL_act 544 = .ok (.iload 4, 2) := by decide +kernel
theorem dL_act_546 : decode cL_act 546 = .ok (.aaload, 1) := by decide +kernel
theorem dL_act_547 : decode cL_act 547 = .ok (.iload 8, 2) := by decide +kernel
theorem dL_act_549 : decode cL_act 549 = .ok (.iconst 1, 1) := by decide +kernel
theorem dL_act_550 : decode cL_act 550 = .ok (.iadd, 1) := by decide +kernel
theorem dL_act_551 : decode cL_act 551 = .ok (.invokestatic 43, 3) := by decide +kernel
theorem dL_act_554 : decode cL_act 554 = .ok (.aastore, 1) := by decide +kernel
theorem dL_act_555 : decode cL_act 555 = .ok (.aload_n 1, 1) := by decide +kernel
theorem dL_act_556 : decode cL_act 556 = .ok (.getfield 37, 3) := by decide +kernel
theorem dL_act_559 : decode cL_act 559 = .ok (.iload 4, 2) := by decide +kernel
theorem dL_act_561 : decode cL_act 561 = .ok (.aload_n 1, 1) := by decide +kernel
theorem dL_act_562 : decode cL_act 562 = .ok (.getfield 37, 3) := by decide +kernel
theorem dL_act_565 : decode cL_act 565 = .ok (.iload 4, 2) := by decide +kernel
theorem dL_act_567 : decode cL_act 567 = .ok (.aaload, 1) := by decide +kernel
theorem dL_act_568 : decode cL_act 568 = .ok (.iload 8, 2) := by decide +kernel
theorem dL_act_570 : decode cL_act 570 = .ok (.iconst 1, 1) := by decide +kernel
theorem dL_act_571 : decode cL_act 571 = .ok (.iadd, 1) := by decide +kernel
theorem dL_act_572 : decode cL_act 572 = .ok (.invokestatic 43, 3) := by decide +kernel
theorem dL_act_575 : decode cL_act 575 = .ok (.aastore, 1) := by decide +kernel
theorem dL_act_576 : decode cL_act 576 = .ok (.aload_n 1, 1) := by decide +kernel
theorem dL_act_577 : decode cL_act 577 = .ok (.getfield 15, 3) := by decide +kernel
theorem dL_act_580 : decode cL_act 580 = .ok (.iload 4, 2) := by decide +kernel
theorem dL_act_582 : decode cL_act 582 = .ok (.aaload, 1) := by decide +kernel
theorem dL_act_583 : decode cL_act 583 = .ok (.iload 8, 2) := by decide +kernel
theorem dL_act_585 : decode cL_act 585 = .ok (.iload 6, 2) := by decide +kernel
theorem dL_act_587 : decode cL_act 587 = .ok (.iastore, 1) := by decide +kernel
theorem dL_act_588 : decode cL_act 588 = .ok (.aload_n 1, 1) := by decide +kernel
theorem dL_act_589 : decode cL_act 589 = .ok (.getfield 37, 3) := by decide +kernel
theorem dL_act_592 : decode cL_act 592 = .ok (.iload 4, 2) := by decide +kernel
theorem dL_act_594 : decode cL_act 594 = .ok (.aaload, 1) := by decide +kernel
theorem dL_act_595 : decode cL_act 595 = .ok (.iload 8, 2) := by decide +kernel
theorem dL_act_597 : decode cL_act 597 = .ok (.iload 5, 2) := by decide +kernel
theorem dL_act_599 : decode cL_act 599 = .ok (.iastore, 1) := by decide +kernel
theorem dL_act_600 : decode cL_act 600 = .ok (.aload_n 0, 1) := by decide +kernel
theorem dL_act_601 : decode cL_act 601 = .ok (.iload 4, 2) := by decide +kernel
theorem dL_act_603 : decode cL_act 603 = .ok (.iload 5, 2) := by decide +kernel
theorem dL_act_605 : decode cL_act 605 = .ok (.iload 6, 2) := by decide +kernel
theorem dL_act_607 : decode cL_act 607 = .ok (.invokevirtual 47, 3) := by decide +kernel
theorem dL_act_610 : decode cL_act 610 = .ok (.iload 8, 2) := by decide +kernel
theorem dL_act_612 : decode cL_act 612 = .ok (.iconst 1, 1) := by decide +kernel
theorem dL_act_613 : decode cL_act 613 = .ok (.iadd, 1) := by decide +kernel
theorem dL_act_614 : decode cL_act 614 = .ok (.if_icmp .ne 12, 3) := by decide +kernel
theorem dL_act_617 : decode cL_act 617 = .ok (.iload 7, 2) := by decide +kernel
theorem dL_act_619 : decode cL_act 619 = .ok (.ifCond .eq 7, 3) := by decide +kernel
theorem dL_act_622 : decode cL_act 622 = .ok (.iconst 1, 1) := by decide +kernel
theorem dL_act_623 : decode cL_act 623 = .ok (.goto 4, 3) := by decide +kernel
theorem dL_act_626 : decode cL_act 626 = .ok (.iconst 0, 1) := by decide +kernel
theorem dL_act_627 : decode cL_act 627 = .ok (.ireturn, 1) := by decide +kernel
theorem dL_act_628 : decode cL_act 628 = .ok (.aload_n 1, 1) := by decide +kernel
theorem dL_act_629 : decode cL_act 629 = .ok (.getfield 15, 3) := by decide +kernel
theorem dL_act_632 : decode cL_act 632 = .ok (.arraylength, 1) := by decide +kernel
theorem dL_act_633 : decode cL_act 633 = .ok (.ifCond .eq 14, 3) := by decide +kernel
theorem dL_act_636 : decode cL_act 636 = .ok (.aload_n 1, 1) := by decide +kernel
theorem dL_act_637 : decode cL_act 637 = .ok (.getfield 15, 3) := by decide +kernel
theorem dL_act_640 : decode cL_act 640 = .ok (.iload 4, 2) := by decide +kernel
theorem dL_act_642 : decode cL_act 642 = .ok (.aaload, 1) := by decide +kernel
theorem dL_act_643 : decode cL_act 643 = .ok (.arraylength, 1) := by decide +kernel
theorem dL_act_644 : decode cL_act 644 = .ok (.ifCond .ne 5, 3) := by decide +kernel
theorem dL_act_647 : decode cL_act 647 = .ok (.iconst 1, 1) := by decide +kernel
theorem dL_act_648 : decode cL_act 648 = .ok (.ireturn, 1) := by decide +kernel
theorem dL_act_649 : decode cL_act 649 = .ok (.iconst 1, 1) := by decide +kernel
theorem dL_act_650 : decode cL_act 650 = .ok (.istore 7, 2) := by decide +kernel
theorem dL_act_652 : decode cL_act 652 = .ok (.iload_n 2, 1) := by decide +kernel
theorem dL_act_653 : decode cL_act 653 = .ok (.iconst 4, 1) := by decide +kernel
theorem dL_act_654 : decode cL_act 654 = .ok (.ishr, 1) := by decide +kernel
theorem dL_act_655 : decode cL_act 655 = .ok (.aload_n 1, 1) := by decide +kernel
theorem dL_act_656 : decode cL_act 656 = .ok (.getfield 15, 3) := by decide +kernel
theorem dL_act_659 : decode cL_act 659 = .ok (.iload 4, 2) := by decide +kernel
theorem dL_act_661 : decode cL_act 661 = .ok (.aaload, 1) := by decide +kernel
theorem dL_act_662 : decode cL_act 662 = .ok (.arraylength, 1) := by decide +kernel
theorem dL_act_663 : decode cL_act 663 = .ok (.invokestatic 18, 3) := by decide +kernel
theorem dL_act_666 : decode cL_act 666 = .ok (.istore 8, 2) := by decide +kernel
theorem dL_act_668 : decode cL_act 668 = .ok (.aload_n 1, 1) := by decide +kernel
theorem dL_act_669 : decode cL_act 669 = .ok (.getfield 9, 3) := by decide +kernel
theorem dL_act_672 : decode cL_act 672 = .ok (.iload 5, 2) := by decide +kernel
theorem dL_act_674 : decode cL_act 674 = .ok (.aaload, 1) := by decide +kernel
theorem dL_act_675 : decode cL_act 675 = .ok (.iconst 0, 1) := by decide +kernel
theorem dL_act_676 : decode cL_act 676 = .ok (.iaload, 1) := by decide +kernel
theorem dL_act_677 : decode cL_act 677 = .ok (.iload 8, 2) := by decide +kernel
theorem dL_act_679 : decode cL_act 679 = .ok (.ifCond .ne 7, 3) := by decide +kernel
theorem dL_act_682 : decode cL_act 682 = .ok (.iconst 1, 1) := by decide +kernel
theorem dL_act_683 : decode cL_act 683 = .ok (.goto 4, 3) := by decide +kernel
theorem dL_act_686 : decode cL_act 686 = .ok (.iconst 0, 1) := by decide +kernel
theorem dL_act_687 : decode cL_act 687 = .ok (.if_icmp .eq 5, 3) := by decide +kernel
theorem dL_act_690 : decode cL_act 690 = .ok (.iconst 1, 1) := by decide +kernel
theorem dL_act_691 : decode cL_act 691 = .ok (.ireturn, 1) := by decide +kernel
theorem dL_act_692 : decode cL_act 692 = .ok (.aload_n 1, 1) := by decide +kernel
theorem dL_act_693 : decode cL_act 693 = .ok (.getfield 37, 3) := by decide +kernel
theorem dL_act_696 : decode cL_act 696 = .ok (.iload 4, 2) := by decide +kernel
theorem dL_act_698 : decode cL_act 698 = .ok (.aaload, 1) := by decide +kernel
theorem dL_act_699 : decode cL_act 699 = .ok (.iload 8, 2) := by decide +kernel
theorem dL_act_701 : decode cL_act 701 = .ok (.iaload, 1) := by decide +kernel
theorem dL_act_702 : decode cL_act 702 = .ok (.istore 9, 2) := by decide +kernel
theorem dL_act_704 : decode cL_act 704 = .ok (.aload_n 1, 1) := by decide +kernel
theorem dL_act_705 : decode cL_act 705 = .ok (.getfield 37, 3) := by decide +kernel
theorem dL_act_708 : decode cL_act 708 = .ok (.iload 4, 2) := by decide +kernel
theorem dL_act_710 : decode cL_act 710 = .ok (.aaload, 1) := by decide +kernel
theorem dL_act_711 : decode cL_act 711 = .ok (.iload 8, 2) := by decide +kernel
theorem dL_act_713 : decode cL_act 713 = .ok (.iload 5, 2) := by decide +kernel
theorem dL_act_715 : decode cL_act 715 = .ok (.iastore, 1) := by decide +kernel
theorem dL_act_716 : decode cL_act 716 = .ok (.aload_n 0, 1) := by decide +kernel
theorem dL_act_717 : decode cL_act 717 = .ok (.iload 4, 2) := by decide +kernel
theorem dL_act_719 : decode cL_act 719 = .ok (.iload 8, 2) := by decide +kernel
theorem dL_act_721 : decode cL_act 721 = .ok (.iload 5, 2) := by decide +kernel
theorem dL_act_723 : decode cL_act 723 = .ok (.invokevirtual 50, 3) := by decide +kernel
theorem dL_act_726 : decode cL_act 726 = .ok (.iload 9, 2) := by decide +kernel
theorem dL_act_728 : decode cL_act 728 = .ok (.if_icmp .ne 7, 3) := by decide +kernel
theorem dL_act_731 : decode cL_act 731 = .ok (.iconst 1, 1) := by decide +kernel
theorem dL_act_732 : decode cL_act 732 = .ok (.goto 4, 3) := by decide +kernel
theorem dL_act_735 : decode cL_act 735 = .ok (.iconst 0, 1) := by decide +kernel
theorem dL_act_736 : decode cL_act 736 = .ok (.ireturn, 1) := by decide +kernel
theorem dL_act_737 : decode cL_act 737 = .ok (.aload_n 1, 1) := by decide +kernel
theorem dL_act_738 : decode cL_act 738 = .ok (.getfield 15, 3) := by decide +kernel
theorem dL_act_741 : decode cL_act 741 = .ok (.arraylength, 1) := by decide +kernel
theorem dL_act_742 : decode cL_act 742 = .ok (.ifCond .ne 5, 3) := by decide +kernel
theorem dL_act_745 : decode cL_act 745 = .ok (.iconst 1, 1) := by decide +kernel
theorem dL_act_746 : decode cL_act 746 = .ok (.ireturn, 1) := by decide +kernel
theorem dL_act_747 : decode cL_act 747 = .ok (.aload_n 1, 1) := by decide +kernel
theorem dL_act_748 : decode cL_act 748 = .ok (.getfield 15, 3) := by decide +kernel
theorem dL_act_751 : decode cL_act 751 = .ok (.iload 4, 2) := by decide +kernel
theorem dL_act_753 : decode cL_act 753 = .ok (.aaload, 1) := by decide +kernel
theorem dL_act_754 : decode cL_act 754 = .ok (.arraylength, 1) := by decide +kernel
theorem dL_act_755 : decode cL_act 755 = .ok (.ifCond .le 7, 3) := by decide +kernel
theorem dL_act_758 : decode cL_act 758 = .ok (.iconst 1, 1) := by decide +kernel
theorem dL_act_759 : decode cL_act 759 = .ok (.goto 4, 3) := by decide +kernel
theorem dL_act_762 : decode cL_act 762 = .ok (.iconst 0, 1) := by decide +kernel
theorem dL_act_763 : decode cL_act 763 = .ok (.istore 7, 2) := by decide +kernel
theorem dL_act_765 : decode cL_act 765 = .ok (.iconst 1, 1) := by decide +kernel
theorem dL_act_766 : decode cL_act 766 = .ok (.iload 6, 2) := by decide +kernel
theorem dL_act_768 : decode cL_act 768 = .ok (.iconst 1, 1) := by decide +kernel
theorem dL_act_769 : decode cL_act 769 = .ok (.isub, 1) := by decide +kernel
theorem dL_act_770 : decode cL_act 770 = .ok (.iconst 1, 1) := by decide +kernel
theorem dL_act_771 : decode cL_act 771 = .ok (.iload_n 2, 1) := by decide +kernel
theorem dL_act_772 : decode cL_act 772 = .ok (.bipush 9, 2) := by decide +kernel
theorem dL_act_774 : decode cL_act 774 = .ok (.ishr, 1) := by decide +kernel
theorem dL_act_775 : decode cL_act 775 = .ok (.bipush 8, 2) := by decide +kernel
theorem dL_act_777 : decode cL_act 777 = .ok (.invokestatic 18, 3) := by decide +kernel
theorem dL_act_780 : decode cL_act 780 = .ok (.iadd, 1) := by decide +kernel
theorem dL_act_781 : decode cL_act 781 = .ok (.idiv, 1) := by decide +kernel
theorem dL_act_782 : decode cL_act 782 = .ok (.iadd, 1) := by decide +kernel
theorem dL_act_783 : decode cL_act 783 = .ok (.istore 8, 2) := by decide +kernel
theorem dL_act_785 : decode cL_act 785 = .ok (.iload 7, 2) := by decide +kernel
theorem dL_act_787 : decode cL_act 787 = .ok (.ifCond .eq 14, 3) := by decide +kernel
theorem dL_act_790 : decode cL_act 790 = .ok (.aload_n 1, 1) := by decide +kernel
theorem dL_act_791 : decode cL_act 791 = .ok (.iload 4, 2) := by decide +kernel
theorem dL_act_793 : decode cL_act 793 = .ok (.iload 8, 2) := by decide +kernel
theorem dL_act_795 : decode cL_act 795 = .ok (.invokevirtual 53, 3) := by decide +kernel
theorem dL_act_798 : decode cL_act 798 = .ok (.goto 5, 3) := by decide +kernel
theorem dL_act_801 : decode cL_act 801 = .ok (.bipush (-2), 2) := by decide +kernel
theorem dL_act_803 : decode cL_act 803 = .ok (.istore 9, 2) := by decide +kernel
theorem dL_act_805 : decode cL_act 805 = .ok (.iload 7, 2) := by decide +kernel
theorem dL_act_807 : decode cL_act 807 = .ok (.ifCond .eq 11, 3) := by decide +kernel
theorem dL_act_810 : decode cL_act 810 = .ok (.aload_n 1, 1) := by decide +kernel
theorem dL_act_811 : decode cL_act 811 = .ok (.iload 4, 2) := by decide +kernel
theorem dL_act_813 : decode cL_act 813 = .ok (.iload 8, 2) := by decide +kernel
theorem dL_act_815 : decode cL_act 815 = .ok (.invokevirtual 56, 3) := by decide +kernel
theorem dL_act_818 : decode cL_act 818 = .ok (.aload_n 0, 1) := by decide +kernel
theorem dL_act_819 : decode cL_act 819 = .ok (.iload 4, 2) := by decide +kernel
theorem dL_act_821 : decode cL_act 821 = .ok (.iload 8, 2) := by decide +kernel
theorem dL_act_823 : decode cL_act 823 = .ok (.invokevirtual 60, 3) := by decide +kernel
theorem dL_act_826 : decode cL_act 826 = .ok (.iload 9, 2) := by decide +kernel
theorem dL_act_828 : decode cL_act 828 = .ok (.if_icmp .ne 12, 3) := by decide +kernel
theorem dL_act_831 : decode cL_act 831 = .ok (.iload 7, 2) := by decide +kernel
theorem dL_act_833 : decode cL_act 833 = .ok (.ifCond .eq 7, 3) := by decide +kernel
theorem dL_act_836 : decode cL_act 836 = .ok (.iconst 1, 1) := by decide +kernel
theorem dL_act_837 : decode cL_act 837 = .ok (.goto 4, 3) := by decide +kernel
theorem dL_act_840 : decode cL_act 840 = .ok (.iconst 0, 1) := by decide +kernel
theorem dL_act_841 : decode cL_act 841 = .ok (.ireturn, 1) := by decide +kernel
theorem dL_act_842 : decode cL_act 842 = .ok (.astore 8, 2) := by decide +kernel
theorem dL_act_844 : decode cL_act 844 = .ok (.iload 7, 2) := by decide +kernel
theorem dL_act_846 : decode cL_act 846 = .ok (.ifCond .ne 7, 3) := by decide +kernel
theorem dL_act_849 : decode cL_act 849 = .ok (.iconst 1, 1) := by decide +kernel
theorem dL_act_850 : decode cL_act 850 = .ok (.goto 4, 3) := by decide +kernel
theorem dL_act_853 : decode cL_act 853 = .ok (.iconst 0, 1) := by decide +kernel
theorem dL_act_854 : decode cL_act 854 = .ok (.ireturn, 1) := by decide +kernel
theorem dL_build_0 : decode cL_build 0 = .ok (.new 10, 3) := by decide +kernel
theorem dL_build_3 : decode cL_build 3 = .ok (.dup, 1) := by decide +kernel
theorem dL_build_4 : decode cL_build 4 = .ok (.invokespecial 64, 3) := by decide +kernel
theorem dL_build_7 : decode cL_build 7 = .ok (.astore_n 2, 1) := by decide +kernel
theorem dL_build_8 : decode cL_build 8 = .ok (.iconst 3, 1) := by decide +kernel
theorem dL_build_9 : decode cL_build 9 = .ok (.aload_n 1, 1) := by decide +kernel
theorem dL_build_10 : decode cL_build 10 = .ok (.iconst 0, 1) := by decide +kernel
theorem dL_build_11 : decode cL_build 11 = .ok (.invokestatic 65, 3) := by decide +kernel
theorem dL_build_14 : decode cL_build 14 = .ok (.bipush 12, 2) := by decide +kernel
theorem dL_build_16 : decode cL_build 16 = .ok (.invokestatic 18, 3) := by decide +kernel
theorem dL_build_19 : decode cL_build 19 = .ok (.iadd, 1) := by decide +kernel
theorem dL_build_20 : decode cL_build 20 = .ok (.istore_n 3, 1) := by decide +kernel
theorem dL_build_21 : decode cL_build 21 = .ok (.iconst 0, 1) := by decide +kernel
theorem dL_build_22 : decode cL_build 22 = .ok (.istore 4, 2) := by decide +kernel
theorem dL_build_24 : decode cL_build 24 = .ok (.iload 4, 2) := by decide +kernel
theorem dL_build_26 : decode cL_build 26 = .ok (.iload_n 3, 1) := by decide +kernel
theorem dL_build_27 : decode cL_build 27 = .ok (.if_icmp .ge 212, 3) := by decide +kernel
theorem dL_build_30 : decode cL_build 30 = .ok (.aload_n 1, 1) := by decide +kernel
theorem dL_build_31 : decode cL_build 31 = .ok (.iconst 1, 1) := by decide +kernel
theorem dL_build_32 : decode cL_build 32 = .ok (.iload 4, 2) := by decide +kernel
theorem dL_build_34 : decode cL_build 34 = .ok (.iadd, 1) := by decide +kernel
theorem dL_build_35 : decode cL_build 35 = .ok (.invokestatic 65, 3) := by decide +kernel
theorem dL_build_38 : decode cL_build 38 = .ok (.iconst 1, 1) := by decide +kernel
theorem dL_build_39 : decode cL_build 39 = .ok (.ishr, 1) := by decide +kernel
theorem dL_build_40 : decode cL_build 40 = .ok (.istore 5, 2) := by decide +kernel
theorem dL_build_42 : decode cL_build 42 = .ok (.iload 4, 2) := by decide +kernel
theorem dL_build_44 : decode cL_build 44 = .ok (.iconst 2, 1) := by decide +kernel
theorem dL_build_45 : decode cL_build 45 = .ok (.if_icmp .ge 8, 3) := by decide +kernel
theorem dL_build_48 : decode cL_build 48 = .ok (.iload 4, 2) := by decide +kernel
theorem dL_build_50 : decode cL_build 50 = .ok (.goto 9, 3) := by decide +kernel
theorem dL_build_53 : decode cL_build 53 = .ok (.iload 5, 2) := by decide +kernel
theorem dL_build_55 : decode cL_build 55 = .ok (.iconst 2, 1) := by decide +kernel
theorem dL_build_56 : decode cL_build 56 = .ok (.invokestatic 18, 3) := by decide +kernel
theorem dL_build_59 : decode cL_build 59 = .ok (.istore 6, 2) := by decide +kernel
theorem dL_build_61 : decode cL_build 61 = .ok (.iconst 5, 1) := by decide +kernel
theorem dL_build_62 : decode cL_build 62 = .ok (.newarray .int, 2) := by decide +kernel
theorem dL_build_64 : decode cL_build 64 = .ok (.dup, 1) := by decide +kernel
theorem dL_build_65 : decode cL_build 65 = .ok (.iconst 0, 1) := by decide +kernel
theorem dL_build_66 : decode cL_build 66 = .ok (.iload 6, 2) := by decide +kernel
theorem dL_build_68 : decode cL_build 68 = .ok (.iastore, 1) := by decide +kernel
theorem dL_build_69 : decode cL_build 69 = .ok (.dup, 1) := by decide +kernel
theorem dL_build_70 : decode cL_build 70 = .ok (.iconst 1, 1) := by decide +kernel
theorem dL_build_71 : decode cL_build 71 = .ok (.bipush 10, 2) := by decide +kernel
theorem dL_build_73 : decode cL_build 73 = .ok (.iload 5, 2) := by decide +kernel
theorem dL_build_75 : decode cL_build 75 = .ok (.iconst 3, 1) := by decide +kernel
theorem dL_build_76 : decode cL_build 76 = .ok (.ishr, 1) := by decide +kernel
theorem dL_build_77 : decode cL_build 77 = .ok (.bipush 91, 2) := by decide +kernel
theorem dL_build_79 : decode cL_build 79 = .ok (.invokestatic 18, 3) := by decide +kernel
theorem dL_build_82 : decode cL_build 82 = .ok (.iadd, 1) := by decide +kernel
theorem dL_build_83 : decode cL_build 83 = .ok (.iastore, 1) := by decide +kernel
theorem dL_build_84 : decode cL_build 84 = .ok (.dup, 1) := by decide +kernel
theorem dL_build_85 : decode cL_build 85 = .ok (.iconst 2, 1) := by decide +kernel
theorem dL_build_86 : decode cL_build 86 = .ok (.iconst 1, 1) := by decide +kernel
theorem dL_build_87 : decode cL_build 87 = .ok (.iload 5, 2) := by decide +kernel
theorem dL_build_89 : decode cL_build 89 = .ok (.iconst 5, 1) := by decide +kernel
theorem dL_build_90 : decode cL_build 90 = .ok (.ishr, 1) := by decide +kernel
theorem dL_build_91 : decode cL_build 91 = .ok (.bipush 9, 2) := by decide +kernel
theorem dL_build_93 : decode cL_build 93 = .ok (.invokestatic 18, 3) := by decide +kernel
theorem dL_build_96 : decode cL_build 96 = .ok (.iadd, 1) := by decide +kernel
theorem dL_build_97 : decode cL_build 97 = .ok (.iastore, 1) := by decide +kernel
theorem dL_build_98 : decode cL_build 98 = .ok (.dup, 1) := by decide +kernel
theorem dL_build_99 : decode cL_build 99 = .ok (.iconst 3, 1) := by decide +kernel
theorem dL_build_100 : decode cL_build 100 = .ok (.iconst 0, 1) := by decide +kernel
theorem dL_build_101 : decode cL_build 101 = .ok (.iastore, 1) := by decide +kernel
theorem dL_build_102 : decode cL_build 102 = .ok (.dup, 1) := by decide +kernel
theorem dL_build_103 : decode cL_build 103 = .ok (.iconst 4, 1) := by decide +kernel
theorem dL_build_104 : decode cL_build 104 = .ok (.iconst (-1), 1) := by decide +kernel
theorem dL_build_105 : decode cL_build 105 = .ok (.iastore, 1) := by decide +kernel
theorem dL_build_106 : decode cL_build 106 = .ok (.astore 7, 2) := by decide +kernel
theorem dL_build_108 : decode cL_build 108 = .ok (.aload_n 2, 1) := by decide +kernel
theorem dL_build_109 : decode cL_build 109 = .ok (.aload_n 2, 1) := by decide +kernel
theorem dL_build_110 : decode cL_build 110 = .ok (.getfield 9, 3) := by decide +kernel
theorem dL_build_113 : decode cL_build 113 = .ok (.aload 7, 2) := by decide +kernel
theorem dL_build_115 : decode cL_build 115 = .ok (.invokestatic 24, 3) := by decide +kernel
theorem dL_build_118 : decode cL_build 118 = .ok (.putfield 9, 3) := by decide +kernel
theorem dL_build_121 : decode cL_build 121 = .ok (.aload_n 0, 1) := by decide +kernel
theorem dL_build_122 : decode cL_build 122 = .ok (.aload 7, 2) := by decide +kernel
theorem dL_build_124 : decode cL_build 124 = .ok (.iconst 0, 1) := by decide +kernel
theorem dL_build_125 : decode cL_build 125 = .ok (.iaload, 1) := by decide +kernel
theorem dL_build_126 : decode cL_build 126 = .ok (.aload 7, 2) := by decide +kernel
theorem dL_build_128 : decode cL_build 128 = .ok (.iconst 1, 1) := by decide +kernel
theorem dL_build_129 : decode cL_build 129 = .ok (.iaload, 1) := by decide +kernel
theorem dL_build_130 : decode cL_build 130 = .ok (.aload 7, 2) := by decide +kernel
theorem dL_build_132 : decode cL_build 132 = .ok (.iconst 2, 1) := by decide +kernel
theorem dL_build_133 : decode cL_build 133 = .ok (.iaload, 1) := by decide +kernel
theorem dL_build_134 : decode cL_build 134 = .ok (.invokevirtual 28, 3) := by decide +kernel
theorem dL_build_137 : decode cL_build 137 = .ok (.iload 4, 2) := by decide +kernel
theorem dL_build_139 : decode cL_build 139 = .ok (.if_icmp .eq 5, 3) := by decide +kernel
theorem dL_build_142 : decode cL_build 142 = .ok (.aconst_null, 1) := by decide +kernel
theorem dL_build_143 : decode cL_build 143 = .ok (.areturn, 1) := by decide +kernel
theorem dL_build_144 : decode cL_build 144 = .ok (.iload 5, 2) := by decide +kernel
theorem dL_build_146 : decode cL_build 146 = .ok (.bipush 6, 2) := by decide +kernel
theorem dL_build_148 : decode cL_build 148 = .ok (.ishr, 1) := by decide +kernel
theorem dL_build_149 : decode cL_build 149 = .ok (.iload 4, 2) := by decide +kernel
theorem dL_build_151 : decode cL_build 151 = .ok (.iconst 1, 1) := by decide +kernel
theorem dL_build_152 : decode cL_build 152 = .ok (.iadd, 1) := by decide +kernel
theorem dL_build_153 : decode cL_build 153 = .ok (.invokestatic 18, 3) := by decide +kernel
theorem dL_build_156 : decode cL_build 156 = .ok (.iconst 1, 1) := by decide +kernel
theorem dL_build_157 : decode cL_build 157 = .ok (.isub, 1) := by decide +kernel
theorem dL_build_158 : decode cL_build 158 = .ok (.istore 8, 2) := by decide +kernel
theorem dL_build_160 : decode cL_build 160 = .ok (.iload 5, 2) := by decide +kernel
theorem dL_build_162 : decode cL_build 162 = .ok (.iconst 4, 1) := by decide +kernel
theorem dL_build_163 : decode cL_build 163 = .ok (.ishr, 1) := by decide +kernel
theorem dL_build_164 : decode cL_build 164 = .ok (.iconst 3, 1) := by decide +kernel
theorem dL_build_165 : decode cL_build 165 = .ok (.invokestatic 18, 3) := by decide +kernel
theorem dL_build_168 : decode cL_build 168 = .ok (.ifCond .eq 65, 3) := by decide +kernel
theorem dL_build_171 : decode cL_build 171 = .ok (.iload 8, 2) := by decide +kernel
theorem dL_build_173 : decode cL_build 173 = .ok (.ifCond .lt 20, 3) := by decide +kernel
theorem dL_build_176 : decode cL_build 176 = .ok (.aload_n 2, 1) := by decide +kernel
theorem dL_build_177 : decode cL_build 177 = .ok (.getfield 9, 3) := by decide +kernel
theorem dL_build_180 : decode cL_build 180 = .ok (.iload 8, 2) := by decide +kernel
theorem dL_build_182 : decode cL_build 182 = .ok (.aaload, 1) := by decide +kernel
theorem dL_build_183 : decode cL_build 183 = .ok (.iconst 0, 1) := by decide +kernel
theorem dL_build_184 : decode cL_build 184 = .ok (.iaload, 1) := by decide +kernel
theorem dL_build_185 : decode cL_build 185 = .ok (.iload 6, 2) := by decide +kernel
theorem dL_build_187 : decode cL_build 187 = .ok (.if_icmp .eq 6, 3) := by decide +kernel
theorem dL_build_190 : decode cL_build 190 = .ok (.goto 43, 3) := by decide +kernel
theorem dL_build_193 : decode cL_build 193 = .ok (.aload 7, 2) := by decide +kernel
theorem dL_build_195 : decode cL_build 195 = .ok (.iconst 3, 1) := by decide +kernel
theorem dL_build_196 : decode cL_build 196 = .ok (.iconst 1, 1) := by decide +kernel
theorem dL_build_197 : decode cL_build 197 = .ok (.iload 5, 2) := by decide +kernel
theorem dL_build_199 : decode cL_build 199 = .ok (.bipush 8, 2) := by decide +kernel
theorem dL_build_201 : decode cL_build 201 = .ok (.ishr, 1) := by decide +kernel
theorem dL_build_202 : decode cL_build 202 = .ok (.sipush 400, 3) := by decide +kernel
theorem dL_build_205 : decode cL_build 205 = .ok (.invokestatic 18, 3) := by decide +kernel
theorem dL_build_208 : decode cL_build 208 = .ok (.iadd, 1) := by decide +kernel
theorem dL_build_209 : decode cL_build 209 = .ok (.iastore, 1) := by decide +kernel
theorem dL_build_210 : decode cL_build 210 = .ok (.aload 7, 2) := by decide +kernel
theorem dL_build_212 : decode cL_build 212 = .ok (.iconst 4, 1) := by decide +kernel
theorem dL_build_213 : decode cL_build 213 = .ok (.iload 8, 2) := by decide +kernel
theorem dL_build_215 : decode cL_build 215 = .ok (.iastore, 1) := by decide +kernel
theorem dL_build_216 : decode cL_build 216 = .ok (.aload_n 0, 1) := by decide +kernel
theorem dL_build_217 : decode cL_build 217 = .ok (.iload 4, 2) := by decide +kernel
theorem dL_build_219 : decode cL_build 219 = .ok (.aload 7, 2) := by decide +kernel
theorem dL_build_221 : decode cL_build 221 = .ok (.iconst 3, 1) := by decide +kernel
theorem dL_build_222 : decode cL_build 222 = .ok (.iaload, 1) := by decide +kernel
theorem dL_build_223 : decode cL_build 223 = .ok (.iload 8, 2) := by decide +kernel
theorem dL_build_225 : decode cL_build 225 = .ok (.invokevirtual 34, 3) := by decide +kernel
theorem dL_build_228 : decode cL_build 228 = .ok (.ifCond .eq 5, 3) := by decide +kernel
theorem dL_build_231 : decode cL_build 231 = .ok (.aconst_null, 1) := by decide +kernel
theorem dL_build_232 : decode cL_build 232 = .ok (.areturn, 1) := by decide +kernel
theorem dL_build_233 : decode cL_build 233 = .ok (.iinc 4 1, 3) := by decide +kernel
theorem dL_build_236 : decode cL_build 236 = .ok (.goto (-212), 3) := by decide +kernel
theorem dL_build_239 : decode cL_build 239 = .ok (.iconst 0, 1) := by decide +kernel
theorem dL_build_240 : decode cL_build 240 = .ok (.istore 4, 2) := by decide +kernel
theorem dL_build_242 : decode cL_build 242 = .ok (.iload 4, 2) := by decide +kernel
theorem dL_build_244 : decode cL_build 244 = .ok (.iconst 1, 1) := by decide +kernel
theorem dL_build_245 : decode cL_build 245 = .ok (.aload_n 1, 1) := by decide +kernel
theorem dL_build_246 : decode cL_build 246 = .ok (.iconst 0, 1) := by decide +kernel
theorem dL_build_247 : decode cL_build 247 = .ok (.invokestatic 65, 3) := by decide +kernel
theorem dL_build_250 : decode cL_build 250 = .ok (.iconst 5, 1) := by decide +kernel
theorem dL_build_251 : decode cL_build 251 = .ok (.ishr, 1) := by decide +kernel
theorem dL_build_252 : decode cL_build 252 = .ok (.iconst 4, 1) := by decide +kernel
theorem dL_build_253 : decode cL_build 253 = .ok (.invokestatic 18, 3) := by decide +kernel
theorem dL_build_256 : decode cL_build 256 = .ok (.iadd, 1) := by decide +kernel
theorem dL_build_257 : decode cL_build 257 = .ok (.if_icmp .ge 238, 3) := by decide +kernel
theorem dL_build_260 : decode cL_build 260 = .ok (.aload_n 1, 1) := by decide +kernel
theorem dL_build_261 : decode cL_build 261 = .ok (.bipush 6, 2) := by decide +kernel
theorem dL_build_263 : decode cL_build 263 = .ok (.iload 4, 2) := by decide +kernel
theorem dL_build_265 : decode cL_build 265 = .ok (.iadd, 1) := by decide +kernel
theorem dL_build_266 : decode cL_build 266 = .ok (.invokestatic 65, 3) := by decide +kernel
theorem dL_build_269 : decode cL_build 269 = .ok (.iconst 2, 1) := by decide +kernel
theorem dL_build_270 : decode cL_build 270 = .ok (.ishr, 1) := by decide +kernel
theorem dL_build_271 : decode cL_build 271 = .ok (.istore 5, 2) := by decide +kernel
theorem dL_build_273 : decode cL_build 273 = .ok (.iconst 1, 1) := by decide +kernel
theorem dL_build_274 : decode cL_build 274 = .ok (.iload 5, 2) := by decide +kernel
theorem dL_build_276 : decode cL_build 276 = .ok (.sipush 999, 3) := by decide +kernel
theorem dL_build_279 : decode cL_build 279 = .ok (.invokestatic 18, 3) := by decide +kernel
theorem dL_build_282 : decode cL_build 282 = .ok (.iadd, 1) := by decide +kernel
theorem dL_build_283 : decode cL_build 283 = .ok (.istore 6, 2) := by decide +kernel
theorem dL_build_285 : decode cL_build 285 = .ok (.aload_n 2, 1) := by decide +kernel
theorem dL_build_286 : decode cL_build 286 = .ok (.aload_n 2, 1) := by decide +kernel
theorem dL_build_287 : decode cL_build 287 = .ok (.getfield 15, 3) := by decide +kernel
theorem dL_build_290 : decode cL_build 290 = .ok (.iconst 1, 1) := by decide +kernel
theorem dL_build_291 : decode cL_build 291 = .ok (.newarray .int, 2) := by decide +kernel
theorem dL_build_293 : decode cL_build 293 = .ok (.dup, 1) := by decide +kernel
theorem dL_build_294 : decode cL_build 294 = .ok (.iconst 0, 1) := by decide +kernel
theorem dL_build_295 : decode cL_build 295 = .ok (.iload 6, 2) := by decide +kernel
theorem dL_build_297 : decode cL_build 297 = .ok (.iastore, 1) := by decide +kernel
theorem dL_build_298 : decode cL_build 298 = .ok (.invokestatic 24, 3) := by decide +kernel
theorem dL_build_301 : decode cL_build 301 = .ok (.putfield 15, 3) := by decide +kernel
theorem dL_build_304 : decode cL_build 304 = .ok (.aload_n 2, 1) := by decide +kernel
theorem dL_build_305 : decode cL_build 305 = .ok (.aload_n 2, 1) := by decide +kernel
theorem dL_build_306 : decode cL_build 306 = .ok (.getfield 37, 3) := by decide +kernel
theorem dL_build_309 : decode cL_build 309 = .ok (.iconst 1, 1) := by decide +kernel
theorem dL_build_310 : decode cL_build 310 = .ok (.newarray .int, 2) := by decide +kernel
theorem dL_build_312 : decode cL_build 312 = .ok (.dup, 1) := by decide +kernel
theorem dL_build_313 : decode cL_build 313 = .ok (.iconst 0, 1) := by decide +kernel
theorem dL_build_314 : decode cL_build 314 = .ok (.iconst 1, 1) := by decide +kernel
theorem dL_build_315 : decode cL_build 315 = .ok (.iastore, 1) := by decide +kernel
theorem dL_build_316 : decode cL_build 316 = .ok (.invokestatic 24, 3) := by decide +kernel
theorem dL_build_319 : decode cL_build 319 = .ok (.putfield 37, 3) := by decide +kernel
theorem dL_build_322 : decode cL_build 322 = .ok (.aload_n 0, 1) := by decide +kernel
theorem dL_build_323 : decode cL_build 323 = .ok (.iconst 1, 1) := by decide +kernel
theorem dL_build_324 : decode cL_build 324 = .ok (.iload 6, 2) := by decide +kernel
theorem dL_build_326 : decode cL_build 326 = .ok (.invokevirtual 40, 3) := by decide +kernel
theorem dL_build_329 : decode cL_build 329 = .ok (.iload 4, 2) := by decide +kernel
theorem dL_build_331 : decode cL_build 331 = .ok (.if_icmp .eq 5, 3) := by decide +kernel
theorem dL_build_334 : decode cL_build 334 = .ok (.aconst_null, 1) := by decide +kernel
theorem dL_build_335 : decode cL_build 335 = .ok (.areturn, 1) := by decide +kernel
theorem dL_build_336 : decode cL_build 336 = .ok (.iconst 1, 1) := by decide +kernel
theorem dL_build_337 : decode cL_build 337 = .ok (.istore 7, 2) := by decide +kernel
theorem dL_build_339 : decode cL_build 339 = .ok (.iload 7, 2) := by decide +kernel
theorem dL_build_341 : decode cL_build 341 = .ok (.iconst 1, 1) := by decide +kernel
theorem dL_build_342 : decode cL_build 342 = .ok (.iload 5, 2) := by decide +kernel
theorem dL_build_344 : decode cL_build 344 = .ok (.iconst 5, 1) := by decide +kernel
theorem dL_build_345 : decode cL_build 345 = .ok (.ishr, 1) := by decide +kernel
theorem dL_build_346 : decode cL_build 346 = .ok (.iconst 5, 1) := by decide +kernel
theorem dL_build_347 : decode cL_build 347 = .ok (.invokestatic 18, 3) := by decide +kernel
theorem dL_build_350 : decode cL_build 350 = .ok (.iadd, 1) := by decide +kernel
theorem dL_build_351 : decode cL_build 351 = .ok (.if_icmp .ge 138, 3) := by decide +kernel
theorem dL_build_354 : decode cL_build 354 = .ok (.iconst 1, 1) := by decide +kernel
theorem dL_build_355 : decode cL_build 355 = .ok (.iload 5, 2) := by decide +kernel
theorem dL_build_357 : decode cL_build 357 = .ok (.iload 7, 2) := by decide +kernel
theorem dL_build_359 : decode cL_build 359 = .ok (.iconst 3, 1) := by decide +kernel
theorem dL_build_360 : decode cL_build 360 = .ok (.iadd, 1) := by decide +kernel
theorem dL_build_361 : decode cL_build 361 = .ok (.ishr, 1) := by decide +kernel
theorem dL_build_362 : decode cL_build 362 = .ok (.sipush 999, 3) := by decide +kernel
theorem dL_build_365 : decode cL_build 365 = .ok (.invokestatic 18, 3) := by decide +kernel
theorem dL_build_368 : decode cL_build 368 = .ok (.iadd, 1) := by decide +kernel
theorem dL_build_369 : decode cL_build 369 = .ok (.istore 6, 2) := by decide +kernel
theorem dL_build_371 : decode cL_build 371 = .ok (.iload 5, 2) := by decide +kernel
theorem dL_build_373 : decode cL_build 373 = .ok (.iload 7, 2) := by decide +kernel
theorem dL_build_375 : decode cL_build 375 = .ok (.ishr, 1) := by decide +kernel
theorem dL_build_376 : decode cL_build 376 = .ok (.iload_n 3, 1) := by decide +kernel
theorem dL_build_377 : decode cL_build 377 = .ok (.invokestatic 18, 3) := by decide +kernel
theorem dL_build_380 : decode cL_build 380 = .ok (.istore 8, 2) := by decide +kernel
theorem dL_build_382 : decode cL_build 382 = .ok (.aload_n 2, 1) := by decide +kernel
theorem dL_build_383 : decode cL_build 383 = .ok (.getfield 9, 3) := by decide +kernel
theorem dL_build_386 : decode cL_build 386 = .ok (.iload 8, 2) := by decide +kernel
theorem dL_build_388 : decode cL_build 388 = .ok (.aaload, 1) := by decide +kernel
theorem dL_build_389 : decode cL_build 389 = .ok (.iconst 0, 1) := by decide +kernel
theorem dL_build_390 : decode cL_build 390 = .ok (.iaload, 1) := by decide +kernel
theorem dL_build_391 : decode cL_build 391 = .ok (.iconst 1, 1) := by decide +kernel
theorem dL_build_392 : decode cL_build 392 = .ok (.if_icmp .ne 6, 3) := by decide +kernel
theorem dL_build_395 : decode cL_build 395 = .ok (.iconst 0, 1) := by decide +kernel
theorem dL_build_396 : decode cL_build 396 = .ok (.istore 8, 2) := by decide +kernel
theorem dL_build_398 : decode cL_build 398 = .ok (.aload_n 2, 1) := by decide +kernel
theorem dL_build_399 : decode cL_build 399 = .ok (.getfield 15, 3) := by decide +kernel
theorem dL_build_402 : decode cL_build 402 = .ok (.iload 4, 2) := by decide +kernel
theorem dL_build_404 : decode cL_build 404 = .ok (.aload_n 2, 1) := by decide +kernel
theorem dL_build_405 : decode cL_build 405 = .ok (.getfield 15, 3) := by decide +kernel
theorem dL_build_408 : decode cL_build 408 = .ok (.iload 4, 2) := by decide +kernel
theorem dL_build_410 : decode cL_build 410 = .ok (.aaload, 1) := by decide +kernel
theorem dL_build_411 : decode cL_build 411 = .ok (.iload 7, 2) := by decide +kernel
theorem dL_build_413 : decode cL_build 413 = .ok (.iconst 1, 1) := by decide +kernel
theorem dL_build_414 : decode cL_build 414 = .ok (.iadd, 1) := by decide +kernel
theorem dL_build_415 : decode cL_build 415 = .ok (.invokestatic 43, 3) := by decide +kernel
theorem dL_build_418 : decode cL_build 418 = .ok (.aastore, 1) := by decide +kernel
theorem dL_build_419 : decode cL_build 419 = .ok (.aload_n 2, 1) := by decide +kernel
theorem dL_build_420 : decode cL_build 420 = .ok (.getfield 37, 3) := by decide +kernel
theorem dL_build_423 : decode cL_build 423 = .ok (.iload 4, 2) := by decide +kernel
theorem dL_build_425 : decode cL_build 425 = .ok (.aload_n 2, 1) := by decide +kernel
theorem dL_build_426 : decode cL_build 426 = .ok (.getfield 37, 3) := by decide +kernel
theorem dL_build_429 : decode cL_build 429 = .ok (.iload 4, 2) := by decide +kernel
theorem dL_build_431 : decode cL_build 431 = .ok (.aaload, 1) := by decide +kernel
theorem dL_build_432 : decode cL_build 432 = .ok (.iload 7, 2) := by decide +kernel
theorem dL_build_434 : decode cL_build 434 = .ok (.iconst 1, 1) := by decide +kernel
theorem dL_build_435 : decode cL_build 435 = .ok (.iadd, 1) := by decide +kernel
theorem dL_build_436 : decode cL_build 436 = .ok (.invokestatic 43, 3) := by decide +kernel
theorem dL_build_439 : decode cL_build 439 = .ok (.aastore, 1) := by decide +kernel
theorem dL_build_440 : decode cL_build 440 = .ok (.aload_n 2, 1) := by decide +kernel
theorem dL_build_441 : decode cL_build 441 = .ok (.getfield 15, 3) := by decide +kernel
theorem dL_build_444 : decode cL_build 444 = .ok (.iload 4, 2) := by decide +kernel
theorem dL_build_446 : decode cL_build 446 = .ok (.aaload, 1) := by decide +kernel
theorem dL_build_447 : decode cL_build 447 = .ok (.iload 7, 2) := by decide +kernel
theorem dL_build_449 : decode cL_build 449 = .ok (.iload 6, 2) := by decide +kernel
theorem dL_build_451 : decode cL_build 451 = .ok (.iastore, 1) := by decide +kernel
theorem dL_build_452 : decode cL_build 452 = .ok (.aload_n 2, 1) := by decide +kernel
theorem dL_build_453 : decode cL_build 453 = .ok (.getfield 37, 3) := by decide +kernel
theorem dL_build_456 : decode cL_build 456 = .ok (.iload 4, 2) := by decide +kernel
theorem dL_build_458 : decode cL_build 458 = .ok (.aaload, 1) := by decide +kernel
theorem dL_build_459 : decode cL_build 459 = .ok (.iload 7, 2) := by decide +kernel
theorem dL_build_461 : decode cL_build 461 = .ok (.iload 8, 2) := by decide +kernel
theorem dL_build_463 : decode cL_build 463 = .ok (.iastore, 1) := by decide +kernel
theorem dL_build_464 : decode cL_build 464 = .ok (.aload_n 0, 1) := by decide +kernel
theorem dL_build_465 : decode cL_build 465 = .ok (.iload 4, 2) := by decide +kernel
theorem dL_build_467 : decode cL_build 467 = .ok (.iload 8, 2) := by decide +kernel
theorem dL_build_469 : decode cL_build 469 = .ok (.iload 6, 2) := by decide +kernel
theorem dL_build_471 : decode cL_build 471 = .ok (.invokevirtual 47, 3) := by decide +kernel
theorem dL_build_474 : decode cL_build 474 = .ok (.iload 7, 2) := by decide +kernel
theorem dL_build_476 : decode cL_build 476 = .ok (.iconst 1, 1) := by decide +kernel
theorem dL_build_477 : decode cL_build 477 = .ok (.iadd, 1) := by decide +kernel
theorem dL_build_478 : decode cL_build 478 = .ok (.if_icmp .eq 5, 3) := by decide +kernel
theorem dL_build_481 : decode cL_build 481 = .ok (.aconst_null, 1) := by decide +kernel
theorem dL_build_482 : decode cL_build 482 = .ok (.areturn, 1) := by decide +kernel
theorem dL_build_483 : decode cL_build 483 = .ok (.iinc 7 1, 3) := by decide +kernel
theorem dL_build_486 : decode cL_build 486 = .ok (.goto (-147), 3) := by decide +kernel
theorem dL_build_489 : decode cL_build 489 = .ok (.iinc 4 1, 3) := by decide +kernel
theorem dL_build_492 : decode cL_build 492 = .ok (.goto (-250), 3) := by decide +kernel
theorem dL_build_495 : decode cL_build 495 = .ok (.aload_n 2, 1) := by decide +kernel
theorem dL_build_496 : decode cL_build 496 = .ok (.areturn, 1) := by decide +kernel
