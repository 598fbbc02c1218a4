/-! The law: its rows -/
def Y_law : gY := (x, code, 7, some FieldType.boolean, [])
theorem d_law_0 : decode Y_law.2.1 0 = .ok (.new 8, 3) := by decide +kernel
theorem d_law_3 : decode Y_law.2.1 3 = .ok (.dup, 1) := by decide +kernel
theorem d_law_4 : decode Y_law.2.1 4 = .ok (.invokespecial 64, 3) := by decide +kernel
theorem d_law_7 : decode Y_law.2.1 7 = .ok (.astore_n 1, 1) := by decide +kernel
theorem d_law_8 : decode Y_law.2.1 8 = .ok (.new 65, 3) := by decide +kernel
theorem d_law_11 : decode Y_law.2.1 11 = .ok (.dup, 1) := by decide +kernel
theorem d_law_12 : decode Y_law.2.1 12 = .ok (.invokespecial 67, 3) := by decide +kernel
theorem d_law_15 : decode Y_law.2.1 15 = .ok (.astore_n 2, 1) := by decide +kernel
theorem d_law_16 : decode Y_law.2.1 16 = .ok (.iconst 1, 1) := by decide +kernel
theorem d_law_17 : decode Y_law.2.1 17 = .ok (.newarray .long, 2) := by decide +kernel
theorem d_law_19 : decode Y_law.2.1 19 = .ok (.astore_n 3, 1) := by decide +kernel
theorem d_law_20 : decode Y_law.2.1 20 = .ok (.iconst 0, 1) := by decide +kernel
theorem d_law_21 : decode Y_law.2.1 21 = .ok (.istore 4, 2) := by decide +kernel
theorem d_law_23 : decode Y_law.2.1 23 = .ok (.iload 4, 2) := by decide +kernel
theorem d_law_25 : decode Y_law.2.1 25 = .ok (.aload_n 0, 1) := by decide +kernel
theorem d_law_26 : decode Y_law.2.1 26 = .ok (.arraylength, 1) := by decide +kernel
theorem d_law_27 : decode Y_law.2.1 27 = .ok (.iconst 4, 1) := by decide +kernel
theorem d_law_28 : decode Y_law.2.1 28 = .ok (.isub, 1) := by decide +kernel
theorem d_law_29 : decode Y_law.2.1 29 = .ok (.if_icmp .gt 1128, 3) := by decide +kernel
theorem d_law_32 : decode Y_law.2.1 32 = .ok (.aload_n 0, 1) := by decide +kernel
theorem d_law_33 : decode Y_law.2.1 33 = .ok (.iload 4, 2) := by decide +kernel
theorem d_law_35 : decode Y_law.2.1 35 = .ok (.iaload, 1) := by decide +kernel
theorem d_law_36 : decode Y_law.2.1 36 = .ok (.bipush 31, 2) := by decide +kernel
theorem d_law_38 : decode Y_law.2.1 38 = .ok (.iand, 1) := by decide +kernel
theorem d_law_39 : decode Y_law.2.1 39 = .ok (.tableswitch 1112 0 18 #[89, 137, 217, 273, 369, 465, 509, 565, 606, 678, 722, 778, 803, 859, 927, 952, 977, 1045, 1101], 89) := by decide +kernel
theorem d_law_128 : decode Y_law.2.1 128 = .ok (.aload_n 1, 1) := by decide +kernel
theorem d_law_129 : decode Y_law.2.1 129 = .ok (.aload_n 0, 1) := by decide +kernel
theorem d_law_130 : decode Y_law.2.1 130 = .ok (.iload 4, 2) := by decide +kernel
theorem d_law_132 : decode Y_law.2.1 132 = .ok (.iconst 1, 1) := by decide +kernel
theorem d_law_133 : decode Y_law.2.1 133 = .ok (.iadd, 1) := by decide +kernel
theorem d_law_134 : decode Y_law.2.1 134 = .ok (.iaload, 1) := by decide +kernel
theorem d_law_135 : decode Y_law.2.1 135 = .ok (.aload_n 0, 1) := by decide +kernel
theorem d_law_136 : decode Y_law.2.1 136 = .ok (.iload 4, 2) := by decide +kernel
theorem d_law_138 : decode Y_law.2.1 138 = .ok (.iconst 2, 1) := by decide +kernel
theorem d_law_139 : decode Y_law.2.1 139 = .ok (.iadd, 1) := by decide +kernel
theorem d_law_140 : decode Y_law.2.1 140 = .ok (.iaload, 1) := by decide +kernel
theorem d_law_141 : decode Y_law.2.1 141 = .ok (.invokestatic 68, 3) := by decide +kernel
theorem d_law_144 : decode Y_law.2.1 144 = .ok (.istore 5, 2) := by decide +kernel
theorem d_law_146 : decode Y_law.2.1 146 = .ok (.aload_n 2, 1) := by decide +kernel
theorem d_law_147 : decode Y_law.2.1 147 = .ok (.aload_n 0, 1) := by decide +kernel
theorem d_law_148 : decode Y_law.2.1 148 = .ok (.iload 4, 2) := by decide +kernel
theorem d_law_150 : decode Y_law.2.1 150 = .ok (.iconst 1, 1) := by decide +kernel
theorem d_law_151 : decode Y_law.2.1 151 = .ok (.iadd, 1) := by decide +kernel
theorem d_law_152 : decode Y_law.2.1 152 = .ok (.iaload, 1) := by decide +kernel
theorem d_law_153 : decode Y_law.2.1 153 = .ok (.aload_n 0, 1) := by decide +kernel
theorem d_law_154 : decode Y_law.2.1 154 = .ok (.iload 4, 2) := by decide +kernel
theorem d_law_156 : decode Y_law.2.1 156 = .ok (.iconst 2, 1) := by decide +kernel
theorem d_law_157 : decode Y_law.2.1 157 = .ok (.iadd, 1) := by decide +kernel
theorem d_law_158 : decode Y_law.2.1 158 = .ok (.iaload, 1) := by decide +kernel
theorem d_law_159 : decode Y_law.2.1 159 = .ok (.invokevirtual 73, 3) := by decide +kernel
theorem d_law_162 : decode Y_law.2.1 162 = .ok (.aload_n 2, 1) := by decide +kernel
theorem d_law_163 : decode Y_law.2.1 163 = .ok (.invokevirtual 74, 3) := by decide +kernel
theorem d_law_166 : decode Y_law.2.1 166 = .ok (.iload 5, 2) := by decide +kernel
theorem d_law_168 : decode Y_law.2.1 168 = .ok (.if_icmp .eq 5, 3) := by decide +kernel
theorem d_law_171 : decode Y_law.2.1 171 = .ok (.iconst 0, 1) := by decide +kernel
theorem d_law_172 : decode Y_law.2.1 172 = .ok (.ireturn, 1) := by decide +kernel
theorem d_law_173 : decode Y_law.2.1 173 = .ok (.goto 978, 3) := by decide +kernel
theorem d_law_176 : decode Y_law.2.1 176 = .ok (.aload_n 1, 1) := by decide +kernel
theorem d_law_177 : decode Y_law.2.1 177 = .ok (.aload_n 0, 1) := by decide +kernel
theorem d_law_178 : decode Y_law.2.1 178 = .ok (.iload 4, 2) := by decide +kernel
theorem d_law_180 : decode Y_law.2.1 180 = .ok (.iconst 1, 1) := by decide +kernel
theorem d_law_181 : decode Y_law.2.1 181 = .ok (.iadd, 1) := by decide +kernel
theorem d_law_182 : decode Y_law.2.1 182 = .ok (.iaload, 1) := by decide +kernel
theorem d_law_183 : decode Y_law.2.1 183 = .ok (.aload_n 0, 1) := by decide +kernel
theorem d_law_184 : decode Y_law.2.1 184 = .ok (.iload 4, 2) := by decide +kernel
theorem d_law_186 : decode Y_law.2.1 186 = .ok (.iconst 2, 1) := by decide +kernel
theorem d_law_187 : decode Y_law.2.1 187 = .ok (.iadd, 1) := by decide +kernel
theorem d_law_188 : decode Y_law.2.1 188 = .ok (.iaload, 1) := by decide +kernel
theorem d_law_189 : decode Y_law.2.1 189 = .ok (.aload_n 0, 1) := by decide +kernel
theorem d_law_190 : decode Y_law.2.1 190 = .ok (.iload 4, 2) := by decide +kernel
theorem d_law_192 : decode Y_law.2.1 192 = .ok (.iconst 3, 1) := by decide +kernel
theorem d_law_193 : decode Y_law.2.1 193 = .ok (.iadd, 1) := by decide +kernel
theorem d_law_194 : decode Y_law.2.1 194 = .ok (.iaload, 1) := by decide +kernel
theorem d_law_195 : decode Y_law.2.1 195 = .ok (.aload_n 3, 1) := by decide +kernel
theorem d_law_196 : decode Y_law.2.1 196 = .ok (.invokestatic 77, 3) := by decide +kernel
theorem d_law_199 : decode Y_law.2.1 199 = .ok (.istore 5, 2) := by decide +kernel
theorem d_law_201 : decode Y_law.2.1 201 = .ok (.aload_n 2, 1) := by decide +kernel
theorem d_law_202 : decode Y_law.2.1 202 = .ok (.aload_n 0, 1) := by decide +kernel
theorem d_law_203 : decode Y_law.2.1 203 = .ok (.iload 4, 2) := by decide +kernel
theorem d_law_205 : decode Y_law.2.1 205 = .ok (.iconst 1, 1) := by decide +kernel
theorem d_law_206 : decode Y_law.2.1 206 = .ok (.iadd, 1) := by decide +kernel
theorem d_law_207 : decode Y_law.2.1 207 = .ok (.iaload, 1) := by decide +kernel
theorem d_law_208 : decode Y_law.2.1 208 = .ok (.aload_n 0, 1) := by decide +kernel
theorem d_law_209 : decode Y_law.2.1 209 = .ok (.iload 4, 2) := by decide +kernel
theorem d_law_211 : decode Y_law.2.1 211 = .ok (.iconst 2, 1) := by decide +kernel
theorem d_law_212 : decode Y_law.2.1 212 = .ok (.iadd, 1) := by decide +kernel
theorem d_law_213 : decode Y_law.2.1 213 = .ok (.iaload, 1) := by decide +kernel
theorem d_law_214 : decode Y_law.2.1 214 = .ok (.aload_n 0, 1) := by decide +kernel
theorem d_law_215 : decode Y_law.2.1 215 = .ok (.iload 4, 2) := by decide +kernel
theorem d_law_217 : decode Y_law.2.1 217 = .ok (.iconst 3, 1) := by decide +kernel
theorem d_law_218 : decode Y_law.2.1 218 = .ok (.iadd, 1) := by decide +kernel
theorem d_law_219 : decode Y_law.2.1 219 = .ok (.iaload, 1) := by decide +kernel
theorem d_law_220 : decode Y_law.2.1 220 = .ok (.invokevirtual 80, 3) := by decide +kernel
theorem d_law_223 : decode Y_law.2.1 223 = .ok (.istore 6, 2) := by decide +kernel
theorem d_law_225 : decode Y_law.2.1 225 = .ok (.aload_n 2, 1) := by decide +kernel
theorem d_law_226 : decode Y_law.2.1 226 = .ok (.invokevirtual 74, 3) := by decide +kernel
theorem d_law_229 : decode Y_law.2.1 229 = .ok (.iload 5, 2) := by decide +kernel
theorem d_law_231 : decode Y_law.2.1 231 = .ok (.if_icmp .eq 5, 3) := by decide +kernel
theorem d_law_234 : decode Y_law.2.1 234 = .ok (.iconst 0, 1) := by decide +kernel
theorem d_law_235 : decode Y_law.2.1 235 = .ok (.ireturn, 1) := by decide +kernel
theorem d_law_236 : decode Y_law.2.1 236 = .ok (.iload 5, 2) := by decide +kernel
theorem d_law_238 : decode Y_law.2.1 238 = .ok (.ifCond .ne 15, 3) := by decide +kernel
theorem d_law_241 : decode Y_law.2.1 241 = .ok (.aload_n 3, 1) := by decide +kernel
theorem d_law_242 : decode Y_law.2.1 242 = .ok (.iconst 0, 1) := by decide +kernel
theorem d_law_243 : decode Y_law.2.1 243 = .ok (.laload, 1) := by decide +kernel
theorem d_law_244 : decode Y_law.2.1 244 = .ok (.iload 6, 2) := by decide +kernel
theorem d_law_246 : decode Y_law.2.1 246 = .ok (.i2l, 1) := by decide +kernel
theorem d_law_247 : decode Y_law.2.1 247 = .ok (.lcmp, 1) := by decide +kernel
theorem d_law_248 : decode Y_law.2.1 248 = .ok (.ifCond .eq 5, 3) := by decide +kernel
theorem d_law_251 : decode Y_law.2.1 251 = .ok (.iconst 0, 1) := by decide +kernel
theorem d_law_252 : decode Y_law.2.1 252 = .ok (.ireturn, 1) := by decide +kernel
theorem d_law_253 : decode Y_law.2.1 253 = .ok (.goto 898, 3) := by decide +kernel
theorem d_law_256 : decode Y_law.2.1 256 = .ok (.aload_n 1, 1) := by decide +kernel
theorem d_law_257 : decode Y_law.2.1 257 = .ok (.aload_n 0, 1) := by decide +kernel
theorem d_law_258 : decode Y_law.2.1 258 = .ok (.iload 4, 2) := by decide +kernel
theorem d_law_260 : decode Y_law.2.1 260 = .ok (.iconst 1, 1) := by decide +kernel
theorem d_law_261 : decode Y_law.2.1 261 = .ok (.iadd, 1) := by decide +kernel
theorem d_law_262 : decode Y_law.2.1 262 = .ok (.iaload, 1) := by decide +kernel
theorem d_law_263 : decode Y_law.2.1 263 = .ok (.aload_n 3, 1) := by decide +kernel
theorem d_law_264 : decode Y_law.2.1 264 = .ok (.invokestatic 81, 3) := by decide +kernel
theorem d_law_267 : decode Y_law.2.1 267 = .ok (.istore 5, 2) := by decide +kernel
theorem d_law_269 : decode Y_law.2.1 269 = .ok (.aload_n 2, 1) := by decide +kernel
theorem d_law_270 : decode Y_law.2.1 270 = .ok (.aload_n 0, 1) := by decide +kernel
theorem d_law_271 : decode Y_law.2.1 271 = .ok (.iload 4, 2) := by decide +kernel
theorem d_law_273 : decode Y_law.2.1 273 = .ok (.iconst 1, 1) := by decide +kernel
theorem d_law_274 : decode Y_law.2.1 274 = .ok (.iadd, 1) := by decide +kernel
theorem d_law_275 : decode Y_law.2.1 275 = .ok (.iaload, 1) := by decide +kernel
theorem d_law_276 : decode Y_law.2.1 276 = .ok (.invokevirtual 84, 3) := by decide +kernel
theorem d_law_279 : decode Y_law.2.1 279 = .ok (.istore 6, 2) := by decide +kernel
theorem d_law_281 : decode Y_law.2.1 281 = .ok (.aload_n 2, 1) := by decide +kernel
theorem d_law_282 : decode Y_law.2.1 282 = .ok (.invokevirtual 74, 3) := by decide +kernel
theorem d_law_285 : decode Y_law.2.1 285 = .ok (.iload 5, 2) := by decide +kernel
theorem d_law_287 : decode Y_law.2.1 287 = .ok (.if_icmp .eq 5, 3) := by decide +kernel
theorem d_law_290 : decode Y_law.2.1 290 = .ok (.iconst 0, 1) := by decide +kernel
theorem d_law_291 : decode Y_law.2.1 291 = .ok (.ireturn, 1) := by decide +kernel
theorem d_law_292 : decode Y_law.2.1 292 = .ok (.iload 5, 2) := by decide +kernel
theorem d_law_294 : decode Y_law.2.1 294 = .ok (.ifCond .ne 15, 3) := by decide +kernel
theorem d_law_297 : decode Y_law.2.1 297 = .ok (.aload_n 3, 1) := by decide +kernel
theorem d_law_298 : decode Y_law.2.1 298 = .ok (.iconst 0, 1) := by decide +kernel
theorem d_law_299 : decode Y_law.2.1 299 = .ok (.laload, 1) := by decide +kernel
theorem d_law_300 : decode Y_law.2.1 300 = .ok (.iload 6, 2) := by decide +kernel
theorem d_law_302 : decode Y_law.2.1 302 = .ok (.i2l, 1) := by decide +kernel
theorem d_law_303 : decode Y_law.2.1 303 = .ok (.lcmp, 1) := by decide +kernel
theorem d_law_304 : decode Y_law.2.1 304 = .ok (.ifCond .eq 5, 3) := by decide +kernel
theorem d_law_307 : decode Y_law.2.1 307 = .ok (.iconst 0, 1) := by decide +kernel
theorem d_law_308 : decode Y_law.2.1 308 = .ok (.ireturn, 1) := by decide +kernel
theorem d_law_309 : decode Y_law.2.1 309 = .ok (.goto 842, 3) := by decide +kernel
theorem d_law_312 : decode Y_law.2.1 312 = .ok (.aload_n 1, 1) := by decide +kernel
theorem d_law_313 : decode Y_law.2.1 313 = .ok (.aload_n 0, 1) := by decide +kernel
theorem d_law_314 : decode Y_law.2.1 314 = .ok (.iload 4, 2) := by decide +kernel
theorem d_law_316 : decode Y_law.2.1 316 = .ok (.iconst 1, 1) := by decide +kernel
theorem d_law_317 : decode Y_law.2.1 317 = .ok (.iadd, 1) := by decide +kernel
theorem d_law_318 : decode Y_law.2.1 318 = .ok (.iaload, 1) := by decide +kernel
theorem d_law_319 : decode Y_law.2.1 319 = .ok (.aload_n 0, 1) := by decide +kernel
theorem d_law_320 : decode Y_law.2.1 320 = .ok (.iload 4, 2) := by decide +kernel
theorem d_law_322 : decode Y_law.2.1 322 = .ok (.iconst 2, 1) := by decide +kernel
theorem d_law_323 : decode Y_law.2.1 323 = .ok (.iadd, 1) := by decide +kernel
theorem d_law_324 : decode Y_law.2.1 324 = .ok (.iaload, 1) := by decide +kernel
theorem d_law_325 : decode Y_law.2.1 325 = .ok (.aload_n 0, 1) := by decide +kernel
theorem d_law_326 : decode Y_law.2.1 326 = .ok (.iload 4, 2) := by decide +kernel
theorem d_law_328 : decode Y_law.2.1 328 = .ok (.iconst 3, 1) := by decide +kernel
theorem d_law_329 : decode Y_law.2.1 329 = .ok (.iadd, 1) := by decide +kernel
theorem d_law_330 : decode Y_law.2.1 330 = .ok (.iaload, 1) := by decide +kernel
theorem d_law_331 : decode Y_law.2.1 331 = .ok (.ifCond .eq 7, 3) := by decide +kernel
theorem d_law_334 : decode Y_law.2.1 334 = .ok (.iconst 1, 1) := by decide +kernel
theorem d_law_335 : decode Y_law.2.1 335 = .ok (.goto 4, 3) := by decide +kernel
theorem d_law_338 : decode Y_law.2.1 338 = .ok (.iconst 0, 1) := by decide +kernel
theorem d_law_339 : decode Y_law.2.1 339 = .ok (.aload_n 3, 1) := by decide +kernel
theorem d_law_340 : decode Y_law.2.1 340 = .ok (.invokestatic 85, 3) := by decide +kernel
theorem d_law_343 : decode Y_law.2.1 343 = .ok (.istore 5, 2) := by decide +kernel
theorem d_law_345 : decode Y_law.2.1 345 = .ok (.aload_n 2, 1) := by decide +kernel
theorem d_law_346 : decode Y_law.2.1 346 = .ok (.aload_n 0, 1) := by decide +kernel
theorem d_law_347 : decode Y_law.2.1 347 = .ok (.iload 4, 2) := by decide +kernel
theorem d_law_349 : decode Y_law.2.1 349 = .ok (.iconst 1, 1) := by decide +kernel
theorem d_law_350 : decode Y_law.2.1 350 = .ok (.iadd, 1) := by decide +kernel
theorem d_law_351 : decode Y_law.2.1 351 = .ok (.iaload, 1) := by decide +kernel
theorem d_law_352 : decode Y_law.2.1 352 = .ok (.aload_n 0, 1) := by decide +kernel
theorem d_law_353 : decode Y_law.2.1 353 = .ok (.iload 4, 2) := by decide +kernel
theorem d_law_355 : decode Y_law.2.1 355 = .ok (.iconst 2, 1) := by decide +kernel
theorem d_law_356 : decode Y_law.2.1 356 = .ok (.iadd, 1) := by decide +kernel
theorem d_law_357 : decode Y_law.2.1 357 = .ok (.iaload, 1) := by decide +kernel
theorem d_law_358 : decode Y_law.2.1 358 = .ok (.aload_n 0, 1) := by decide +kernel
theorem d_law_359 : decode Y_law.2.1 359 = .ok (.iload 4, 2) := by decide +kernel
theorem d_law_361 : decode Y_law.2.1 361 = .ok (.iconst 3, 1) := by decide +kernel
theorem d_law_362 : decode Y_law.2.1 362 = .ok (.iadd, 1) := by decide +kernel
theorem d_law_363 : decode Y_law.2.1 363 = .ok (.iaload, 1) := by decide +kernel
theorem d_law_364 : decode Y_law.2.1 364 = .ok (.ifCond .eq 7, 3) := by decide +kernel
theorem d_law_367 : decode Y_law.2.1 367 = .ok (.iconst 1, 1) := by decide +kernel
theorem d_law_368 : decode Y_law.2.1 368 = .ok (.goto 4, 3) := by decide +kernel
theorem d_law_371 : decode Y_law.2.1 371 = .ok (.iconst 0, 1) := by decide +kernel
theorem d_law_372 : decode Y_law.2.1 372 = .ok (.invokevirtual 88, 3) := by decide +kernel
theorem d_law_375 : decode Y_law.2.1 375 = .ok (.istore 6, 2) := by decide +kernel
theorem d_law_377 : decode Y_law.2.1 377 = .ok (.aload_n 2, 1) := by decide +kernel
theorem d_law_378 : decode Y_law.2.1 378 = .ok (.invokevirtual 74, 3) := by decide +kernel
theorem d_law_381 : decode Y_law.2.1 381 = .ok (.iload 5, 2) := by decide +kernel
theorem d_law_383 : decode Y_law.2.1 383 = .ok (.if_icmp .eq 5, 3) := by decide +kernel
theorem d_law_386 : decode Y_law.2.1 386 = .ok (.iconst 0, 1) := by decide +kernel
theorem d_law_387 : decode Y_law.2.1 387 = .ok (.ireturn, 1) := by decide +kernel
theorem d_law_388 : decode Y_law.2.1 388 = .ok (.iload 5, 2) := by decide +kernel
theorem d_law_390 : decode Y_law.2.1 390 = .ok (.ifCond .ne 15, 3) := by decide +kernel
theorem d_law_393 : decode Y_law.2.1 393 = .ok (.aload_n 3, 1) := by decide +kernel
theorem d_law_394 : decode Y_law.2.1 394 = .ok (.iconst 0, 1) := by decide +kernel
theorem d_law_395 : decode Y_law.2.1 395 = .ok (.laload, 1) := by decide +kernel
theorem d_law_396 : decode Y_law.2.1 396 = .ok (.iload 6, 2) := by decide +kernel
theorem d_law_398 : decode Y_law.2.1 398 = .ok (.i2l, 1) := by decide +kernel
theorem d_law_399 : decode Y_law.2.1 399 = .ok (.lcmp, 1) := by decide +kernel
theorem d_law_400 : decode Y_law.2.1 400 = .ok (.ifCond .eq 5, 3) := by decide +kernel
theorem d_law_403 : decode Y_law.2.1 403 = .ok (.iconst 0, 1) := by decide +kernel
theorem d_law_404 : decode Y_law.2.1 404 = .ok (.ireturn, 1) := by decide +kernel
theorem d_law_405 : decode Y_law.2.1 405 = .ok (.goto 746, 3) := by decide +kernel
theorem d_law_408 : decode Y_law.2.1 408 = .ok (.aload_n 1, 1) := by decide +kernel
theorem d_law_409 : decode Y_law.2.1 409 = .ok (.aload_n 0, 1) := by decide +kernel
theorem d_law_410 : decode Y_law.2.1 410 = .ok (.iload 4, 2) := by decide +kernel
theorem d_law_412 : decode Y_law.2.1 412 = .ok (.iconst 1, 1) := by decide +kernel
theorem d_law_413 : decode Y_law.2.1 413 = .ok (.iadd, 1) := by decide +kernel
theorem d_law_414 : decode Y_law.2.1 414 = .ok (.iaload, 1) := by decide +kernel
theorem d_law_415 : decode Y_law.2.1 415 = .ok (.aload_n 0, 1) := by decide +kernel
theorem d_law_416 : decode Y_law.2.1 416 = .ok (.iload 4, 2) := by decide +kernel
theorem d_law_418 : decode Y_law.2.1 418 = .ok (.iconst 2, 1) := by decide +kernel
theorem d_law_419 : decode Y_law.2.1 419 = .ok (.iadd, 1) := by decide +kernel
theorem d_law_420 : decode Y_law.2.1 420 = .ok (.iaload, 1) := by decide +kernel
theorem d_law_421 : decode Y_law.2.1 421 = .ok (.aload_n 0, 1) := by decide +kernel
theorem d_law_422 : decode Y_law.2.1 422 = .ok (.iload 4, 2) := by decide +kernel
theorem d_law_424 : decode Y_law.2.1 424 = .ok (.iconst 3, 1) := by decide +kernel
theorem d_law_425 : decode Y_law.2.1 425 = .ok (.iadd, 1) := by decide +kernel
theorem d_law_426 : decode Y_law.2.1 426 = .ok (.iaload, 1) := by decide +kernel
theorem d_law_427 : decode Y_law.2.1 427 = .ok (.ifCond .eq 7, 3) := by decide +kernel
theorem d_law_430 : decode Y_law.2.1 430 = .ok (.iconst 1, 1) := by decide +kernel
theorem d_law_431 : decode Y_law.2.1 431 = .ok (.goto 4, 3) := by decide +kernel
theorem d_law_434 : decode Y_law.2.1 434 = .ok (.iconst 0, 1) := by decide +kernel
theorem d_law_435 : decode Y_law.2.1 435 = .ok (.aload_n 3, 1) := by decide +kernel
theorem d_law_436 : decode Y_law.2.1 436 = .ok (.invokestatic 89, 3) := by decide +kernel
theorem d_law_439 : decode Y_law.2.1 439 = .ok (.istore 5, 2) := by decide +kernel
theorem d_law_441 : decode Y_law.2.1 441 = .ok (.aload_n 2, 1) := by decide +kernel
theorem d_law_442 : decode Y_law.2.1 442 = .ok (.aload_n 0, 1) := by decide +kernel
theorem d_law_443 : decode Y_law.2.1 443 = .ok (.iload 4, 2) := by decide +kernel
theorem d_law_445 : decode Y_law.2.1 445 = .ok (.iconst 1, 1) := by decide +kernel
theorem d_law_446 : decode Y_law.2.1 446 = .ok (.iadd, 1) := by decide +kernel
theorem d_law_447 : decode Y_law.2.1 447 = .ok (.iaload, 1) := by decide +kernel
theorem d_law_448 : decode Y_law.2.1 448 = .ok (.aload_n 0, 1) := by decide +kernel
theorem d_law_449 : decode Y_law.2.1 449 = .ok (.iload 4, 2) := by decide +kernel
theorem d_law_451 : decode Y_law.2.1 451 = .ok (.iconst 2, 1) := by decide +kernel
theorem d_law_452 : decode Y_law.2.1 452 = .ok (.iadd, 1) := by decide +kernel
theorem d_law_453 : decode Y_law.2.1 453 = .ok (.iaload, 1) := by decide +kernel
theorem d_law_454 : decode Y_law.2.1 454 = .ok (.aload_n 0, 1) := by decide +kernel
theorem d_law_455 : decode Y_law.2.1 455 = .ok (.iload 4, 2) := by decide +kernel
theorem d_law_457 : decode Y_law.2.1 457 = .ok (.iconst 3, 1) := by decide +kernel
theorem d_law_458 : decode Y_law.2.1 458 = .ok (.iadd, 1) := by decide +kernel
theorem d_law_459 : decode Y_law.2.1 459 = .ok (.iaload, 1) := by decide +kernel
theorem d_law_460 : decode Y_law.2.1 460 = .ok (.ifCond .eq 7, 3) := by decide +kernel
theorem d_law_463 : decode Y_law.2.1 463 = .ok (.iconst 1, 1) := by decide +kernel
theorem d_law_464 : decode Y_law.2.1 464 = .ok (.goto 4, 3) := by decide +kernel
theorem d_law_467 : decode Y_law.2.1 467 = .ok (.iconst 0, 1) := by decide +kernel
theorem d_law_468 : decode Y_law.2.1 468 = .ok (.invokevirtual 91, 3) := by decide +kernel
theorem d_law_471 : decode Y_law.2.1 471 = .ok (.istore 6, 2) := by decide +kernel
theorem d_law_473 : decode Y_law.2.1 473 = .ok (.aload_n 2, 1) := by decide +kernel
theorem d_law_474 : decode Y_law.2.1 474 = .ok (.invokevirtual 74, 3) := by decide +kernel
theorem d_law_477 : decode Y_law.2.1 477 = .ok (.iload 5, 2) := by decide +kernel
theorem d_law_479 : decode Y_law.2.1 479 = .ok (.if_icmp .eq 5, 3) := by decide +kernel
theorem d_law_482 : decode Y_law.2.1 482 = .ok (.iconst 0, 1) := by decide +kernel
theorem d_law_483 : decode Y_law.2.1 483 = .ok (.ireturn, 1) := by decide +kernel
theorem d_law_484 : decode Y_law.2.1 484 = .ok (.iload 5, 2) := by decide +kernel
theorem d_law_486 : decode Y_law.2.1 486 = .ok (.ifCond .ne 15, 3) := by decide +kernel
theorem d_law_489 : decode Y_law.2.1 489 = .ok (.aload_n 3, 1) := by decide +kernel
theorem d_law_490 : decode Y_law.2.1 490 = .ok (.iconst 0, 1) := by decide +kernel
theorem d_law_491 : decode Y_law.2.1 491 = .ok (.laload, 1) := by decide +kernel
theorem d_law_492 : decode Y_law.2.1 492 = .ok (.iload 6, 2) := by decide +kernel
theorem d_law_494 : decode Y_law.2.1 494 = .ok (.i2l, 1) := by decide +kernel
theorem d_law_495 : decode Y_law.2.1 495 = .ok (.lcmp, 1) := by decide +kernel
theorem d_law_496 : decode Y_law.2.1 496 = .ok (.ifCond .eq 5, 3) := by decide +kernel
theorem d_law_499 : decode Y_law.2.1 499 = .ok (.iconst 0, 1) := by decide +kernel
theorem d_law_500 : decode Y_law.2.1 500 = .ok (.ireturn, 1) := by decide +kernel
theorem d_law_501 : decode Y_law.2.1 501 = .ok (.goto 650, 3) := by decide +kernel
theorem d_law_504 : decode Y_law.2.1 504 = .ok (.aload_n 1, 1) := by decide +kernel
theorem d_law_505 : decode Y_law.2.1 505 = .ok (.aload_n 3, 1) := by decide +kernel
theorem d_law_506 : decode Y_law.2.1 506 = .ok (.invokestatic 92, 3) := by decide +kernel
theorem d_law_509 : decode Y_law.2.1 509 = .ok (.istore 5, 2) := by decide +kernel
theorem d_law_511 : decode Y_law.2.1 511 = .ok (.aload_n 2, 1) := by decide +kernel
theorem d_law_512 : decode Y_law.2.1 512 = .ok (.invokevirtual 95, 3) := by decide +kernel
theorem d_law_515 : decode Y_law.2.1 515 = .ok (.istore 6, 2) := by decide +kernel
theorem d_law_517 : decode Y_law.2.1 517 = .ok (.aload_n 2, 1) := by decide +kernel
theorem d_law_518 : decode Y_law.2.1 518 = .ok (.invokevirtual 74, 3) := by decide +kernel
theorem d_law_521 : decode Y_law.2.1 521 = .ok (.iload 5, 2) := by decide +kernel
theorem d_law_523 : decode Y_law.2.1 523 = .ok (.if_icmp .eq 5, 3) := by decide +kernel
theorem d_law_526 : decode Y_law.2.1 526 = .ok (.iconst 0, 1) := by decide +kernel
theorem d_law_527 : decode Y_law.2.1 527 = .ok (.ireturn, 1) := by decide +kernel
theorem d_law_528 : decode Y_law.2.1 528 = .ok (.iload 5, 2) := by decide +kernel
theorem d_law_530 : decode Y_law.2.1 530 = .ok (.ifCond .ne 15, 3) := by decide +kernel
theorem d_law_533 : decode Y_law.2.1 533 = .ok (.aload_n 3, 1) := by decide +kernel
theorem d_law_534 : decode Y_law.2.1 534 = .ok (.iconst 0, 1) := by decide +kernel
theorem d_law_535 : decode Y_law.2.1 535 = .ok (.laload, 1) := by decide +kernel
theorem d_law_536 : decode Y_law.2.1 536 = .ok (.iload 6, 2) := by decide +kernel
theorem d_law_538 : decode Y_law.2.1 538 = .ok (.i2l, 1) := by decide +kernel
theorem d_law_539 : decode Y_law.2.1 539 = .ok (.lcmp, 1) := by decide +kernel
theorem d_law_540 : decode Y_law.2.1 540 = .ok (.ifCond .eq 5, 3) := by decide +kernel
theorem d_law_543 : decode Y_law.2.1 543 = .ok (.iconst 0, 1) := by decide +kernel
theorem d_law_544 : decode Y_law.2.1 544 = .ok (.ireturn, 1) := by decide +kernel
theorem d_law_545 : decode Y_law.2.1 545 = .ok (.goto 606, 3) := by decide +kernel
theorem d_law_548 : decode Y_law.2.1 548 = .ok (.aload_n 1, 1) := by decide +kernel
theorem d_law_549 : decode Y_law.2.1 549 = .ok (.aload_n 0, 1) := by decide +kernel
theorem d_law_550 : decode Y_law.2.1 550 = .ok (.iload 4, 2) := by decide +kernel
theorem d_law_552 : decode Y_law.2.1 552 = .ok (.iconst 1, 1) := by decide +kernel
theorem d_law_553 : decode Y_law.2.1 553 = .ok (.iadd, 1) := by decide +kernel
theorem d_law_554 : decode Y_law.2.1 554 = .ok (.iaload, 1) := by decide +kernel
theorem d_law_555 : decode Y_law.2.1 555 = .ok (.aload_n 3, 1) := by decide +kernel
theorem d_law_556 : decode Y_law.2.1 556 = .ok (.invokestatic 96, 3) := by decide +kernel
theorem d_law_559 : decode Y_law.2.1 559 = .ok (.istore 5, 2) := by decide +kernel
theorem d_law_561 : decode Y_law.2.1 561 = .ok (.aload_n 2, 1) := by decide +kernel
theorem d_law_562 : decode Y_law.2.1 562 = .ok (.aload_n 0, 1) := by decide +kernel
theorem d_law_563 : decode Y_law.2.1 563 = .ok (.iload 4, 2) := by decide +kernel
theorem d_law_565 : decode Y_law.2.1 565 = .ok (.iconst 1, 1) := by decide +kernel
theorem d_law_566 : decode Y_law.2.1 566 = .ok (.iadd, 1) := by decide +kernel
theorem d_law_567 : decode Y_law.2.1 567 = .ok (.iaload, 1) := by decide +kernel
theorem d_law_568 : decode Y_law.2.1 568 = .ok (.invokevirtual 98, 3) := by decide +kernel
theorem d_law_571 : decode Y_law.2.1 571 = .ok (.istore 6, 2) := by decide +kernel
theorem d_law_573 : decode Y_law.2.1 573 = .ok (.aload_n 2, 1) := by decide +kernel
theorem d_law_574 : decode Y_law.2.1 574 = .ok (.invokevirtual 74, 3) := by decide +kernel
theorem d_law_577 : decode Y_law.2.1 577 = .ok (.iload 5, 2) := by decide +kernel
theorem d_law_579 : decode Y_law.2.1 579 = .ok (.if_icmp .eq 5, 3) := by decide +kernel
theorem d_law_582 : decode Y_law.2.1 582 = .ok (.iconst 0, 1) := by decide +kernel
theorem d_law_583 : decode Y_law.2.1 583 = .ok (.ireturn, 1) := by decide +kernel
theorem d_law_584 : decode Y_law.2.1 584 = .ok (.iload 5, 2) := by decide +kernel
theorem d_law_586 : decode Y_law.2.1 586 = .ok (.ifCond .ne 15, 3) := by decide +kernel
theorem d_law_589 : decode Y_law.2.1 589 = .ok (.aload_n 3, 1) := by decide +kernel
theorem d_law_590 : decode Y_law.2.1 590 = .ok (.iconst 0, 1) := by decide +kernel
theorem d_law_591 : decode Y_law.2.1 591 = .ok (.laload, 1) := by decide +kernel
theorem d_law_592 : decode Y_law.2.1 592 = .ok (.iload 6, 2) := by decide +kernel
theorem d_law_594 : decode Y_law.2.1 594 = .ok (.i2l, 1) := by decide +kernel
theorem d_law_595 : decode Y_law.2.1 595 = .ok (.lcmp, 1) := by decide +kernel
theorem d_law_596 : decode Y_law.2.1 596 = .ok (.ifCond .eq 5, 3) := by decide +kernel
theorem d_law_599 : decode Y_law.2.1 599 = .ok (.iconst 0, 1) := by decide +kernel
theorem d_law_600 : decode Y_law.2.1 600 = .ok (.ireturn, 1) := by decide +kernel
theorem d_law_601 : decode Y_law.2.1 601 = .ok (.goto 550, 3) := by decide +kernel
theorem d_law_604 : decode Y_law.2.1 604 = .ok (.aload_n 1, 1) := by decide +kernel
theorem d_law_605 : decode Y_law.2.1 605 = .ok (.aload_n 0, 1) := by decide +kernel
theorem d_law_606 : decode Y_law.2.1 606 = .ok (.iload 4, 2) := by decide +kernel
theorem d_law_608 : decode Y_law.2.1 608 = .ok (.iconst 1, 1) := by decide +kernel
theorem d_law_609 : decode Y_law.2.1 609 = .ok (.iadd, 1) := by decide +kernel
theorem d_law_610 : decode Y_law.2.1 610 = .ok (.iaload, 1) := by decide +kernel
theorem d_law_611 : decode Y_law.2.1 611 = .ok (.ifCond .eq 7, 3) := by decide +kernel
theorem d_law_614 : decode Y_law.2.1 614 = .ok (.iconst 1, 1) := by decide +kernel
theorem d_law_615 : decode Y_law.2.1 615 = .ok (.goto 4, 3) := by decide +kernel
theorem d_law_618 : decode Y_law.2.1 618 = .ok (.iconst 0, 1) := by decide +kernel
theorem d_law_619 : decode Y_law.2.1 619 = .ok (.invokevirtual 99, 3) := by decide +kernel
theorem d_law_622 : decode Y_law.2.1 622 = .ok (.aload_n 2, 1) := by decide +kernel
theorem d_law_623 : decode Y_law.2.1 623 = .ok (.aload_n 0, 1) := by decide +kernel
theorem d_law_624 : decode Y_law.2.1 624 = .ok (.iload 4, 2) := by decide +kernel
theorem d_law_626 : decode Y_law.2.1 626 = .ok (.iconst 1, 1) := by decide +kernel
theorem d_law_627 : decode Y_law.2.1 627 = .ok (.iadd, 1) := by decide +kernel
theorem d_law_628 : decode Y_law.2.1 628 = .ok (.iaload, 1) := by decide +kernel
theorem d_law_629 : decode Y_law.2.1 629 = .ok (.ifCond .eq 7, 3) := by decide +kernel
theorem d_law_632 : decode Y_law.2.1 632 = .ok (.iconst 1, 1) := by decide +kernel
theorem d_law_633 : decode Y_law.2.1 633 = .ok (.goto 4, 3) := by decide +kernel
theorem d_law_636 : decode Y_law.2.1 636 = .ok (.iconst 0, 1) := by decide +kernel
theorem d_law_637 : decode Y_law.2.1 637 = .ok (.invokevirtual 102, 3) := by decide +kernel
theorem d_law_640 : decode Y_law.2.1 640 = .ok (.if_icmp .eq 511, 3) := by decide +kernel
theorem d_law_643 : decode Y_law.2.1 643 = .ok (.iconst 0, 1) := by decide +kernel
theorem d_law_644 : decode Y_law.2.1 644 = .ok (.ireturn, 1) := by decide +kernel
theorem d_law_645 : decode Y_law.2.1 645 = .ok (.aload_n 1, 1) := by decide +kernel
theorem d_law_646 : decode Y_law.2.1 646 = .ok (.aload_n 0, 1) := by decide +kernel
theorem d_law_647 : decode Y_law.2.1 647 = .ok (.iload 4, 2) := by decide +kernel
theorem d_law_649 : decode Y_law.2.1 649 = .ok (.iconst 1, 1) := by decide +kernel
theorem d_law_650 : decode Y_law.2.1 650 = .ok (.iadd, 1) := by decide +kernel
theorem d_law_651 : decode Y_law.2.1 651 = .ok (.iaload, 1) := by decide +kernel
theorem d_law_652 : decode Y_law.2.1 652 = .ok (.ifCond .eq 7, 3) := by decide +kernel
theorem d_law_655 : decode Y_law.2.1 655 = .ok (.iconst 1, 1) := by decide +kernel
theorem d_law_656 : decode Y_law.2.1 656 = .ok (.goto 4, 3) := by decide +kernel
theorem d_law_659 : decode Y_law.2.1 659 = .ok (.iconst 0, 1) := by decide +kernel
theorem d_law_660 : decode Y_law.2.1 660 = .ok (.aload_n 3, 1) := by decide +kernel
theorem d_law_661 : decode Y_law.2.1 661 = .ok (.invokestatic 103, 3) := by decide +kernel
theorem d_law_664 : decode Y_law.2.1 664 = .ok (.istore 5, 2) := by decide +kernel
theorem d_law_666 : decode Y_law.2.1 666 = .ok (.aload_n 2, 1) := by decide +kernel
theorem d_law_667 : decode Y_law.2.1 667 = .ok (.aload_n 0, 1) := by decide +kernel
theorem d_law_668 : decode Y_law.2.1 668 = .ok (.iload 4, 2) := by decide +kernel
theorem d_law_670 : decode Y_law.2.1 670 = .ok (.iconst 1, 1) := by decide +kernel
theorem d_law_671 : decode Y_law.2.1 671 = .ok (.iadd, 1) := by decide +kernel
theorem d_law_672 : decode Y_law.2.1 672 = .ok (.iaload, 1) := by decide +kernel
theorem d_law_673 : decode Y_law.2.1 673 = .ok (.ifCond .eq 7, 3) := by decide +kernel
theorem d_law_676 : decode Y_law.2.1 676 = .ok (.iconst 1, 1) := by decide +kernel
theorem d_law_677 : decode Y_law.2.1 677 = .ok (.goto 4, 3) := by decide +kernel
theorem d_law_680 : decode Y_law.2.1 680 = .ok (.iconst 0, 1) := by decide +kernel
theorem d_law_681 : decode Y_law.2.1 681 = .ok (.invokevirtual 106, 3) := by decide +kernel
theorem d_law_684 : decode Y_law.2.1 684 = .ok (.istore 6, 2) := by decide +kernel
theorem d_law_686 : decode Y_law.2.1 686 = .ok (.aload_n 2, 1) := by decide +kernel
theorem d_law_687 : decode Y_law.2.1 687 = .ok (.invokevirtual 74, 3) := by decide +kernel
theorem d_law_690 : decode Y_law.2.1 690 = .ok (.iload 5, 2) := by decide +kernel
theorem d_law_692 : decode Y_law.2.1 692 = .ok (.if_icmp .eq 5, 3) := by decide +kernel
theorem d_law_695 : decode Y_law.2.1 695 = .ok (.iconst 0, 1) := by decide +kernel
theorem d_law_696 : decode Y_law.2.1 696 = .ok (.ireturn, 1) := by decide +kernel
theorem d_law_697 : decode Y_law.2.1 697 = .ok (.iload 5, 2) := by decide +kernel
theorem d_law_699 : decode Y_law.2.1 699 = .ok (.ifCond .ne 15, 3) := by decide +kernel
theorem d_law_702 : decode Y_law.2.1 702 = .ok (.aload_n 3, 1) := by decide +kernel
theorem d_law_703 : decode Y_law.2.1 703 = .ok (.iconst 0, 1) := by decide +kernel
theorem d_law_704 : decode Y_law.2.1 704 = .ok (.laload, 1) := by decide +kernel
theorem d_law_705 : decode Y_law.2.1 705 = .ok (.iload 6, 2) := by decide +kernel
theorem d_law_707 : decode Y_law.2.1 707 = .ok (.i2l, 1) := by decide +kernel
theorem d_law_708 : decode Y_law.2.1 708 = .ok (.lcmp, 1) := by decide +kernel
theorem d_law_709 : decode Y_law.2.1 709 = .ok (.ifCond .eq 5, 3) := by decide +kernel
theorem d_law_712 : decode Y_law.2.1 712 = .ok (.iconst 0, 1) := by decide +kernel
theorem d_law_713 : decode Y_law.2.1 713 = .ok (.ireturn, 1) := by decide +kernel
theorem d_law_714 : decode Y_law.2.1 714 = .ok (.goto 437, 3) := by decide +kernel
theorem d_law_717 : decode Y_law.2.1 717 = .ok (.aload_n 1, 1) := by decide +kernel
theorem d_law_718 : decode Y_law.2.1 718 = .ok (.aload_n 3, 1) := by decide +kernel
theorem d_law_719 : decode Y_law.2.1 719 = .ok (.invokestatic 107, 3) := by decide +kernel
theorem d_law_722 : decode Y_law.2.1 722 = .ok (.istore 5, 2) := by decide +kernel
theorem d_law_724 : decode Y_law.2.1 724 = .ok (.aload_n 2, 1) := by decide +kernel
theorem d_law_725 : decode Y_law.2.1 725 = .ok (.invokevirtual 109, 3) := by decide +kernel
theorem d_law_728 : decode Y_law.2.1 728 = .ok (.istore 6, 2) := by decide +kernel
theorem d_law_730 : decode Y_law.2.1 730 = .ok (.aload_n 2, 1) := by decide +kernel
theorem d_law_731 : decode Y_law.2.1 731 = .ok (.invokevirtual 74, 3) := by decide +kernel
theorem d_law_734 : decode Y_law.2.1 734 = .ok (.iload 5, 2) := by decide +kernel
theorem d_law_736 : decode Y_law.2.1 736 = .ok (.if_icmp .eq 5, 3) := by decide +kernel
theorem d_law_739 : decode Y_law.2.1 739 = .ok (.iconst 0, 1) := by decide +kernel
theorem d_law_740 : decode Y_law.2.1 740 = .ok (.ireturn, 1) := by decide +kernel
theorem d_law_741 : decode Y_law.2.1 741 = .ok (.iload 5, 2) := by decide +kernel
theorem d_law_743 : decode Y_law.2.1 743 = .ok (.ifCond .ne 15, 3) := by decide +kernel
theorem d_law_746 : decode Y_law.2.1 746 = .ok (.aload_n 3, 1) := by decide +kernel
theorem d_law_747 : decode Y_law.2.1 747 = .ok (.iconst 0, 1) := by decide +kernel
theorem d_law_748 : decode Y_law.2.1 748 = .ok (.laload, 1) := by decide +kernel
theorem d_law_749 : decode Y_law.2.1 749 = .ok (.iload 6, 2) := by decide +kernel
theorem d_law_751 : decode Y_law.2.1 751 = .ok (.i2l, 1) := by decide +kernel
theorem d_law_752 : decode Y_law.2.1 752 = .ok (.lcmp, 1) := by decide +kernel
theorem d_law_753 : decode Y_law.2.1 753 = .ok (.ifCond .eq 5, 3) := by decide +kernel
theorem d_law_756 : decode Y_law.2.1 756 = .ok (.iconst 0, 1) := by decide +kernel
theorem d_law_757 : decode Y_law.2.1 757 = .ok (.ireturn, 1) := by decide +kernel
theorem d_law_758 : decode Y_law.2.1 758 = .ok (.goto 393, 3) := by decide +kernel
theorem d_law_761 : decode Y_law.2.1 761 = .ok (.aload_n 1, 1) := by decide +kernel
theorem d_law_762 : decode Y_law.2.1 762 = .ok (.aload_n 0, 1) := by decide +kernel
theorem d_law_763 : decode Y_law.2.1 763 = .ok (.iload 4, 2) := by decide +kernel
theorem d_law_765 : decode Y_law.2.1 765 = .ok (.iconst 1, 1) := by decide +kernel
theorem d_law_766 : decode Y_law.2.1 766 = .ok (.iadd, 1) := by decide +kernel
theorem d_law_767 : decode Y_law.2.1 767 = .ok (.iaload, 1) := by decide +kernel
theorem d_law_768 : decode Y_law.2.1 768 = .ok (.aload_n 3, 1) := by decide +kernel
theorem d_law_769 : decode Y_law.2.1 769 = .ok (.invokestatic 110, 3) := by decide +kernel
theorem d_law_772 : decode Y_law.2.1 772 = .ok (.istore 5, 2) := by decide +kernel
theorem d_law_774 : decode Y_law.2.1 774 = .ok (.aload_n 2, 1) := by decide +kernel
theorem d_law_775 : decode Y_law.2.1 775 = .ok (.aload_n 0, 1) := by decide +kernel
theorem d_law_776 : decode Y_law.2.1 776 = .ok (.iload 4, 2) := by decide +kernel
theorem d_law_778 : decode Y_law.2.1 778 = .ok (.iconst 1, 1) := by decide +kernel
theorem d_law_779 : decode Y_law.2.1 779 = .ok (.iadd, 1) := by decide +kernel
theorem d_law_780 : decode Y_law.2.1 780 = .ok (.iaload, 1) := by decide +kernel
theorem d_law_781 : decode Y_law.2.1 781 = .ok (.invokevirtual 112, 3) := by decide +kernel
theorem d_law_784 : decode Y_law.2.1 784 = .ok (.istore 6, 2) := by decide +kernel
theorem d_law_786 : decode Y_law.2.1 786 = .ok (.aload_n 2, 1) := by decide +kernel
theorem d_law_787 : decode Y_law.2.1 787 = .ok (.invokevirtual 74, 3) := by decide +kernel
theorem d_law_790 : decode Y_law.2.1 790 = .ok (.iload 5, 2) := by decide +kernel
theorem d_law_792 : decode Y_law.2.1 792 = .ok (.if_icmp .eq 5, 3) := by decide +kernel
theorem d_law_795 : decode Y_law.2.1 795 = .ok (.iconst 0, 1) := by decide +kernel
theorem d_law_796 : decode Y_law.2.1 796 = .ok (.ireturn, 1) := by decide +kernel
theorem d_law_797 : decode Y_law.2.1 797 = .ok (.iload 5, 2) := by decide +kernel
theorem d_law_799 : decode Y_law.2.1 799 = .ok (.ifCond .ne 15, 3) := by decide +kernel
theorem d_law_802 : decode Y_law.2.1 802 = .ok (.aload_n 3, 1) := by decide +kernel
theorem d_law_803 : decode Y_law.2.1 803 = .ok (.iconst 0, 1) := by decide +kernel
theorem d_law_804 : decode Y_law.2.1 804 = .ok (.laload, 1) := by decide +kernel
theorem d_law_805 : decode Y_law.2.1 805 = .ok (.iload 6, 2) := by decide +kernel
theorem d_law_807 : decode Y_law.2.1 807 = .ok (.i2l, 1) := by decide +kernel
theorem d_law_808 : decode Y_law.2.1 808 = .ok (.lcmp, 1) := by decide +kernel
theorem d_law_809 : decode Y_law.2.1 809 = .ok (.ifCond .eq 5, 3) := by decide +kernel
theorem d_law_812 : decode Y_law.2.1 812 = .ok (.iconst 0, 1) := by decide +kernel
theorem d_law_813 : decode Y_law.2.1 813 = .ok (.ireturn, 1) := by decide +kernel
theorem d_law_814 : decode Y_law.2.1 814 = .ok (.goto 337, 3) := by decide +kernel
theorem d_law_817 : decode Y_law.2.1 817 = .ok (.aload_n 1, 1) := by decide +kernel
theorem d_law_818 : decode Y_law.2.1 818 = .ok (.aload_n 0, 1) := by decide +kernel
theorem d_law_819 : decode Y_law.2.1 819 = .ok (.iload 4, 2) := by decide +kernel
theorem d_law_821 : decode Y_law.2.1 821 = .ok (.iconst 1, 1) := by decide +kernel
theorem d_law_822 : decode Y_law.2.1 822 = .ok (.iadd, 1) := by decide +kernel
theorem d_law_823 : decode Y_law.2.1 823 = .ok (.iaload, 1) := by decide +kernel
theorem d_law_824 : decode Y_law.2.1 824 = .ok (.invokevirtual 113, 3) := by decide +kernel
theorem d_law_827 : decode Y_law.2.1 827 = .ok (.aload_n 2, 1) := by decide +kernel
theorem d_law_828 : decode Y_law.2.1 828 = .ok (.aload_n 0, 1) := by decide +kernel
theorem d_law_829 : decode Y_law.2.1 829 = .ok (.iload 4, 2) := by decide +kernel
theorem d_law_831 : decode Y_law.2.1 831 = .ok (.iconst 1, 1) := by decide +kernel
theorem d_law_832 : decode Y_law.2.1 832 = .ok (.iadd, 1) := by decide +kernel
theorem d_law_833 : decode Y_law.2.1 833 = .ok (.iaload, 1) := by decide +kernel
theorem d_law_834 : decode Y_law.2.1 834 = .ok (.invokevirtual 116, 3) := by decide +kernel
theorem d_law_837 : decode Y_law.2.1 837 = .ok (.if_icmp .eq 314, 3) := by decide +kernel
theorem d_law_840 : decode Y_law.2.1 840 = .ok (.iconst 0, 1) := by decide +kernel
theorem d_law_841 : decode Y_law.2.1 841 = .ok (.ireturn, 1) := by decide +kernel
theorem d_law_842 : decode Y_law.2.1 842 = .ok (.aload_n 1, 1) := by decide +kernel
theorem d_law_843 : decode Y_law.2.1 843 = .ok (.aload_n 0, 1) := by decide +kernel
theorem d_law_844 : decode Y_law.2.1 844 = .ok (.iload 4, 2) := by decide +kernel
theorem d_law_846 : decode Y_law.2.1 846 = .ok (.iconst 1, 1) := by decide +kernel
theorem d_law_847 : decode Y_law.2.1 847 = .ok (.iadd, 1) := by decide +kernel
theorem d_law_848 : decode Y_law.2.1 848 = .ok (.iaload, 1) := by decide +kernel
theorem d_law_849 : decode Y_law.2.1 849 = .ok (.aload_n 3, 1) := by decide +kernel
theorem d_law_850 : decode Y_law.2.1 850 = .ok (.invokestatic 117, 3) := by decide +kernel
theorem d_law_853 : decode Y_law.2.1 853 = .ok (.istore 5, 2) := by decide +kernel
theorem d_law_855 : decode Y_law.2.1 855 = .ok (.aload_n 2, 1) := by decide +kernel
theorem d_law_856 : decode Y_law.2.1 856 = .ok (.aload_n 0, 1) := by decide +kernel
theorem d_law_857 : decode Y_law.2.1 857 = .ok (.iload 4, 2) := by decide +kernel
theorem d_law_859 : decode Y_law.2.1 859 = .ok (.iconst 1, 1) := by decide +kernel
theorem d_law_860 : decode Y_law.2.1 860 = .ok (.iadd, 1) := by decide +kernel
theorem d_law_861 : decode Y_law.2.1 861 = .ok (.iaload, 1) := by decide +kernel
theorem d_law_862 : decode Y_law.2.1 862 = .ok (.invokevirtual 119, 3) := by decide +kernel
theorem d_law_865 : decode Y_law.2.1 865 = .ok (.istore 6, 2) := by decide +kernel
theorem d_law_867 : decode Y_law.2.1 867 = .ok (.aload_n 2, 1) := by decide +kernel
theorem d_law_868 : decode Y_law.2.1 868 = .ok (.invokevirtual 74, 3) := by decide +kernel
theorem d_law_871 : decode Y_law.2.1 871 = .ok (.iload 5, 2) := by decide +kernel
theorem d_law_873 : decode Y_law.2.1 873 = .ok (.if_icmp .eq 5, 3) := by decide +kernel
theorem d_law_876 : decode Y_law.2.1 876 = .ok (.iconst 0, 1) := by decide +kernel
theorem d_law_877 : decode Y_law.2.1 877 = .ok (.ireturn, 1) := by decide +kernel
theorem d_law_878 : decode Y_law.2.1 878 = .ok (.iload 5, 2) := by decide +kernel
theorem d_law_880 : decode Y_law.2.1 880 = .ok (.ifCond .ne 15, 3) := by decide +kernel
theorem d_law_883 : decode Y_law.2.1 883 = .ok (.aload_n 3, 1) := by decide +kernel
theorem d_law_884 : decode Y_law.2.1 884 = .ok (.iconst 0, 1) := by decide +kernel
theorem d_law_885 : decode Y_law.2.1 885 = .ok (.laload, 1) := by decide +kernel
theorem d_law_886 : decode Y_law.2.1 886 = .ok (.iload 6, 2) := by decide +kernel
theorem d_law_888 : decode Y_law.2.1 888 = .ok (.i2l, 1) := by decide +kernel
theorem d_law_889 : decode Y_law.2.1 889 = .ok (.lcmp, 1) := by decide +kernel
theorem d_law_890 : decode Y_law.2.1 890 = .ok (.ifCond .eq 5, 3) := by decide +kernel
theorem d_law_893 : decode Y_law.2.1 893 = .ok (.iconst 0, 1) := by decide +kernel
theorem d_law_894 : decode Y_law.2.1 894 = .ok (.ireturn, 1) := by decide +kernel
theorem d_law_895 : decode Y_law.2.1 895 = .ok (.goto 256, 3) := by decide +kernel
theorem d_law_898 : decode Y_law.2.1 898 = .ok (.aload_n 1, 1) := by decide +kernel
theorem d_law_899 : decode Y_law.2.1 899 = .ok (.aload_n 0, 1) := by decide +kernel
theorem d_law_900 : decode Y_law.2.1 900 = .ok (.iload 4, 2) := by decide +kernel
theorem d_law_902 : decode Y_law.2.1 902 = .ok (.iconst 1, 1) := by decide +kernel
theorem d_law_903 : decode Y_law.2.1 903 = .ok (.iadd, 1) := by decide +kernel
theorem d_law_904 : decode Y_law.2.1 904 = .ok (.iaload, 1) := by decide +kernel
theorem d_law_905 : decode Y_law.2.1 905 = .ok (.aload_n 0, 1) := by decide +kernel
theorem d_law_906 : decode Y_law.2.1 906 = .ok (.iload 4, 2) := by decide +kernel
theorem d_law_908 : decode Y_law.2.1 908 = .ok (.iconst 2, 1) := by decide +kernel
theorem d_law_909 : decode Y_law.2.1 909 = .ok (.iadd, 1) := by decide +kernel
theorem d_law_910 : decode Y_law.2.1 910 = .ok (.iaload, 1) := by decide +kernel
theorem d_law_911 : decode Y_law.2.1 911 = .ok (.aload_n 3, 1) := by decide +kernel
theorem d_law_912 : decode Y_law.2.1 912 = .ok (.invokestatic 120, 3) := by decide +kernel
theorem d_law_915 : decode Y_law.2.1 915 = .ok (.istore 5, 2) := by decide +kernel
theorem d_law_917 : decode Y_law.2.1 917 = .ok (.aload_n 2, 1) := by decide +kernel
theorem d_law_918 : decode Y_law.2.1 918 = .ok (.aload_n 0, 1) := by decide +kernel
theorem d_law_919 : decode Y_law.2.1 919 = .ok (.iload 4, 2) := by decide +kernel
theorem d_law_921 : decode Y_law.2.1 921 = .ok (.iconst 1, 1) := by decide +kernel
theorem d_law_922 : decode Y_law.2.1 922 = .ok (.iadd, 1) := by decide +kernel
theorem d_law_923 : decode Y_law.2.1 923 = .ok (.iaload, 1) := by decide +kernel
theorem d_law_924 : decode Y_law.2.1 924 = .ok (.aload_n 0, 1) := by decide +kernel
theorem d_law_925 : decode Y_law.2.1 925 = .ok (.iload 4, 2) := by decide +kernel
theorem d_law_927 : decode Y_law.2.1 927 = .ok (.iconst 2, 1) := by decide +kernel
theorem d_law_928 : decode Y_law.2.1 928 = .ok (.iadd, 1) := by decide +kernel
theorem d_law_929 : decode Y_law.2.1 929 = .ok (.iaload, 1) := by decide +kernel
theorem d_law_930 : decode Y_law.2.1 930 = .ok (.invokevirtual 123, 3) := by decide +kernel
theorem d_law_933 : decode Y_law.2.1 933 = .ok (.istore 6, 2) := by decide +kernel
theorem d_law_935 : decode Y_law.2.1 935 = .ok (.aload_n 2, 1) := by decide +kernel
theorem d_law_936 : decode Y_law.2.1 936 = .ok (.invokevirtual 74, 3) := by decide +kernel
theorem d_law_939 : decode Y_law.2.1 939 = .ok (.iload 5, 2) := by decide +kernel
theorem d_law_941 : decode Y_law.2.1 941 = .ok (.if_icmp .eq 5, 3) := by decide +kernel
theorem d_law_944 : decode Y_law.2.1 944 = .ok (.iconst 0, 1) := by decide +kernel
theorem d_law_945 : decode Y_law.2.1 945 = .ok (.ireturn, 1) := by decide +kernel
theorem d_law_946 : decode Y_law.2.1 946 = .ok (.iload 5, 2) := by decide +kernel
theorem d_law_948 : decode Y_law.2.1 948 = .ok (.ifCond .ne 15, 3) := by decide +kernel
theorem d_law_951 : decode Y_law.2.1 951 = .ok (.aload_n 3, 1) := by decide +kernel
theorem d_law_952 : decode Y_law.2.1 952 = .ok (.iconst 0, 1) := by decide +kernel
theorem d_law_953 : decode Y_law.2.1 953 = .ok (.laload, 1) := by decide +kernel
theorem d_law_954 : decode Y_law.2.1 954 = .ok (.iload 6, 2) := by decide +kernel
theorem d_law_956 : decode Y_law.2.1 956 = .ok (.i2l, 1) := by decide +kernel
theorem d_law_957 : decode Y_law.2.1 957 = .ok (.lcmp, 1) := by decide +kernel
theorem d_law_958 : decode Y_law.2.1 958 = .ok (.ifCond .eq 5, 3) := by decide +kernel
theorem d_law_961 : decode Y_law.2.1 961 = .ok (.iconst 0, 1) := by decide +kernel
theorem d_law_962 : decode Y_law.2.1 962 = .ok (.ireturn, 1) := by decide +kernel
theorem d_law_963 : decode Y_law.2.1 963 = .ok (.goto 188, 3) := by decide +kernel
theorem d_law_966 : decode Y_law.2.1 966 = .ok (.aload_n 1, 1) := by decide +kernel
theorem d_law_967 : decode Y_law.2.1 967 = .ok (.aload_n 0, 1) := by decide +kernel
theorem d_law_968 : decode Y_law.2.1 968 = .ok (.iload 4, 2) := by decide +kernel
theorem d_law_970 : decode Y_law.2.1 970 = .ok (.iconst 1, 1) := by decide +kernel
theorem d_law_971 : decode Y_law.2.1 971 = .ok (.iadd, 1) := by decide +kernel
theorem d_law_972 : decode Y_law.2.1 972 = .ok (.iaload, 1) := by decide +kernel
theorem d_law_973 : decode Y_law.2.1 973 = .ok (.invokevirtual 124, 3) := by decide +kernel
theorem d_law_976 : decode Y_law.2.1 976 = .ok (.aload_n 2, 1) := by decide +kernel
theorem d_law_977 : decode Y_law.2.1 977 = .ok (.aload_n 0, 1) := by decide +kernel
theorem d_law_978 : decode Y_law.2.1 978 = .ok (.iload 4, 2) := by decide +kernel
theorem d_law_980 : decode Y_law.2.1 980 = .ok (.iconst 1, 1) := by decide +kernel
theorem d_law_981 : decode Y_law.2.1 981 = .ok (.iadd, 1) := by decide +kernel
theorem d_law_982 : decode Y_law.2.1 982 = .ok (.iaload, 1) := by decide +kernel
theorem d_law_983 : decode Y_law.2.1 983 = .ok (.invokevirtual 127, 3) := by decide +kernel
theorem d_law_986 : decode Y_law.2.1 986 = .ok (.if_icmp .eq 165, 3) := by decide +kernel
theorem d_law_989 : decode Y_law.2.1 989 = .ok (.iconst 0, 1) := by decide +kernel
theorem d_law_990 : decode Y_law.2.1 990 = .ok (.ireturn, 1) := by decide +kernel
theorem d_law_991 : decode Y_law.2.1 991 = .ok (.aload_n 1, 1) := by decide +kernel
theorem d_law_992 : decode Y_law.2.1 992 = .ok (.aload_n 0, 1) := by decide +kernel
theorem d_law_993 : decode Y_law.2.1 993 = .ok (.iload 4, 2) := by decide +kernel
theorem d_law_995 : decode Y_law.2.1 995 = .ok (.iconst 1, 1) := by decide +kernel
theorem d_law_996 : decode Y_law.2.1 996 = .ok (.iadd, 1) := by decide +kernel
theorem d_law_997 : decode Y_law.2.1 997 = .ok (.iaload, 1) := by decide +kernel
theorem d_law_998 : decode Y_law.2.1 998 = .ok (.invokevirtual 128, 3) := by decide +kernel
theorem d_law_1001 : decode Y_law.2.1 1001 = .ok (.aload_n 2, 1) := by decide +kernel
theorem d_law_1002 : decode Y_law.2.1 1002 = .ok (.aload_n 0, 1) := by decide +kernel
theorem d_law_1003 : decode Y_law.2.1 1003 = .ok (.iload 4, 2) := by decide +kernel
theorem d_law_1005 : decode Y_law.2.1 1005 = .ok (.iconst 1, 1) := by decide +kernel
theorem d_law_1006 : decode Y_law.2.1 1006 = .ok (.iadd, 1) := by decide +kernel
theorem d_law_1007 : decode Y_law.2.1 1007 = .ok (.iaload, 1) := by decide +kernel
theorem d_law_1008 : decode Y_law.2.1 1008 = .ok (.invokevirtual 131, 3) := by decide +kernel
theorem d_law_1011 : decode Y_law.2.1 1011 = .ok (.if_icmp .eq 140, 3) := by decide +kernel
theorem d_law_1014 : decode Y_law.2.1 1014 = .ok (.iconst 0, 1) := by decide +kernel
theorem d_law_1015 : decode Y_law.2.1 1015 = .ok (.ireturn, 1) := by decide +kernel
theorem d_law_1016 : decode Y_law.2.1 1016 = .ok (.aload_n 1, 1) := by decide +kernel
theorem d_law_1017 : decode Y_law.2.1 1017 = .ok (.aload_n 0, 1) := by decide +kernel
theorem d_law_1018 : decode Y_law.2.1 1018 = .ok (.iload 4, 2) := by decide +kernel
theorem d_law_1020 : decode Y_law.2.1 1020 = .ok (.iconst 1, 1) := by decide +kernel
theorem d_law_1021 : decode Y_law.2.1 1021 = .ok (.iadd, 1) := by decide +kernel
theorem d_law_1022 : decode Y_law.2.1 1022 = .ok (.iaload, 1) := by decide +kernel
theorem d_law_1023 : decode Y_law.2.1 1023 = .ok (.aload_n 0, 1) := by decide +kernel
theorem d_law_1024 : decode Y_law.2.1 1024 = .ok (.iload 4, 2) := by decide +kernel
theorem d_law_1026 : decode Y_law.2.1 1026 = .ok (.iconst 2, 1) := by decide +kernel
theorem d_law_1027 : decode Y_law.2.1 1027 = .ok (.iadd, 1) := by decide +kernel
theorem d_law_1028 : decode Y_law.2.1 1028 = .ok (.iaload, 1) := by decide +kernel
theorem d_law_1029 : decode Y_law.2.1 1029 = .ok (.aload_n 3, 1) := by decide +kernel
theorem d_law_1030 : decode Y_law.2.1 1030 = .ok (.invokestatic 132, 3) := by decide +kernel
theorem d_law_1033 : decode Y_law.2.1 1033 = .ok (.istore 5, 2) := by decide +kernel
theorem d_law_1035 : decode Y_law.2.1 1035 = .ok (.aload_n 2, 1) := by decide +kernel
theorem d_law_1036 : decode Y_law.2.1 1036 = .ok (.aload_n 0, 1) := by decide +kernel
theorem d_law_1037 : decode Y_law.2.1 1037 = .ok (.iload 4, 2) := by decide +kernel
theorem d_law_1039 : decode Y_law.2.1 1039 = .ok (.iconst 1, 1) := by decide +kernel
theorem d_law_1040 : decode Y_law.2.1 1040 = .ok (.iadd, 1) := by decide +kernel
theorem d_law_1041 : decode Y_law.2.1 1041 = .ok (.iaload, 1) := by decide +kernel
theorem d_law_1042 : decode Y_law.2.1 1042 = .ok (.aload_n 0, 1) := by decide +kernel
theorem d_law_1043 : decode Y_law.2.1 1043 = .ok (.iload 4, 2) := by decide +kernel
theorem d_law_1045 : decode Y_law.2.1 1045 = .ok (.iconst 2, 1) := by decide +kernel
theorem d_law_1046 : decode Y_law.2.1 1046 = .ok (.iadd, 1) := by decide +kernel
theorem d_law_1047 : decode Y_law.2.1 1047 = .ok (.iaload, 1) := by decide +kernel
theorem d_law_1048 : decode Y_law.2.1 1048 = .ok (.invokevirtual 134, 3) := by decide +kernel
theorem d_law_1051 : decode Y_law.2.1 1051 = .ok (.istore 6, 2) := by decide +kernel
theorem d_law_1053 : decode Y_law.2.1 1053 = .ok (.aload_n 2, 1) := by decide +kernel
theorem d_law_1054 : decode Y_law.2.1 1054 = .ok (.invokevirtual 74, 3) := by decide +kernel
theorem d_law_1057 : decode Y_law.2.1 1057 = .ok (.iload 5, 2) := by decide +kernel
theorem d_law_1059 : decode Y_law.2.1 1059 = .ok (.if_icmp .eq 5, 3) := by decide +kernel
theorem d_law_1062 : decode Y_law.2.1 1062 = .ok (.iconst 0, 1) := by decide +kernel
theorem d_law_1063 : decode Y_law.2.1 1063 = .ok (.ireturn, 1) := by decide +kernel
theorem d_law_1064 : decode Y_law.2.1 1064 = .ok (.iload 5, 2) := by decide +kernel
theorem d_law_1066 : decode Y_law.2.1 1066 = .ok (.ifCond .ne 15, 3) := by decide +kernel
theorem d_law_1069 : decode Y_law.2.1 1069 = .ok (.aload_n 3, 1) := by decide +kernel
theorem d_law_1070 : decode Y_law.2.1 1070 = .ok (.iconst 0, 1) := by decide +kernel
theorem d_law_1071 : decode Y_law.2.1 1071 = .ok (.laload, 1) := by decide +kernel
theorem d_law_1072 : decode Y_law.2.1 1072 = .ok (.iload 6, 2) := by decide +kernel
theorem d_law_1074 : decode Y_law.2.1 1074 = .ok (.i2l, 1) := by decide +kernel
theorem d_law_1075 : decode Y_law.2.1 1075 = .ok (.lcmp, 1) := by decide +kernel
theorem d_law_1076 : decode Y_law.2.1 1076 = .ok (.ifCond .eq 5, 3) := by decide +kernel
theorem d_law_1079 : decode Y_law.2.1 1079 = .ok (.iconst 0, 1) := by decide +kernel
theorem d_law_1080 : decode Y_law.2.1 1080 = .ok (.ireturn, 1) := by decide +kernel
theorem d_law_1081 : decode Y_law.2.1 1081 = .ok (.goto 70, 3) := by decide +kernel
theorem d_law_1084 : decode Y_law.2.1 1084 = .ok (.aload_n 1, 1) := by decide +kernel
theorem d_law_1085 : decode Y_law.2.1 1085 = .ok (.aload_n 0, 1) := by decide +kernel
theorem d_law_1086 : decode Y_law.2.1 1086 = .ok (.iload 4, 2) := by decide +kernel
theorem d_law_1088 : decode Y_law.2.1 1088 = .ok (.iconst 1, 1) := by decide +kernel
theorem d_law_1089 : decode Y_law.2.1 1089 = .ok (.iadd, 1) := by decide +kernel
theorem d_law_1090 : decode Y_law.2.1 1090 = .ok (.iaload, 1) := by decide +kernel
theorem d_law_1091 : decode Y_law.2.1 1091 = .ok (.aload_n 3, 1) := by decide +kernel
theorem d_law_1092 : decode Y_law.2.1 1092 = .ok (.invokestatic 135, 3) := by decide +kernel
theorem d_law_1095 : decode Y_law.2.1 1095 = .ok (.istore 5, 2) := by decide +kernel
theorem d_law_1097 : decode Y_law.2.1 1097 = .ok (.aload_n 2, 1) := by decide +kernel
theorem d_law_1098 : decode Y_law.2.1 1098 = .ok (.aload_n 0, 1) := by decide +kernel
theorem d_law_1099 : decode Y_law.2.1 1099 = .ok (.iload 4, 2) := by decide +kernel
theorem d_law_1101 : decode Y_law.2.1 1101 = .ok (.iconst 1, 1) := by decide +kernel
theorem d_law_1102 : decode Y_law.2.1 1102 = .ok (.iadd, 1) := by decide +kernel
theorem d_law_1103 : decode Y_law.2.1 1103 = .ok (.iaload, 1) := by decide +kernel
theorem d_law_1104 : decode Y_law.2.1 1104 = .ok (.invokevirtual 137, 3) := by decide +kernel
theorem d_law_1107 : decode Y_law.2.1 1107 = .ok (.istore 6, 2) := by decide +kernel
theorem d_law_1109 : decode Y_law.2.1 1109 = .ok (.aload_n 2, 1) := by decide +kernel
theorem d_law_1110 : decode Y_law.2.1 1110 = .ok (.invokevirtual 74, 3) := by decide +kernel
theorem d_law_1113 : decode Y_law.2.1 1113 = .ok (.iload 5, 2) := by decide +kernel
theorem d_law_1115 : decode Y_law.2.1 1115 = .ok (.if_icmp .eq 5, 3) := by decide +kernel
theorem d_law_1118 : decode Y_law.2.1 1118 = .ok (.iconst 0, 1) := by decide +kernel
theorem d_law_1119 : decode Y_law.2.1 1119 = .ok (.ireturn, 1) := by decide +kernel
theorem d_law_1120 : decode Y_law.2.1 1120 = .ok (.iload 5, 2) := by decide +kernel
theorem d_law_1122 : decode Y_law.2.1 1122 = .ok (.ifCond .ne 15, 3) := by decide +kernel
theorem d_law_1125 : decode Y_law.2.1 1125 = .ok (.aload_n 3, 1) := by decide +kernel
theorem d_law_1126 : decode Y_law.2.1 1126 = .ok (.iconst 0, 1) := by decide +kernel
theorem d_law_1127 : decode Y_law.2.1 1127 = .ok (.laload, 1) := by decide +kernel
theorem d_law_1128 : decode Y_law.2.1 1128 = .ok (.iload 6, 2) := by decide +kernel
theorem d_law_1130 : decode Y_law.2.1 1130 = .ok (.i2l, 1) := by decide +kernel
theorem d_law_1131 : decode Y_law.2.1 1131 = .ok (.lcmp, 1) := by decide +kernel
theorem d_law_1132 : decode Y_law.2.1 1132 = .ok (.ifCond .eq 5, 3) := by decide +kernel
theorem d_law_1135 : decode Y_law.2.1 1135 = .ok (.iconst 0, 1) := by decide +kernel
theorem d_law_1136 : decode Y_law.2.1 1136 = .ok (.ireturn, 1) := by decide +kernel
theorem d_law_1137 : decode Y_law.2.1 1137 = .ok (.goto 14, 3) := by decide +kernel
theorem d_law_1140 : decode Y_law.2.1 1140 = .ok (.aload_n 1, 1) := by decide +kernel
theorem d_law_1141 : decode Y_law.2.1 1141 = .ok (.invokevirtual 138, 3) := by decide +kernel
theorem d_law_1144 : decode Y_law.2.1 1144 = .ok (.aload_n 2, 1) := by decide +kernel
theorem d_law_1145 : decode Y_law.2.1 1145 = .ok (.invokevirtual 141, 3) := by decide +kernel
theorem d_law_1148 : decode Y_law.2.1 1148 = .ok (.goto 3, 3) := by decide +kernel
theorem d_law_1151 : decode Y_law.2.1 1151 = .ok (.iinc 4 4, 3) := by decide +kernel
theorem d_law_1154 : decode Y_law.2.1 1154 = .ok (.goto (-1131), 3) := by decide +kernel
theorem d_law_1157 : decode Y_law.2.1 1157 = .ok (.iconst 1, 1) := by decide +kernel
theorem d_law_1158 : decode Y_law.2.1 1158 = .ok (.ireturn, 1) := by decide +kernel
section LW
variable {E : gE} {Y : gY} {d : Nat} {G0 G : gS} {Q : gO → gS → Prop} {pc : Nat} {lv : List (Nat × Value)} {rest : List Value} {b L : Nat} {xs : Nat → Int32}
/-- the script -/
def gScr (E : gE) (b L : Nat) (xs : Nat → Int32) : Prop := va_X b L xs E.1 E.1.heap ∧ b < E.1.heap.size
theorem gScr_at (h : gScr E b L xs) {s : State} (hE : gEnv gCl E s) : va_X b L xs s E.1.heap := by
  obtain ⟨⟨scr, h1, h2, h3, h4, h5⟩, -⟩ := h
  have K : ArrOfT E.1 scr.cls .int := fun n f => ⟨fun k hk => (by cases hk), h2.2⟩
  exact ⟨scr, h1, ⟨h2.1, (arrOfT_moved hE.2.alike K 0 (fun _ => .null)).2⟩, h3, h4, h5⟩
theorem g_sld (h : gScr E b L xs) {i : Int32} {j : Nat} (hi : i.toInt = (j : Int)) (hj : j < L) (hdg : decode Y.2.1 pc = .ok (.iaload, 1)) (kk : GT E Y d G0 (pc + 1) lv (.int (xs j) :: rest) G Q) : GT E Y d G0 pc lv (.int i :: .ref b :: rest) G Q := by
  intro p l e s m args below meth c X H locs ls hM hL h1 h2 hl
  have hE := X.2.2.2.2.1
  obtain ⟨e1, e2⟩ := g_ix hi hj
  have K := kk p l e s m args below meth c X H locs ls hM hL h1 h2 hl
  rw [← e2] at K
  exact va_sld (A := fun q => E.1.heap.size ≤ q) X.1 X.2.1 (gScr_at h hE) h.2 (Nat.not_le.mpr h.2) ⟨by rw [hM.1]; exact hM.2.1, fun q hq _ => hM.2.2.2.1 q hq, hL⟩ e1 hdg K
theorem g_slen (h : gScr E b L xs) (hdg : decode Y.2.1 pc = .ok (.arraylength, 1)) (kk : GT E Y d G0 (pc + 1) lv (.int (nI L) :: rest) G Q) : GT E Y d G0 pc lv (.ref b :: rest) G Q := by
  intro p l e s m args below meth c X H locs ls hM hL h1 h2 hl
  have hE := X.2.2.2.2.1
  exact va_slen (A := fun q => E.1.heap.size ≤ q) X.1 X.2.1 (gScr_at h hE) h.2 (Nat.not_le.mpr h.2) ⟨by rw [hM.1]; exact hM.2.1, fun q hq _ => hM.2.2.2.1 q hq, hL⟩ hdg (kk p l e s m args below meth c X H locs ls hM hL h1 h2 hl)
end LW
/-- what the law compares behind a call: the reference's code is c; the number kept is the reference's if there is one -/
def sE (E : gE) (D m w : Nat) (c v : Int32) (G : gS) : Prop := (∃ fs, G.1 m = some (.inr (13, fs))) ∧ GM E Y_Model_thrown D [.ref m] G (rIs (some (.int c)) G) ∧ ∃ fo : Nat → Int64, G.1 w = some (gAJ E 1 fo) ∧ (c = 0 → fo 0 = v.toInt64)
/-- a call that may throw, with an answer -/
def sA (E : gE) (D m w : Nat) (YL YM : gY) (aL aM : List Value) (G : gS) (J : gS → Prop) : Prop :=
  GM E YL D aL G (fun o G1 => ∃ c : Int32, o = .inl (some (.int c)) ∧ (∃ fs, G1.1 m = some (.inr (13, fs))) ∧ GM E YM D aM G1 (fun o G2 => ∃ v : Int32, o = .inl (some (.int v)) ∧ sE E D m w c v G2 ∧ J G2))
/-- a call that may throw, without an answer -/
def sT (E : gE) (D m : Nat) (YL YM : gY) (aL aM : List Value) (G : gS) (J : gS → Prop) : Prop :=
  GM E YL D aL G (fun o G1 => ∃ c : Int32, o = .inl (some (.int c)) ∧ (∃ fs, G1.1 m = some (.inr (13, fs))) ∧ GM E YM D aM G1 (fun o G2 => o = .inl none ∧ (∃ fs, G2.1 m = some (.inr (13, fs))) ∧ GM E Y_Model_thrown D [.ref m] G2 (rIs (some (.int c)) G2) ∧ J G2))
/-- a call that throws nothing, with an answer -/
def sD (E : gE) (D m : Nat) (YL YM : gY) (aL aM : List Value) (G : gS) (J : gS → Prop) : Prop :=
  GM E YL D aL G (fun o G1 => ∃ v : Int32, o = .inl (some (.int v)) ∧ (∃ fs, G1.1 m = some (.inr (13, fs))) ∧ GM E YM D aM G1 (fun o G2 => o = .inl (some (.int v)) ∧ J G2))
/-- clear -/
def sC (E : gE) (D m : Nat) (YL YM : gY) (aL aM : List Value) (G : gS) (J : gS → Prop) : Prop :=
  GM E YL D aL G (fun o G1 => o = .inl none ∧ (∃ fs, G1.1 m = some (.inr (13, fs))) ∧ GM E YM D aM G1 (fun o G2 => o = .inl none ∧ J G2))
def s_type (E : gE) (D a m w : Nat) (G : gS) (J : gS → Prop) : Prop := ∀ p0 p1 : Int32, sT E D m Y_Law_type Y_Model_type [.ref a, .int p0, .int p1] [.ref m, .int p0, .int p1] G J
def s_argument (E : gE) (D a m w : Nat) (G : gS) (J : gS → Prop) : Prop := ∀ p0 p1 p2 : Int32, sA E D m w Y_Law_argument Y_Model_argument [.ref a, .int p0, .int p1, .int p2, .ref w] [.ref m, .int p0, .int p1, .int p2] G J
def s_any (E : gE) (D a m w : Nat) (G : gS) (J : gS → Prop) : Prop := ∀ p0 : Int32, sA E D m w Y_Law_any Y_Model_any [.ref a, .int p0, .ref w] [.ref m, .int p0] G J
def s_number (E : gE) (D a m w : Nat) (G : gS) (J : gS → Prop) : Prop := ∀ p0 p1 p2 : Int32, p2 = 0 ∨ p2 = 1 → sA E D m w Y_Law_number Y_Model_number [.ref a, .int p0, .int p1, .int p2, .ref w] [.ref m, .int p0, .int p1, .int p2] G J
def s_make (E : gE) (D a m w : Nat) (G : gS) (J : gS → Prop) : Prop := ∀ p0 p1 p2 : Int32, p2 = 0 ∨ p2 = 1 → sA E D m w Y_Law_make Y_Model_make [.ref a, .int p0, .int p1, .int p2, .ref w] [.ref m, .int p0, .int p1, .int p2] G J
def s_either (E : gE) (D a m w : Nat) (G : gS) (J : gS → Prop) : Prop := sA E D m w Y_Law_either Y_Model_either [.ref a, .ref w] [.ref m] G J
def s_name (E : gE) (D a m w : Nat) (G : gS) (J : gS → Prop) : Prop := ∀ p0 : Int32, sA E D m w Y_Law_name Y_Model_name [.ref a, .int p0, .ref w] [.ref m, .int p0] G J
def s_addCase (E : gE) (D a m w : Nat) (G : gS) (J : gS → Prop) : Prop := ∀ p0 : Int32, p0 = 0 ∨ p0 = 1 → sA E D m w Y_Law_addCase Y_Model_addCase [.ref a, .int p0, .ref w] [.ref m, .int p0] G J
def s_build (E : gE) (D a m w : Nat) (G : gS) (J : gS → Prop) : Prop := sA E D m w Y_Law_build Y_Model_build [.ref a, .ref w] [.ref m] G J
def s_match (E : gE) (D a m w : Nat) (G : gS) (J : gS → Prop) : Prop := ∀ p0 : Int32, sA E D m w Y_Law_match Y_Model_match [.ref a, .int p0, .ref w] [.ref m, .int p0] G J
def s_bound (E : gE) (D a m w : Nat) (G : gS) (J : gS → Prop) : Prop := ∀ p0 : Int32, sA E D m w Y_Law_bound Y_Model_bound [.ref a, .int p0, .ref w] [.ref m, .int p0] G J
def s_boundAt (E : gE) (D a m w : Nat) (G : gS) (J : gS → Prop) : Prop := ∀ p0 p1 : Int32, sA E D m w Y_Law_boundAt Y_Model_boundAt [.ref a, .int p0, .int p1, .ref w] [.ref m, .int p0, .int p1] G J
def s_question (E : gE) (D a m w : Nat) (G : gS) (J : gS → Prop) : Prop := ∀ p0 p1 : Int32, sA E D m w Y_Law_question Y_Model_question [.ref a, .int p0, .int p1, .ref w] [.ref m, .int p0, .int p1] G J
def s_about (E : gE) (D a m w : Nat) (G : gS) (J : gS → Prop) : Prop := ∀ p0 : Int32, sA E D m w Y_Law_about Y_Model_about [.ref a, .int p0, .ref w] [.ref m, .int p0] G J
def s_pop (E : gE) (D a m w : Nat) (G : gS) (J : gS → Prop) : Prop := ∀ p0 : Int32, p0 = 0 ∨ p0 = 1 → sD E D m Y_Mill_pop Y_Model_pop [.ref a, .int p0] [.ref m, .int p0] G J
def s_asked (E : gE) (D a m w : Nat) (G : gS) (J : gS → Prop) : Prop := ∀ p0 : Int32, sD E D m Y_Mill_asked Y_Model_asked [.ref a, .int p0] [.ref m, .int p0] G J
def s_missing (E : gE) (D a m w : Nat) (G : gS) (J : gS → Prop) : Prop := ∀ p0 : Int32, sD E D m Y_Mill_missing Y_Model_missing [.ref a, .int p0] [.ref m, .int p0] G J
def s_unused (E : gE) (D a m w : Nat) (G : gS) (J : gS → Prop) : Prop := ∀ p0 : Int32, sD E D m Y_Mill_unused Y_Model_unused [.ref a, .int p0] [.ref m, .int p0] G J
def s_clear (E : gE) (D a m w : Nat) (G : gS) (J : gS → Prop) : Prop := sC E D m Y_Mill_clear Y_Model_clear [.ref a] [.ref m] G J
/-- every call that the law can make from G: class and reference answer alike, and J holds behind it -/
def gStep (E : gE) (D a m w : Nat) (G : gS) (J : gS → Prop) : Prop := (∃ fs, G.1 a = some (.inr (12, fs))) ∧ s_type E D a m w G J ∧ s_argument E D a m w G J ∧ s_any E D a m w G J ∧ s_number E D a m w G J ∧ s_make E D a m w G J ∧ s_either E D a m w G J ∧ s_name E D a m w G J ∧ s_addCase E D a m w G J ∧ s_build E D a m w G J ∧ s_match E D a m w G J ∧ s_bound E D a m w G J ∧ s_boundAt E D a m w G J ∧ s_question E D a m w G J ∧ s_about E D a m w G J ∧ s_pop E D a m w G J ∧ s_asked E D a m w G J ∧ s_missing E D a m w G J ∧ s_unused E D a m w G J ∧ s_clear E D a m w G J
section LC
variable {E : gE} {D : Nat} {G0 G : gS} {J : gS → Prop} {b L : Nat} {xs : Nat → Int32} {a m w k : Nat}
abbrev lwQ : gO → gS → Prop := fun o _ => o = .inl (some (.int 1))
theorem lg_cmp_self (x : Int64) : lg_cmp x x = 0 := by
  unfold lg_cmp
  simp
set_option maxHeartbeats 400000 in
set_option maxRecDepth 100000 in
theorem law_type (hs : gScr E b L xs) (hk : 4 * k + 4 ≤ L) (hL : L ≤ 2048) (ha0 : ∃ fs, G.1 a = some (.inr (12, fs))) (hop : s_type E D a m w G J) (kk : ∀ G2, J G2 → GT E Y_law (D + 1) G0 1151 [(0, .ref b), (1, .ref a), (2, .ref m), (3, .ref w), (4, .int (nI (4 * k)))] [] G2 lwQ) : GT E Y_law (D + 1) G0 128 [(0, .ref b), (1, .ref a), (2, .ref m), (3, .ref w), (4, .int (nI (4 * k)))] [] G lwQ := by
  obtain ⟨fs, ha⟩ := ha0
  unfold s_type sT at hop
  have hi1 : (nI (4 * k) + 1).toInt = ((4 * k + 1 : Nat) : Int) := add_hi (nI_hi (by omega)) (by decide) (by omega)
  have hi2 : (nI (4 * k) + 2).toInt = ((4 * k + 2 : Nat) : Int) := add_hi (nI_hi (by omega)) (by decide) (by omega)
  have hi3 : (nI (4 * k) + 3).toInt = ((4 * k + 3 : Nat) : Int) := add_hi (nI_hi (by omega)) (by decide) (by omega)
  refine g_aload_n d_law_128 rfl ?_
  refine g_aload_n d_law_129 rfl ?_
  refine g_iload d_law_130 rfl ?_
  refine g_iconst (v := 1) d_law_132 (by decide) ?_
  refine g_iadd d_law_133 ?_
  refine g_sld hs hi1 (by omega) d_law_134 ?_
  refine g_aload_n d_law_135 rfl ?_
  refine g_iload d_law_136 rfl ?_
  refine g_iconst (v := 2) d_law_138 (by decide) ?_
  refine g_iadd d_law_139 ?_
  refine g_sld hs hi2 (by omega) d_law_140 ?_
  refine c_S (as := [.ref (a), .int (xs (4 * k + 1)), .int (xs (4 * k + 2))]) ks_Law_type ml_Law_68 (hop (xs (4 * k + 1)) (xs (4 * k + 2)) ) rfl (Nat.le_of_ble_eq_true rfl) rfl d_law_141 (fun v' G1 hq => ?_) (fun D' G1 hq => ?_)
  rotate_left
  · exact absurd hq.choose_spec.1 (by simp)
  obtain ⟨c, hv', ⟨fs1, hm1⟩, hM1⟩ := hq
  cases hv'
  show GT E Y_law (D + 1) G0 144 [(0, .ref (b)), (1, .ref (a)), (2, .ref (m)), (3, .ref (w)), (4, .int (nI (4 * k)))] [.int (c)] G1 lwQ
  refine g_istore d_law_144 (by decide) rfl ?_
  refine g_aload_n d_law_146 rfl ?_
  refine g_aload_n d_law_147 rfl ?_
  refine g_iload d_law_148 rfl ?_
  refine g_iconst (v := 1) d_law_150 (by decide) ?_
  refine g_iadd d_law_151 ?_
  refine g_sld hs hi1 (by omega) d_law_152 ?_
  refine g_aload_n d_law_153 rfl ?_
  refine g_iload d_law_154 rfl ?_
  refine g_iconst (v := 2) d_law_156 (by decide) ?_
  refine g_iadd d_law_157 ?_
  refine g_sld hs hi2 (by omega) d_law_158 ?_
  refine c_V (as := [.int (xs (4 * k + 1)), .int (xs (4 * k + 2))]) kv_Model_type ml_Law_73 rfl hm1 hM1 rfl (Nat.le_of_ble_eq_true rfl) rfl d_law_159 (fun v' G2 hq => ?_) (fun D' G2 hq => ?_)
  rotate_left
  · exact absurd hq.1 (by simp)
  obtain ⟨hv', ⟨fs2, hm2⟩, ht2, hJ⟩ := hq
  cases hv'
  show GT E Y_law (D + 1) G0 162 [(0, .ref (b)), (1, .ref (a)), (2, .ref (m)), (3, .ref (w)), (4, .int (nI (4 * k))), (5, .int (c))] [] G2 lwQ
  refine g_aload_n d_law_162 rfl ?_
  refine c_Vr (as := []) kv_Model_thrown ml_Law_74 rfl hm2 ht2 rfl (Nat.le_of_ble_eq_true rfl) rfl d_law_163 rfl ?_
  refine g_iload d_law_166 rfl ?_
  refine g_icmp_eq (tgt := 173) d_law_168 (by decide) (fun c_168 => ?_) (fun c_168 => absurd rfl c_168)
  refine g_goto (tgt := 1151) d_law_173 (by decide) ?_
  exact g_weak (lv := [(0, .ref (b)), (1, .ref (a)), (2, .ref (m)), (3, .ref (w)), (4, .int (nI (4 * k))), (5, .int (c))]) (by simp) (by simp) (kk _ hJ)
set_option maxHeartbeats 400000 in
set_option maxRecDepth 100000 in
theorem law_argument (hs : gScr E b L xs) (hk : 4 * k + 4 ≤ L) (hL : L ≤ 2048) (ha0 : ∃ fs, G.1 a = some (.inr (12, fs))) (hop : s_argument E D a m w G J) (kk : ∀ G2, J G2 → GT E Y_law (D + 1) G0 1151 [(0, .ref b), (1, .ref a), (2, .ref m), (3, .ref w), (4, .int (nI (4 * k)))] [] G2 lwQ) : GT E Y_law (D + 1) G0 176 [(0, .ref b), (1, .ref a), (2, .ref m), (3, .ref w), (4, .int (nI (4 * k)))] [] G lwQ := by
  obtain ⟨fs, ha⟩ := ha0
  unfold s_argument sA at hop
  have hi1 : (nI (4 * k) + 1).toInt = ((4 * k + 1 : Nat) : Int) := add_hi (nI_hi (by omega)) (by decide) (by omega)
  have hi2 : (nI (4 * k) + 2).toInt = ((4 * k + 2 : Nat) : Int) := add_hi (nI_hi (by omega)) (by decide) (by omega)
  have hi3 : (nI (4 * k) + 3).toInt = ((4 * k + 3 : Nat) : Int) := add_hi (nI_hi (by omega)) (by decide) (by omega)
  refine g_aload_n d_law_176 rfl ?_
  refine g_aload_n d_law_177 rfl ?_
  refine g_iload d_law_178 rfl ?_
  refine g_iconst (v := 1) d_law_180 (by decide) ?_
  refine g_iadd d_law_181 ?_
  refine g_sld hs hi1 (by omega) d_law_182 ?_
  refine g_aload_n d_law_183 rfl ?_
  refine g_iload d_law_184 rfl ?_
  refine g_iconst (v := 2) d_law_186 (by decide) ?_
  refine g_iadd d_law_187 ?_
  refine g_sld hs hi2 (by omega) d_law_188 ?_
  refine g_aload_n d_law_189 rfl ?_
  refine g_iload d_law_190 rfl ?_
  refine g_iconst (v := 3) d_law_192 (by decide) ?_
  refine g_iadd d_law_193 ?_
  refine g_sld hs hi3 (by omega) d_law_194 ?_
  refine g_aload_n d_law_195 rfl ?_
  refine c_S (as := [.ref (a), .int (xs (4 * k + 1)), .int (xs (4 * k + 2)), .int (xs (4 * k + 3)), .ref (w)]) ks_Law_argument ml_Law_77 (hop (xs (4 * k + 1)) (xs (4 * k + 2)) (xs (4 * k + 3)) ) rfl (Nat.le_of_ble_eq_true rfl) rfl d_law_196 (fun v' G1 hq => ?_) (fun D' G1 hq => ?_)
  rotate_left
  · exact absurd hq.choose_spec.1 (by simp)
  obtain ⟨c, hv', ⟨fs1, hm1⟩, hM1⟩ := hq
  cases hv'
  show GT E Y_law (D + 1) G0 199 [(0, .ref (b)), (1, .ref (a)), (2, .ref (m)), (3, .ref (w)), (4, .int (nI (4 * k)))] [.int (c)] G1 lwQ
  refine g_istore d_law_199 (by decide) rfl ?_
  refine g_aload_n d_law_201 rfl ?_
  refine g_aload_n d_law_202 rfl ?_
  refine g_iload d_law_203 rfl ?_
  refine g_iconst (v := 1) d_law_205 (by decide) ?_
  refine g_iadd d_law_206 ?_
  refine g_sld hs hi1 (by omega) d_law_207 ?_
  refine g_aload_n d_law_208 rfl ?_
  refine g_iload d_law_209 rfl ?_
  refine g_iconst (v := 2) d_law_211 (by decide) ?_
  refine g_iadd d_law_212 ?_
  refine g_sld hs hi2 (by omega) d_law_213 ?_
  refine g_aload_n d_law_214 rfl ?_
  refine g_iload d_law_215 rfl ?_
  refine g_iconst (v := 3) d_law_217 (by decide) ?_
  refine g_iadd d_law_218 ?_
  refine g_sld hs hi3 (by omega) d_law_219 ?_
  refine c_V (as := [.int (xs (4 * k + 1)), .int (xs (4 * k + 2)), .int (xs (4 * k + 3))]) kv_Model_argument ml_Law_80 rfl hm1 hM1 rfl (Nat.le_of_ble_eq_true rfl) rfl d_law_220 (fun v' G2 hq => ?_) (fun D' G2 hq => ?_)
  rotate_left
  · exact absurd hq.choose_spec.1 (by simp)
  obtain ⟨v, hv', ⟨⟨fs2, hm2⟩, ht2, fo, ho2, hf2⟩, hJ⟩ := hq
  cases hv'
  show GT E Y_law (D + 1) G0 223 [(0, .ref (b)), (1, .ref (a)), (2, .ref (m)), (3, .ref (w)), (4, .int (nI (4 * k))), (5, .int (c))] [.int (v)] G2 lwQ
  refine g_istore d_law_223 (by decide) rfl ?_
  refine g_aload_n d_law_225 rfl ?_
  refine c_Vr (as := []) kv_Model_thrown ml_Law_74 rfl hm2 ht2 rfl (Nat.le_of_ble_eq_true rfl) rfl d_law_226 rfl ?_
  refine g_iload d_law_229 rfl ?_
  refine g_icmp_eq (tgt := 236) d_law_231 (by decide) (fun c_231 => ?_) (fun c_231 => absurd rfl c_231)
  refine g_iload d_law_236 rfl ?_
  refine g_if_ne (tgt := 253) d_law_238 (by decide) (fun c_238 => ?_) (fun c_238 => ?_)
  · refine g_goto (tgt := 1151) d_law_253 (by decide) ?_
    exact g_weak (lv := [(0, .ref (b)), (1, .ref (a)), (2, .ref (m)), (3, .ref (w)), (4, .int (nI (4 * k))), (5, .int (c)), (6, .int (v))]) (by simp) (by simp) (kk _ hJ)
  · refine g_aload_n d_law_241 rfl ?_
    refine g_iconst (v := 0) d_law_242 (by decide) ?_
    refine g_lald (j := 0) ho2 (by decide) (by decide) d_law_243 ?_
    refine g_iload d_law_244 rfl ?_
    refine g_i2l d_law_246 rfl ?_
    refine g_lcmp d_law_247 ?_
    have hz : fo 0 = v.toInt64 := hf2 (by first | exact c_238 | exact Classical.byContradiction (fun h => c_238 h))
    refine g_if_eq (tgt := 253) d_law_248 (by decide) (fun c_248 => ?_) (fun c_248 => absurd (show lg_cmp (fo 0) (v.toInt64) = 0 by rw [hz, lg_cmp_self]) c_248)
    refine g_goto (tgt := 1151) d_law_253 (by decide) ?_
    exact g_weak (lv := [(0, .ref (b)), (1, .ref (a)), (2, .ref (m)), (3, .ref (w)), (4, .int (nI (4 * k))), (5, .int (c)), (6, .int (v))]) (by simp) (by simp) (kk _ hJ)
set_option maxHeartbeats 400000 in
set_option maxRecDepth 100000 in
theorem law_any (hs : gScr E b L xs) (hk : 4 * k + 4 ≤ L) (hL : L ≤ 2048) (ha0 : ∃ fs, G.1 a = some (.inr (12, fs))) (hop : s_any E D a m w G J) (kk : ∀ G2, J G2 → GT E Y_law (D + 1) G0 1151 [(0, .ref b), (1, .ref a), (2, .ref m), (3, .ref w), (4, .int (nI (4 * k)))] [] G2 lwQ) : GT E Y_law (D + 1) G0 256 [(0, .ref b), (1, .ref a), (2, .ref m), (3, .ref w), (4, .int (nI (4 * k)))] [] G lwQ := by
  obtain ⟨fs, ha⟩ := ha0
  unfold s_any sA at hop
  have hi1 : (nI (4 * k) + 1).toInt = ((4 * k + 1 : Nat) : Int) := add_hi (nI_hi (by omega)) (by decide) (by omega)
  have hi2 : (nI (4 * k) + 2).toInt = ((4 * k + 2 : Nat) : Int) := add_hi (nI_hi (by omega)) (by decide) (by omega)
  have hi3 : (nI (4 * k) + 3).toInt = ((4 * k + 3 : Nat) : Int) := add_hi (nI_hi (by omega)) (by decide) (by omega)
  refine g_aload_n d_law_256 rfl ?_
  refine g_aload_n d_law_257 rfl ?_
  refine g_iload d_law_258 rfl ?_
  refine g_iconst (v := 1) d_law_260 (by decide) ?_
  refine g_iadd d_law_261 ?_
  refine g_sld hs hi1 (by omega) d_law_262 ?_
  refine g_aload_n d_law_263 rfl ?_
  refine c_S (as := [.ref (a), .int (xs (4 * k + 1)), .ref (w)]) ks_Law_any ml_Law_81 (hop (xs (4 * k + 1)) ) rfl (Nat.le_of_ble_eq_true rfl) rfl d_law_264 (fun v' G1 hq => ?_) (fun D' G1 hq => ?_)
  rotate_left
  · exact absurd hq.choose_spec.1 (by simp)
  obtain ⟨c, hv', ⟨fs1, hm1⟩, hM1⟩ := hq
  cases hv'
  show GT E Y_law (D + 1) G0 267 [(0, .ref (b)), (1, .ref (a)), (2, .ref (m)), (3, .ref (w)), (4, .int (nI (4 * k)))] [.int (c)] G1 lwQ
  refine g_istore d_law_267 (by decide) rfl ?_
  refine g_aload_n d_law_269 rfl ?_
  refine g_aload_n d_law_270 rfl ?_
  refine g_iload d_law_271 rfl ?_
  refine g_iconst (v := 1) d_law_273 (by decide) ?_
  refine g_iadd d_law_274 ?_
  refine g_sld hs hi1 (by omega) d_law_275 ?_
  refine c_V (as := [.int (xs (4 * k + 1))]) kv_Model_any ml_Law_84 rfl hm1 hM1 rfl (Nat.le_of_ble_eq_true rfl) rfl d_law_276 (fun v' G2 hq => ?_) (fun D' G2 hq => ?_)
  rotate_left
  · exact absurd hq.choose_spec.1 (by simp)
  obtain ⟨v, hv', ⟨⟨fs2, hm2⟩, ht2, fo, ho2, hf2⟩, hJ⟩ := hq
  cases hv'
  show GT E Y_law (D + 1) G0 279 [(0, .ref (b)), (1, .ref (a)), (2, .ref (m)), (3, .ref (w)), (4, .int (nI (4 * k))), (5, .int (c))] [.int (v)] G2 lwQ
  refine g_istore d_law_279 (by decide) rfl ?_
  refine g_aload_n d_law_281 rfl ?_
  refine c_Vr (as := []) kv_Model_thrown ml_Law_74 rfl hm2 ht2 rfl (Nat.le_of_ble_eq_true rfl) rfl d_law_282 rfl ?_
  refine g_iload d_law_285 rfl ?_
  refine g_icmp_eq (tgt := 292) d_law_287 (by decide) (fun c_287 => ?_) (fun c_287 => absurd rfl c_287)
  refine g_iload d_law_292 rfl ?_
  refine g_if_ne (tgt := 309) d_law_294 (by decide) (fun c_294 => ?_) (fun c_294 => ?_)
  · refine g_goto (tgt := 1151) d_law_309 (by decide) ?_
    exact g_weak (lv := [(0, .ref (b)), (1, .ref (a)), (2, .ref (m)), (3, .ref (w)), (4, .int (nI (4 * k))), (5, .int (c)), (6, .int (v))]) (by simp) (by simp) (kk _ hJ)
  · refine g_aload_n d_law_297 rfl ?_
    refine g_iconst (v := 0) d_law_298 (by decide) ?_
    refine g_lald (j := 0) ho2 (by decide) (by decide) d_law_299 ?_
    refine g_iload d_law_300 rfl ?_
    refine g_i2l d_law_302 rfl ?_
    refine g_lcmp d_law_303 ?_
    have hz : fo 0 = v.toInt64 := hf2 (by first | exact c_294 | exact Classical.byContradiction (fun h => c_294 h))
    refine g_if_eq (tgt := 309) d_law_304 (by decide) (fun c_304 => ?_) (fun c_304 => absurd (show lg_cmp (fo 0) (v.toInt64) = 0 by rw [hz, lg_cmp_self]) c_304)
    refine g_goto (tgt := 1151) d_law_309 (by decide) ?_
    exact g_weak (lv := [(0, .ref (b)), (1, .ref (a)), (2, .ref (m)), (3, .ref (w)), (4, .int (nI (4 * k))), (5, .int (c)), (6, .int (v))]) (by simp) (by simp) (kk _ hJ)
set_option maxHeartbeats 400000 in
set_option maxRecDepth 100000 in
theorem law_number (hs : gScr E b L xs) (hk : 4 * k + 4 ≤ L) (hL : L ≤ 2048) (ha0 : ∃ fs, G.1 a = some (.inr (12, fs))) (hop : s_number E D a m w G J) (kk : ∀ G2, J G2 → GT E Y_law (D + 1) G0 1151 [(0, .ref b), (1, .ref a), (2, .ref m), (3, .ref w), (4, .int (nI (4 * k)))] [] G2 lwQ) : GT E Y_law (D + 1) G0 312 [(0, .ref b), (1, .ref a), (2, .ref m), (3, .ref w), (4, .int (nI (4 * k)))] [] G lwQ := by
  obtain ⟨fs, ha⟩ := ha0
  unfold s_number sA at hop
  have hi1 : (nI (4 * k) + 1).toInt = ((4 * k + 1 : Nat) : Int) := add_hi (nI_hi (by omega)) (by decide) (by omega)
  have hi2 : (nI (4 * k) + 2).toInt = ((4 * k + 2 : Nat) : Int) := add_hi (nI_hi (by omega)) (by decide) (by omega)
  have hi3 : (nI (4 * k) + 3).toInt = ((4 * k + 3 : Nat) : Int) := add_hi (nI_hi (by omega)) (by decide) (by omega)
  refine g_aload_n d_law_312 rfl ?_
  refine g_aload_n d_law_313 rfl ?_
  refine g_iload d_law_314 rfl ?_
  refine g_iconst (v := 1) d_law_316 (by decide) ?_
  refine g_iadd d_law_317 ?_
  refine g_sld hs hi1 (by omega) d_law_318 ?_
  refine g_aload_n d_law_319 rfl ?_
  refine g_iload d_law_320 rfl ?_
  refine g_iconst (v := 2) d_law_322 (by decide) ?_
  refine g_iadd d_law_323 ?_
  refine g_sld hs hi2 (by omega) d_law_324 ?_
  refine g_aload_n d_law_325 rfl ?_
  refine g_iload d_law_326 rfl ?_
  refine g_iconst (v := 3) d_law_328 (by decide) ?_
  refine g_iadd d_law_329 ?_
  refine g_sld hs hi3 (by omega) d_law_330 ?_
  refine g_if_eq (tgt := 338) d_law_331 (by decide) (fun c_331 => ?_) (fun c_331 => ?_)
  · refine g_iconst (v := 0) d_law_338 (by decide) ?_
    refine g_aload_n d_law_339 rfl ?_
    refine c_S (as := [.ref (a), .int (xs (4 * k + 1)), .int (xs (4 * k + 2)), .int (0), .ref (w)]) ks_Law_number ml_Law_85 (hop (xs (4 * k + 1)) (xs (4 * k + 2)) (0) (by first | exact Or.inl rfl | exact Or.inr rfl)) rfl (Nat.le_of_ble_eq_true rfl) rfl d_law_340 (fun v' G1 hq => ?_) (fun D' G1 hq => ?_)
    rotate_left
    · exact absurd hq.choose_spec.1 (by simp)
    obtain ⟨c, hv', ⟨fs1, hm1⟩, hM1⟩ := hq
    cases hv'
    show GT E Y_law (D + 1) G0 343 [(0, .ref (b)), (1, .ref (a)), (2, .ref (m)), (3, .ref (w)), (4, .int (nI (4 * k)))] [.int (c)] G1 lwQ
    refine g_istore d_law_343 (by decide) rfl ?_
    refine g_aload_n d_law_345 rfl ?_
    refine g_aload_n d_law_346 rfl ?_
    refine g_iload d_law_347 rfl ?_
    refine g_iconst (v := 1) d_law_349 (by decide) ?_
    refine g_iadd d_law_350 ?_
    refine g_sld hs hi1 (by omega) d_law_351 ?_
    refine g_aload_n d_law_352 rfl ?_
    refine g_iload d_law_353 rfl ?_
    refine g_iconst (v := 2) d_law_355 (by decide) ?_
    refine g_iadd d_law_356 ?_
    refine g_sld hs hi2 (by omega) d_law_357 ?_
    refine g_aload_n d_law_358 rfl ?_
    refine g_iload d_law_359 rfl ?_
    refine g_iconst (v := 3) d_law_361 (by decide) ?_
    refine g_iadd d_law_362 ?_
    refine g_sld hs hi3 (by omega) d_law_363 ?_
    refine g_if_eq (tgt := 371) d_law_364 (by decide) (fun c_364 => ?_) (fun c_364 => absurd c_331 c_364)
    refine g_iconst (v := 0) d_law_371 (by decide) ?_
    refine c_V (as := [.int (xs (4 * k + 1)), .int (xs (4 * k + 2)), .int (0)]) kv_Model_number ml_Law_88 rfl hm1 hM1 rfl (Nat.le_of_ble_eq_true rfl) rfl d_law_372 (fun v' G2 hq => ?_) (fun D' G2 hq => ?_)
    rotate_left
    · exact absurd hq.choose_spec.1 (by simp)
    obtain ⟨v, hv', ⟨⟨fs2, hm2⟩, ht2, fo, ho2, hf2⟩, hJ⟩ := hq
    cases hv'
    show GT E Y_law (D + 1) G0 375 [(0, .ref (b)), (1, .ref (a)), (2, .ref (m)), (3, .ref (w)), (4, .int (nI (4 * k))), (5, .int (c))] [.int (v)] G2 lwQ
    refine g_istore d_law_375 (by decide) rfl ?_
    refine g_aload_n d_law_377 rfl ?_
    refine c_Vr (as := []) kv_Model_thrown ml_Law_74 rfl hm2 ht2 rfl (Nat.le_of_ble_eq_true rfl) rfl d_law_378 rfl ?_
    refine g_iload d_law_381 rfl ?_
    refine g_icmp_eq (tgt := 388) d_law_383 (by decide) (fun c_383 => ?_) (fun c_383 => absurd rfl c_383)
    refine g_iload d_law_388 rfl ?_
    refine g_if_ne (tgt := 405) d_law_390 (by decide) (fun c_390 => ?_) (fun c_390 => ?_)
    · refine g_goto (tgt := 1151) d_law_405 (by decide) ?_
      exact g_weak (lv := [(0, .ref (b)), (1, .ref (a)), (2, .ref (m)), (3, .ref (w)), (4, .int (nI (4 * k))), (5, .int (c)), (6, .int (v))]) (by simp) (by simp) (kk _ hJ)
    · refine g_aload_n d_law_393 rfl ?_
      refine g_iconst (v := 0) d_law_394 (by decide) ?_
      refine g_lald (j := 0) ho2 (by decide) (by decide) d_law_395 ?_
      refine g_iload d_law_396 rfl ?_
      refine g_i2l d_law_398 rfl ?_
      refine g_lcmp d_law_399 ?_
      have hz : fo 0 = v.toInt64 := hf2 (by first | exact c_390 | exact Classical.byContradiction (fun h => c_390 h))
      refine g_if_eq (tgt := 405) d_law_400 (by decide) (fun c_400 => ?_) (fun c_400 => absurd (show lg_cmp (fo 0) (v.toInt64) = 0 by rw [hz, lg_cmp_self]) c_400)
      refine g_goto (tgt := 1151) d_law_405 (by decide) ?_
      exact g_weak (lv := [(0, .ref (b)), (1, .ref (a)), (2, .ref (m)), (3, .ref (w)), (4, .int (nI (4 * k))), (5, .int (c)), (6, .int (v))]) (by simp) (by simp) (kk _ hJ)
  · refine g_iconst (v := 1) d_law_334 (by decide) ?_
    refine g_goto (tgt := 339) d_law_335 (by decide) ?_
    refine g_aload_n d_law_339 rfl ?_
    refine c_S (as := [.ref (a), .int (xs (4 * k + 1)), .int (xs (4 * k + 2)), .int (1), .ref (w)]) ks_Law_number ml_Law_85 (hop (xs (4 * k + 1)) (xs (4 * k + 2)) (1) (by first | exact Or.inl rfl | exact Or.inr rfl)) rfl (Nat.le_of_ble_eq_true rfl) rfl d_law_340 (fun v' G1 hq => ?_) (fun D' G1 hq => ?_)
    rotate_left
    · exact absurd hq.choose_spec.1 (by simp)
    obtain ⟨c, hv', ⟨fs1, hm1⟩, hM1⟩ := hq
    cases hv'
    show GT E Y_law (D + 1) G0 343 [(0, .ref (b)), (1, .ref (a)), (2, .ref (m)), (3, .ref (w)), (4, .int (nI (4 * k)))] [.int (c)] G1 lwQ
    refine g_istore d_law_343 (by decide) rfl ?_
    refine g_aload_n d_law_345 rfl ?_
    refine g_aload_n d_law_346 rfl ?_
    refine g_iload d_law_347 rfl ?_
    refine g_iconst (v := 1) d_law_349 (by decide) ?_
    refine g_iadd d_law_350 ?_
    refine g_sld hs hi1 (by omega) d_law_351 ?_
    refine g_aload_n d_law_352 rfl ?_
    refine g_iload d_law_353 rfl ?_
    refine g_iconst (v := 2) d_law_355 (by decide) ?_
    refine g_iadd d_law_356 ?_
    refine g_sld hs hi2 (by omega) d_law_357 ?_
    refine g_aload_n d_law_358 rfl ?_
    refine g_iload d_law_359 rfl ?_
    refine g_iconst (v := 3) d_law_361 (by decide) ?_
    refine g_iadd d_law_362 ?_
    refine g_sld hs hi3 (by omega) d_law_363 ?_
    refine g_if_eq (tgt := 371) d_law_364 (by decide) (fun c_364 => absurd c_364 c_331) (fun c_364 => ?_)
    refine g_iconst (v := 1) d_law_367 (by decide) ?_
    refine g_goto (tgt := 372) d_law_368 (by decide) ?_
    refine c_V (as := [.int (xs (4 * k + 1)), .int (xs (4 * k + 2)), .int (1)]) kv_Model_number ml_Law_88 rfl hm1 hM1 rfl (Nat.le_of_ble_eq_true rfl) rfl d_law_372 (fun v' G2 hq => ?_) (fun D' G2 hq => ?_)
    rotate_left
    · exact absurd hq.choose_spec.1 (by simp)
    obtain ⟨v, hv', ⟨⟨fs2, hm2⟩, ht2, fo, ho2, hf2⟩, hJ⟩ := hq
    cases hv'
    show GT E Y_law (D + 1) G0 375 [(0, .ref (b)), (1, .ref (a)), (2, .ref (m)), (3, .ref (w)), (4, .int (nI (4 * k))), (5, .int (c))] [.int (v)] G2 lwQ
    refine g_istore d_law_375 (by decide) rfl ?_
    refine g_aload_n d_law_377 rfl ?_
    refine c_Vr (as := []) kv_Model_thrown ml_Law_74 rfl hm2 ht2 rfl (Nat.le_of_ble_eq_true rfl) rfl d_law_378 rfl ?_
    refine g_iload d_law_381 rfl ?_
    refine g_icmp_eq (tgt := 388) d_law_383 (by decide) (fun c_383 => ?_) (fun c_383 => absurd rfl c_383)
    refine g_iload d_law_388 rfl ?_
    refine g_if_ne (tgt := 405) d_law_390 (by decide) (fun c_390 => ?_) (fun c_390 => ?_)
    · refine g_goto (tgt := 1151) d_law_405 (by decide) ?_
      exact g_weak (lv := [(0, .ref (b)), (1, .ref (a)), (2, .ref (m)), (3, .ref (w)), (4, .int (nI (4 * k))), (5, .int (c)), (6, .int (v))]) (by simp) (by simp) (kk _ hJ)
    · refine g_aload_n d_law_393 rfl ?_
      refine g_iconst (v := 0) d_law_394 (by decide) ?_
      refine g_lald (j := 0) ho2 (by decide) (by decide) d_law_395 ?_
      refine g_iload d_law_396 rfl ?_
      refine g_i2l d_law_398 rfl ?_
      refine g_lcmp d_law_399 ?_
      have hz : fo 0 = v.toInt64 := hf2 (by first | exact c_390 | exact Classical.byContradiction (fun h => c_390 h))
      refine g_if_eq (tgt := 405) d_law_400 (by decide) (fun c_400 => ?_) (fun c_400 => absurd (show lg_cmp (fo 0) (v.toInt64) = 0 by rw [hz, lg_cmp_self]) c_400)
      refine g_goto (tgt := 1151) d_law_405 (by decide) ?_
      exact g_weak (lv := [(0, .ref (b)), (1, .ref (a)), (2, .ref (m)), (3, .ref (w)), (4, .int (nI (4 * k))), (5, .int (c)), (6, .int (v))]) (by simp) (by simp) (kk _ hJ)
set_option maxHeartbeats 400000 in
set_option maxRecDepth 100000 in
theorem law_make (hs : gScr E b L xs) (hk : 4 * k + 4 ≤ L) (hL : L ≤ 2048) (ha0 : ∃ fs, G.1 a = some (.inr (12, fs))) (hop : s_make E D a m w G J) (kk : ∀ G2, J G2 → GT E Y_law (D + 1) G0 1151 [(0, .ref b), (1, .ref a), (2, .ref m), (3, .ref w), (4, .int (nI (4 * k)))] [] G2 lwQ) : GT E Y_law (D + 1) G0 408 [(0, .ref b), (1, .ref a), (2, .ref m), (3, .ref w), (4, .int (nI (4 * k)))] [] G lwQ := by
  obtain ⟨fs, ha⟩ := ha0
  unfold s_make sA at hop
  have hi1 : (nI (4 * k) + 1).toInt = ((4 * k + 1 : Nat) : Int) := add_hi (nI_hi (by omega)) (by decide) (by omega)
  have hi2 : (nI (4 * k) + 2).toInt = ((4 * k + 2 : Nat) : Int) := add_hi (nI_hi (by omega)) (by decide) (by omega)
  have hi3 : (nI (4 * k) + 3).toInt = ((4 * k + 3 : Nat) : Int) := add_hi (nI_hi (by omega)) (by decide) (by omega)
  refine g_aload_n d_law_408 rfl ?_
  refine g_aload_n d_law_409 rfl ?_
  refine g_iload d_law_410 rfl ?_
  refine g_iconst (v := 1) d_law_412 (by decide) ?_
  refine g_iadd d_law_413 ?_
  refine g_sld hs hi1 (by omega) d_law_414 ?_
  refine g_aload_n d_law_415 rfl ?_
  refine g_iload d_law_416 rfl ?_
  refine g_iconst (v := 2) d_law_418 (by decide) ?_
  refine g_iadd d_law_419 ?_
  refine g_sld hs hi2 (by omega) d_law_420 ?_
  refine g_aload_n d_law_421 rfl ?_
  refine g_iload d_law_422 rfl ?_
  refine g_iconst (v := 3) d_law_424 (by decide) ?_
  refine g_iadd d_law_425 ?_
  refine g_sld hs hi3 (by omega) d_law_426 ?_
  refine g_if_eq (tgt := 434) d_law_427 (by decide) (fun c_427 => ?_) (fun c_427 => ?_)
  · refine g_iconst (v := 0) d_law_434 (by decide) ?_
    refine g_aload_n d_law_435 rfl ?_
    refine c_S (as := [.ref (a), .int (xs (4 * k + 1)), .int (xs (4 * k + 2)), .int (0), .ref (w)]) ks_Law_make ml_Law_89 (hop (xs (4 * k + 1)) (xs (4 * k + 2)) (0) (by first | exact Or.inl rfl | exact Or.inr rfl)) rfl (Nat.le_of_ble_eq_true rfl) rfl d_law_436 (fun v' G1 hq => ?_) (fun D' G1 hq => ?_)
    rotate_left
    · exact absurd hq.choose_spec.1 (by simp)
    obtain ⟨c, hv', ⟨fs1, hm1⟩, hM1⟩ := hq
    cases hv'
    show GT E Y_law (D + 1) G0 439 [(0, .ref (b)), (1, .ref (a)), (2, .ref (m)), (3, .ref (w)), (4, .int (nI (4 * k)))] [.int (c)] G1 lwQ
    refine g_istore d_law_439 (by decide) rfl ?_
    refine g_aload_n d_law_441 rfl ?_
    refine g_aload_n d_law_442 rfl ?_
    refine g_iload d_law_443 rfl ?_
    refine g_iconst (v := 1) d_law_445 (by decide) ?_
    refine g_iadd d_law_446 ?_
    refine g_sld hs hi1 (by omega) d_law_447 ?_
    refine g_aload_n d_law_448 rfl ?_
    refine g_iload d_law_449 rfl ?_
    refine g_iconst (v := 2) d_law_451 (by decide) ?_
    refine g_iadd d_law_452 ?_
    refine g_sld hs hi2 (by omega) d_law_453 ?_
    refine g_aload_n d_law_454 rfl ?_
    refine g_iload d_law_455 rfl ?_
    refine g_iconst (v := 3) d_law_457 (by decide) ?_
    refine g_iadd d_law_458 ?_
    refine g_sld hs hi3 (by omega) d_law_459 ?_
    refine g_if_eq (tgt := 467) d_law_460 (by decide) (fun c_460 => ?_) (fun c_460 => absurd c_427 c_460)
    refine g_iconst (v := 0) d_law_467 (by decide) ?_
    refine c_V (as := [.int (xs (4 * k + 1)), .int (xs (4 * k + 2)), .int (0)]) kv_Model_make ml_Law_91 rfl hm1 hM1 rfl (Nat.le_of_ble_eq_true rfl) rfl d_law_468 (fun v' G2 hq => ?_) (fun D' G2 hq => ?_)
    rotate_left
    · exact absurd hq.choose_spec.1 (by simp)
    obtain ⟨v, hv', ⟨⟨fs2, hm2⟩, ht2, fo, ho2, hf2⟩, hJ⟩ := hq
    cases hv'
    show GT E Y_law (D + 1) G0 471 [(0, .ref (b)), (1, .ref (a)), (2, .ref (m)), (3, .ref (w)), (4, .int (nI (4 * k))), (5, .int (c))] [.int (v)] G2 lwQ
    refine g_istore d_law_471 (by decide) rfl ?_
    refine g_aload_n d_law_473 rfl ?_
    refine c_Vr (as := []) kv_Model_thrown ml_Law_74 rfl hm2 ht2 rfl (Nat.le_of_ble_eq_true rfl) rfl d_law_474 rfl ?_
    refine g_iload d_law_477 rfl ?_
    refine g_icmp_eq (tgt := 484) d_law_479 (by decide) (fun c_479 => ?_) (fun c_479 => absurd rfl c_479)
    refine g_iload d_law_484 rfl ?_
    refine g_if_ne (tgt := 501) d_law_486 (by decide) (fun c_486 => ?_) (fun c_486 => ?_)
    · refine g_goto (tgt := 1151) d_law_501 (by decide) ?_
      exact g_weak (lv := [(0, .ref (b)), (1, .ref (a)), (2, .ref (m)), (3, .ref (w)), (4, .int (nI (4 * k))), (5, .int (c)), (6, .int (v))]) (by simp) (by simp) (kk _ hJ)
    · refine g_aload_n d_law_489 rfl ?_
      refine g_iconst (v := 0) d_law_490 (by decide) ?_
      refine g_lald (j := 0) ho2 (by decide) (by decide) d_law_491 ?_
      refine g_iload d_law_492 rfl ?_
      refine g_i2l d_law_494 rfl ?_
      refine g_lcmp d_law_495 ?_
      have hz : fo 0 = v.toInt64 := hf2 (by first | exact c_486 | exact Classical.byContradiction (fun h => c_486 h))
      refine g_if_eq (tgt := 501) d_law_496 (by decide) (fun c_496 => ?_) (fun c_496 => absurd (show lg_cmp (fo 0) (v.toInt64) = 0 by rw [hz, lg_cmp_self]) c_496)
      refine g_goto (tgt := 1151) d_law_501 (by decide) ?_
      exact g_weak (lv := [(0, .ref (b)), (1, .ref (a)), (2, .ref (m)), (3, .ref (w)), (4, .int (nI (4 * k))), (5, .int (c)), (6, .int (v))]) (by simp) (by simp) (kk _ hJ)
  · refine g_iconst (v := 1) d_law_430 (by decide) ?_
    refine g_goto (tgt := 435) d_law_431 (by decide) ?_
    refine g_aload_n d_law_435 rfl ?_
    refine c_S (as := [.ref (a), .int (xs (4 * k + 1)), .int (xs (4 * k + 2)), .int (1), .ref (w)]) ks_Law_make ml_Law_89 (hop (xs (4 * k + 1)) (xs (4 * k + 2)) (1) (by first | exact Or.inl rfl | exact Or.inr rfl)) rfl (Nat.le_of_ble_eq_true rfl) rfl d_law_436 (fun v' G1 hq => ?_) (fun D' G1 hq => ?_)
    rotate_left
    · exact absurd hq.choose_spec.1 (by simp)
    obtain ⟨c, hv', ⟨fs1, hm1⟩, hM1⟩ := hq
    cases hv'
    show GT E Y_law (D + 1) G0 439 [(0, .ref (b)), (1, .ref (a)), (2, .ref (m)), (3, .ref (w)), (4, .int (nI (4 * k)))] [.int (c)] G1 lwQ
    refine g_istore d_law_439 (by decide) rfl ?_
    refine g_aload_n d_law_441 rfl ?_
    refine g_aload_n d_law_442 rfl ?_
    refine g_iload d_law_443 rfl ?_
    refine g_iconst (v := 1) d_law_445 (by decide) ?_
    refine g_iadd d_law_446 ?_
    refine g_sld hs hi1 (by omega) d_law_447 ?_
    refine g_aload_n d_law_448 rfl ?_
    refine g_iload d_law_449 rfl ?_
    refine g_iconst (v := 2) d_law_451 (by decide) ?_
    refine g_iadd d_law_452 ?_
    refine g_sld hs hi2 (by omega) d_law_453 ?_
    refine g_aload_n d_law_454 rfl ?_
    refine g_iload d_law_455 rfl ?_
    refine g_iconst (v := 3) d_law_457 (by decide) ?_
    refine g_iadd d_law_458 ?_
    refine g_sld hs hi3 (by omega) d_law_459 ?_
    refine g_if_eq (tgt := 467) d_law_460 (by decide) (fun c_460 => absurd c_460 c_427) (fun c_460 => ?_)
    refine g_iconst (v := 1) d_law_463 (by decide) ?_
    refine g_goto (tgt := 468) d_law_464 (by decide) ?_
    refine c_V (as := [.int (xs (4 * k + 1)), .int (xs (4 * k + 2)), .int (1)]) kv_Model_make ml_Law_91 rfl hm1 hM1 rfl (Nat.le_of_ble_eq_true rfl) rfl d_law_468 (fun v' G2 hq => ?_) (fun D' G2 hq => ?_)
    rotate_left
    · exact absurd hq.choose_spec.1 (by simp)
    obtain ⟨v, hv', ⟨⟨fs2, hm2⟩, ht2, fo, ho2, hf2⟩, hJ⟩ := hq
    cases hv'
    show GT E Y_law (D + 1) G0 471 [(0, .ref (b)), (1, .ref (a)), (2, .ref (m)), (3, .ref (w)), (4, .int (nI (4 * k))), (5, .int (c))] [.int (v)] G2 lwQ
    refine g_istore d_law_471 (by decide) rfl ?_
    refine g_aload_n d_law_473 rfl ?_
    refine c_Vr (as := []) kv_Model_thrown ml_Law_74 rfl hm2 ht2 rfl (Nat.le_of_ble_eq_true rfl) rfl d_law_474 rfl ?_
    refine g_iload d_law_477 rfl ?_
    refine g_icmp_eq (tgt := 484) d_law_479 (by decide) (fun c_479 => ?_) (fun c_479 => absurd rfl c_479)
    refine g_iload d_law_484 rfl ?_
    refine g_if_ne (tgt := 501) d_law_486 (by decide) (fun c_486 => ?_) (fun c_486 => ?_)
    · refine g_goto (tgt := 1151) d_law_501 (by decide) ?_
      exact g_weak (lv := [(0, .ref (b)), (1, .ref (a)), (2, .ref (m)), (3, .ref (w)), (4, .int (nI (4 * k))), (5, .int (c)), (6, .int (v))]) (by simp) (by simp) (kk _ hJ)
    · refine g_aload_n d_law_489 rfl ?_
      refine g_iconst (v := 0) d_law_490 (by decide) ?_
      refine g_lald (j := 0) ho2 (by decide) (by decide) d_law_491 ?_
      refine g_iload d_law_492 rfl ?_
      refine g_i2l d_law_494 rfl ?_
      refine g_lcmp d_law_495 ?_
      have hz : fo 0 = v.toInt64 := hf2 (by first | exact c_486 | exact Classical.byContradiction (fun h => c_486 h))
      refine g_if_eq (tgt := 501) d_law_496 (by decide) (fun c_496 => ?_) (fun c_496 => absurd (show lg_cmp (fo 0) (v.toInt64) = 0 by rw [hz, lg_cmp_self]) c_496)
      refine g_goto (tgt := 1151) d_law_501 (by decide) ?_
      exact g_weak (lv := [(0, .ref (b)), (1, .ref (a)), (2, .ref (m)), (3, .ref (w)), (4, .int (nI (4 * k))), (5, .int (c)), (6, .int (v))]) (by simp) (by simp) (kk _ hJ)
set_option maxHeartbeats 400000 in
set_option maxRecDepth 100000 in
theorem law_either (hs : gScr E b L xs) (hk : 4 * k + 4 ≤ L) (hL : L ≤ 2048) (ha0 : ∃ fs, G.1 a = some (.inr (12, fs))) (hop : s_either E D a m w G J) (kk : ∀ G2, J G2 → GT E Y_law (D + 1) G0 1151 [(0, .ref b), (1, .ref a), (2, .ref m), (3, .ref w), (4, .int (nI (4 * k)))] [] G2 lwQ) : GT E Y_law (D + 1) G0 504 [(0, .ref b), (1, .ref a), (2, .ref m), (3, .ref w), (4, .int (nI (4 * k)))] [] G lwQ := by
  obtain ⟨fs, ha⟩ := ha0
  unfold s_either sA at hop
  refine g_aload_n d_law_504 rfl ?_
  refine g_aload_n d_law_505 rfl ?_
  refine c_S (as := [.ref (a), .ref (w)]) ks_Law_either ml_Law_92 hop rfl (Nat.le_of_ble_eq_true rfl) rfl d_law_506 (fun v' G1 hq => ?_) (fun D' G1 hq => ?_)
  rotate_left
  · exact absurd hq.choose_spec.1 (by simp)
  obtain ⟨c, hv', ⟨fs1, hm1⟩, hM1⟩ := hq
  cases hv'
  show GT E Y_law (D + 1) G0 509 [(0, .ref (b)), (1, .ref (a)), (2, .ref (m)), (3, .ref (w)), (4, .int (nI (4 * k)))] [.int (c)] G1 lwQ
  refine g_istore d_law_509 (by decide) rfl ?_
  refine g_aload_n d_law_511 rfl ?_
  refine c_V (as := []) kv_Model_either ml_Law_95 rfl hm1 hM1 rfl (Nat.le_of_ble_eq_true rfl) rfl d_law_512 (fun v' G2 hq => ?_) (fun D' G2 hq => ?_)
  rotate_left
  · exact absurd hq.choose_spec.1 (by simp)
  obtain ⟨v, hv', ⟨⟨fs2, hm2⟩, ht2, fo, ho2, hf2⟩, hJ⟩ := hq
  cases hv'
  show GT E Y_law (D + 1) G0 515 [(0, .ref (b)), (1, .ref (a)), (2, .ref (m)), (3, .ref (w)), (4, .int (nI (4 * k))), (5, .int (c))] [.int (v)] G2 lwQ
  refine g_istore d_law_515 (by decide) rfl ?_
  refine g_aload_n d_law_517 rfl ?_
  refine c_Vr (as := []) kv_Model_thrown ml_Law_74 rfl hm2 ht2 rfl (Nat.le_of_ble_eq_true rfl) rfl d_law_518 rfl ?_
  refine g_iload d_law_521 rfl ?_
  refine g_icmp_eq (tgt := 528) d_law_523 (by decide) (fun c_523 => ?_) (fun c_523 => absurd rfl c_523)
  refine g_iload d_law_528 rfl ?_
  refine g_if_ne (tgt := 545) d_law_530 (by decide) (fun c_530 => ?_) (fun c_530 => ?_)
  · refine g_goto (tgt := 1151) d_law_545 (by decide) ?_
    exact g_weak (lv := [(0, .ref (b)), (1, .ref (a)), (2, .ref (m)), (3, .ref (w)), (4, .int (nI (4 * k))), (5, .int (c)), (6, .int (v))]) (by simp) (by simp) (kk _ hJ)
  · refine g_aload_n d_law_533 rfl ?_
    refine g_iconst (v := 0) d_law_534 (by decide) ?_
    refine g_lald (j := 0) ho2 (by decide) (by decide) d_law_535 ?_
    refine g_iload d_law_536 rfl ?_
    refine g_i2l d_law_538 rfl ?_
    refine g_lcmp d_law_539 ?_
    have hz : fo 0 = v.toInt64 := hf2 (by first | exact c_530 | exact Classical.byContradiction (fun h => c_530 h))
    refine g_if_eq (tgt := 545) d_law_540 (by decide) (fun c_540 => ?_) (fun c_540 => absurd (show lg_cmp (fo 0) (v.toInt64) = 0 by rw [hz, lg_cmp_self]) c_540)
    refine g_goto (tgt := 1151) d_law_545 (by decide) ?_
    exact g_weak (lv := [(0, .ref (b)), (1, .ref (a)), (2, .ref (m)), (3, .ref (w)), (4, .int (nI (4 * k))), (5, .int (c)), (6, .int (v))]) (by simp) (by simp) (kk _ hJ)
set_option maxHeartbeats 400000 in
set_option maxRecDepth 100000 in
theorem law_name (hs : gScr E b L xs) (hk : 4 * k + 4 ≤ L) (hL : L ≤ 2048) (ha0 : ∃ fs, G.1 a = some (.inr (12, fs))) (hop : s_name E D a m w G J) (kk : ∀ G2, J G2 → GT E Y_law (D + 1) G0 1151 [(0, .ref b), (1, .ref a), (2, .ref m), (3, .ref w), (4, .int (nI (4 * k)))] [] G2 lwQ) : GT E Y_law (D + 1) G0 548 [(0, .ref b), (1, .ref a), (2, .ref m), (3, .ref w), (4, .int (nI (4 * k)))] [] G lwQ := by
  obtain ⟨fs, ha⟩ := ha0
  unfold s_name sA at hop
  have hi1 : (nI (4 * k) + 1).toInt = ((4 * k + 1 : Nat) : Int) := add_hi (nI_hi (by omega)) (by decide) (by omega)
  have hi2 : (nI (4 * k) + 2).toInt = ((4 * k + 2 : Nat) : Int) := add_hi (nI_hi (by omega)) (by decide) (by omega)
  have hi3 : (nI (4 * k) + 3).toInt = ((4 * k + 3 : Nat) : Int) := add_hi (nI_hi (by omega)) (by decide) (by omega)
  refine g_aload_n d_law_548 rfl ?_
  refine g_aload_n d_law_549 rfl ?_
  refine g_iload d_law_550 rfl ?_
  refine g_iconst (v := 1) d_law_552 (by decide) ?_
  refine g_iadd d_law_553 ?_
  refine g_sld hs hi1 (by omega) d_law_554 ?_
  refine g_aload_n d_law_555 rfl ?_
  refine c_S (as := [.ref (a), .int (xs (4 * k + 1)), .ref (w)]) ks_Law_name ml_Law_96 (hop (xs (4 * k + 1)) ) rfl (Nat.le_of_ble_eq_true rfl) rfl d_law_556 (fun v' G1 hq => ?_) (fun D' G1 hq => ?_)
  rotate_left
  · exact absurd hq.choose_spec.1 (by simp)
  obtain ⟨c, hv', ⟨fs1, hm1⟩, hM1⟩ := hq
  cases hv'
  show GT E Y_law (D + 1) G0 559 [(0, .ref (b)), (1, .ref (a)), (2, .ref (m)), (3, .ref (w)), (4, .int (nI (4 * k)))] [.int (c)] G1 lwQ
  refine g_istore d_law_559 (by decide) rfl ?_
  refine g_aload_n d_law_561 rfl ?_
  refine g_aload_n d_law_562 rfl ?_
  refine g_iload d_law_563 rfl ?_
  refine g_iconst (v := 1) d_law_565 (by decide) ?_
  refine g_iadd d_law_566 ?_
  refine g_sld hs hi1 (by omega) d_law_567 ?_
  refine c_V (as := [.int (xs (4 * k + 1))]) kv_Model_name ml_Law_98 rfl hm1 hM1 rfl (Nat.le_of_ble_eq_true rfl) rfl d_law_568 (fun v' G2 hq => ?_) (fun D' G2 hq => ?_)
  rotate_left
  · exact absurd hq.choose_spec.1 (by simp)
  obtain ⟨v, hv', ⟨⟨fs2, hm2⟩, ht2, fo, ho2, hf2⟩, hJ⟩ := hq
  cases hv'
  show GT E Y_law (D + 1) G0 571 [(0, .ref (b)), (1, .ref (a)), (2, .ref (m)), (3, .ref (w)), (4, .int (nI (4 * k))), (5, .int (c))] [.int (v)] G2 lwQ
  refine g_istore d_law_571 (by decide) rfl ?_
  refine g_aload_n d_law_573 rfl ?_
  refine c_Vr (as := []) kv_Model_thrown ml_Law_74 rfl hm2 ht2 rfl (Nat.le_of_ble_eq_true rfl) rfl d_law_574 rfl ?_
  refine g_iload d_law_577 rfl ?_
  refine g_icmp_eq (tgt := 584) d_law_579 (by decide) (fun c_579 => ?_) (fun c_579 => absurd rfl c_579)
  refine g_iload d_law_584 rfl ?_
  refine g_if_ne (tgt := 601) d_law_586 (by decide) (fun c_586 => ?_) (fun c_586 => ?_)
  · refine g_goto (tgt := 1151) d_law_601 (by decide) ?_
    exact g_weak (lv := [(0, .ref (b)), (1, .ref (a)), (2, .ref (m)), (3, .ref (w)), (4, .int (nI (4 * k))), (5, .int (c)), (6, .int (v))]) (by simp) (by simp) (kk _ hJ)
  · refine g_aload_n d_law_589 rfl ?_
    refine g_iconst (v := 0) d_law_590 (by decide) ?_
    refine g_lald (j := 0) ho2 (by decide) (by decide) d_law_591 ?_
    refine g_iload d_law_592 rfl ?_
    refine g_i2l d_law_594 rfl ?_
    refine g_lcmp d_law_595 ?_
    have hz : fo 0 = v.toInt64 := hf2 (by first | exact c_586 | exact Classical.byContradiction (fun h => c_586 h))
    refine g_if_eq (tgt := 601) d_law_596 (by decide) (fun c_596 => ?_) (fun c_596 => absurd (show lg_cmp (fo 0) (v.toInt64) = 0 by rw [hz, lg_cmp_self]) c_596)
    refine g_goto (tgt := 1151) d_law_601 (by decide) ?_
    exact g_weak (lv := [(0, .ref (b)), (1, .ref (a)), (2, .ref (m)), (3, .ref (w)), (4, .int (nI (4 * k))), (5, .int (c)), (6, .int (v))]) (by simp) (by simp) (kk _ hJ)
set_option maxHeartbeats 400000 in
set_option maxRecDepth 100000 in
theorem law_pop (hs : gScr E b L xs) (hk : 4 * k + 4 ≤ L) (hL : L ≤ 2048) (ha0 : ∃ fs, G.1 a = some (.inr (12, fs))) (hop : s_pop E D a m w G J) (kk : ∀ G2, J G2 → GT E Y_law (D + 1) G0 1151 [(0, .ref b), (1, .ref a), (2, .ref m), (3, .ref w), (4, .int (nI (4 * k)))] [] G2 lwQ) : GT E Y_law (D + 1) G0 604 [(0, .ref b), (1, .ref a), (2, .ref m), (3, .ref w), (4, .int (nI (4 * k)))] [] G lwQ := by
  obtain ⟨fs, ha⟩ := ha0
  unfold s_pop sD at hop
  have hi1 : (nI (4 * k) + 1).toInt = ((4 * k + 1 : Nat) : Int) := add_hi (nI_hi (by omega)) (by decide) (by omega)
  have hi2 : (nI (4 * k) + 2).toInt = ((4 * k + 2 : Nat) : Int) := add_hi (nI_hi (by omega)) (by decide) (by omega)
  have hi3 : (nI (4 * k) + 3).toInt = ((4 * k + 3 : Nat) : Int) := add_hi (nI_hi (by omega)) (by decide) (by omega)
  refine g_aload_n d_law_604 rfl ?_
  refine g_aload_n d_law_605 rfl ?_
  refine g_iload d_law_606 rfl ?_
  refine g_iconst (v := 1) d_law_608 (by decide) ?_
  refine g_iadd d_law_609 ?_
  refine g_sld hs hi1 (by omega) d_law_610 ?_
  refine g_if_eq (tgt := 618) d_law_611 (by decide) (fun c_611 => ?_) (fun c_611 => ?_)
  · refine g_iconst (v := 0) d_law_618 (by decide) ?_
    refine c_V (as := [.int (0)]) kv_Mill_pop ml_Law_99 rfl ha (hop (0) (by first | exact Or.inl rfl | exact Or.inr rfl)) rfl (Nat.le_of_ble_eq_true rfl) rfl d_law_619 (fun v' G1 hq => ?_) (fun D' G1 hq => ?_)
    rotate_left
    · exact absurd hq.choose_spec.1 (by simp)
    obtain ⟨v, hv', ⟨fs1, hm1⟩, hM1⟩ := hq
    cases hv'
    show GT E Y_law (D + 1) G0 622 [(0, .ref (b)), (1, .ref (a)), (2, .ref (m)), (3, .ref (w)), (4, .int (nI (4 * k)))] [.int (v)] G1 lwQ
    refine g_aload_n d_law_622 rfl ?_
    refine g_aload_n d_law_623 rfl ?_
    refine g_iload d_law_624 rfl ?_
    refine g_iconst (v := 1) d_law_626 (by decide) ?_
    refine g_iadd d_law_627 ?_
    refine g_sld hs hi1 (by omega) d_law_628 ?_
    refine g_if_eq (tgt := 636) d_law_629 (by decide) (fun c_629 => ?_) (fun c_629 => absurd c_611 c_629)
    refine g_iconst (v := 0) d_law_636 (by decide) ?_
    refine c_V (as := [.int (0)]) kv_Model_pop ml_Law_102 rfl hm1 hM1 rfl (Nat.le_of_ble_eq_true rfl) rfl d_law_637 (fun v' G2 hq => ?_) (fun D' G2 hq => ?_)
    rotate_left
    · exact absurd hq.1 (by simp)
    obtain ⟨hv', hJ⟩ := hq
    cases hv'
    show GT E Y_law (D + 1) G0 640 [(0, .ref (b)), (1, .ref (a)), (2, .ref (m)), (3, .ref (w)), (4, .int (nI (4 * k)))] [.int (v), .int (v)] G2 lwQ
    refine g_icmp_eq (tgt := 1151) d_law_640 (by decide) (fun c_640 => ?_) (fun c_640 => absurd rfl c_640)
    exact g_weak (lv := [(0, .ref (b)), (1, .ref (a)), (2, .ref (m)), (3, .ref (w)), (4, .int (nI (4 * k)))]) (by simp) (by simp) (kk _ hJ)
  · refine g_iconst (v := 1) d_law_614 (by decide) ?_
    refine g_goto (tgt := 619) d_law_615 (by decide) ?_
    refine c_V (as := [.int (1)]) kv_Mill_pop ml_Law_99 rfl ha (hop (1) (by first | exact Or.inl rfl | exact Or.inr rfl)) rfl (Nat.le_of_ble_eq_true rfl) rfl d_law_619 (fun v' G1 hq => ?_) (fun D' G1 hq => ?_)
    rotate_left
    · exact absurd hq.choose_spec.1 (by simp)
    obtain ⟨v, hv', ⟨fs1, hm1⟩, hM1⟩ := hq
    cases hv'
    show GT E Y_law (D + 1) G0 622 [(0, .ref (b)), (1, .ref (a)), (2, .ref (m)), (3, .ref (w)), (4, .int (nI (4 * k)))] [.int (v)] G1 lwQ
    refine g_aload_n d_law_622 rfl ?_
    refine g_aload_n d_law_623 rfl ?_
    refine g_iload d_law_624 rfl ?_
    refine g_iconst (v := 1) d_law_626 (by decide) ?_
    refine g_iadd d_law_627 ?_
    refine g_sld hs hi1 (by omega) d_law_628 ?_
    refine g_if_eq (tgt := 636) d_law_629 (by decide) (fun c_629 => absurd c_629 c_611) (fun c_629 => ?_)
    refine g_iconst (v := 1) d_law_632 (by decide) ?_
    refine g_goto (tgt := 637) d_law_633 (by decide) ?_
    refine c_V (as := [.int (1)]) kv_Model_pop ml_Law_102 rfl hm1 hM1 rfl (Nat.le_of_ble_eq_true rfl) rfl d_law_637 (fun v' G2 hq => ?_) (fun D' G2 hq => ?_)
    rotate_left
    · exact absurd hq.1 (by simp)
    obtain ⟨hv', hJ⟩ := hq
    cases hv'
    show GT E Y_law (D + 1) G0 640 [(0, .ref (b)), (1, .ref (a)), (2, .ref (m)), (3, .ref (w)), (4, .int (nI (4 * k)))] [.int (v), .int (v)] G2 lwQ
    refine g_icmp_eq (tgt := 1151) d_law_640 (by decide) (fun c_640 => ?_) (fun c_640 => absurd rfl c_640)
    exact g_weak (lv := [(0, .ref (b)), (1, .ref (a)), (2, .ref (m)), (3, .ref (w)), (4, .int (nI (4 * k)))]) (by simp) (by simp) (kk _ hJ)
set_option maxHeartbeats 400000 in
set_option maxRecDepth 100000 in
theorem law_addCase (hs : gScr E b L xs) (hk : 4 * k + 4 ≤ L) (hL : L ≤ 2048) (ha0 : ∃ fs, G.1 a = some (.inr (12, fs))) (hop : s_addCase E D a m w G J) (kk : ∀ G2, J G2 → GT E Y_law (D + 1) G0 1151 [(0, .ref b), (1, .ref a), (2, .ref m), (3, .ref w), (4, .int (nI (4 * k)))] [] G2 lwQ) : GT E Y_law (D + 1) G0 645 [(0, .ref b), (1, .ref a), (2, .ref m), (3, .ref w), (4, .int (nI (4 * k)))] [] G lwQ := by
  obtain ⟨fs, ha⟩ := ha0
  unfold s_addCase sA at hop
  have hi1 : (nI (4 * k) + 1).toInt = ((4 * k + 1 : Nat) : Int) := add_hi (nI_hi (by omega)) (by decide) (by omega)
  have hi2 : (nI (4 * k) + 2).toInt = ((4 * k + 2 : Nat) : Int) := add_hi (nI_hi (by omega)) (by decide) (by omega)
  have hi3 : (nI (4 * k) + 3).toInt = ((4 * k + 3 : Nat) : Int) := add_hi (nI_hi (by omega)) (by decide) (by omega)
  refine g_aload_n d_law_645 rfl ?_
  refine g_aload_n d_law_646 rfl ?_
  refine g_iload d_law_647 rfl ?_
  refine g_iconst (v := 1) d_law_649 (by decide) ?_
  refine g_iadd d_law_650 ?_
  refine g_sld hs hi1 (by omega) d_law_651 ?_
  refine g_if_eq (tgt := 659) d_law_652 (by decide) (fun c_652 => ?_) (fun c_652 => ?_)
  · refine g_iconst (v := 0) d_law_659 (by decide) ?_
    refine g_aload_n d_law_660 rfl ?_
    refine c_S (as := [.ref (a), .int (0), .ref (w)]) ks_Law_addCase ml_Law_103 (hop (0) (by first | exact Or.inl rfl | exact Or.inr rfl)) rfl (Nat.le_of_ble_eq_true rfl) rfl d_law_661 (fun v' G1 hq => ?_) (fun D' G1 hq => ?_)
    rotate_left
    · exact absurd hq.choose_spec.1 (by simp)
    obtain ⟨c, hv', ⟨fs1, hm1⟩, hM1⟩ := hq
    cases hv'
    show GT E Y_law (D + 1) G0 664 [(0, .ref (b)), (1, .ref (a)), (2, .ref (m)), (3, .ref (w)), (4, .int (nI (4 * k)))] [.int (c)] G1 lwQ
    refine g_istore d_law_664 (by decide) rfl ?_
    refine g_aload_n d_law_666 rfl ?_
    refine g_aload_n d_law_667 rfl ?_
    refine g_iload d_law_668 rfl ?_
    refine g_iconst (v := 1) d_law_670 (by decide) ?_
    refine g_iadd d_law_671 ?_
    refine g_sld hs hi1 (by omega) d_law_672 ?_
    refine g_if_eq (tgt := 680) d_law_673 (by decide) (fun c_673 => ?_) (fun c_673 => absurd c_652 c_673)
    refine g_iconst (v := 0) d_law_680 (by decide) ?_
    refine c_V (as := [.int (0)]) kv_Model_addCase ml_Law_106 rfl hm1 hM1 rfl (Nat.le_of_ble_eq_true rfl) rfl d_law_681 (fun v' G2 hq => ?_) (fun D' G2 hq => ?_)
    rotate_left
    · exact absurd hq.choose_spec.1 (by simp)
    obtain ⟨v, hv', ⟨⟨fs2, hm2⟩, ht2, fo, ho2, hf2⟩, hJ⟩ := hq
    cases hv'
    show GT E Y_law (D + 1) G0 684 [(0, .ref (b)), (1, .ref (a)), (2, .ref (m)), (3, .ref (w)), (4, .int (nI (4 * k))), (5, .int (c))] [.int (v)] G2 lwQ
    refine g_istore d_law_684 (by decide) rfl ?_
    refine g_aload_n d_law_686 rfl ?_
    refine c_Vr (as := []) kv_Model_thrown ml_Law_74 rfl hm2 ht2 rfl (Nat.le_of_ble_eq_true rfl) rfl d_law_687 rfl ?_
    refine g_iload d_law_690 rfl ?_
    refine g_icmp_eq (tgt := 697) d_law_692 (by decide) (fun c_692 => ?_) (fun c_692 => absurd rfl c_692)
    refine g_iload d_law_697 rfl ?_
    refine g_if_ne (tgt := 714) d_law_699 (by decide) (fun c_699 => ?_) (fun c_699 => ?_)
    · refine g_goto (tgt := 1151) d_law_714 (by decide) ?_
      exact g_weak (lv := [(0, .ref (b)), (1, .ref (a)), (2, .ref (m)), (3, .ref (w)), (4, .int (nI (4 * k))), (5, .int (c)), (6, .int (v))]) (by simp) (by simp) (kk _ hJ)
    · refine g_aload_n d_law_702 rfl ?_
      refine g_iconst (v := 0) d_law_703 (by decide) ?_
      refine g_lald (j := 0) ho2 (by decide) (by decide) d_law_704 ?_
      refine g_iload d_law_705 rfl ?_
      refine g_i2l d_law_707 rfl ?_
      refine g_lcmp d_law_708 ?_
      have hz : fo 0 = v.toInt64 := hf2 (by first | exact c_699 | exact Classical.byContradiction (fun h => c_699 h))
      refine g_if_eq (tgt := 714) d_law_709 (by decide) (fun c_709 => ?_) (fun c_709 => absurd (show lg_cmp (fo 0) (v.toInt64) = 0 by rw [hz, lg_cmp_self]) c_709)
      refine g_goto (tgt := 1151) d_law_714 (by decide) ?_
      exact g_weak (lv := [(0, .ref (b)), (1, .ref (a)), (2, .ref (m)), (3, .ref (w)), (4, .int (nI (4 * k))), (5, .int (c)), (6, .int (v))]) (by simp) (by simp) (kk _ hJ)
  · refine g_iconst (v := 1) d_law_655 (by decide) ?_
    refine g_goto (tgt := 660) d_law_656 (by decide) ?_
    refine g_aload_n d_law_660 rfl ?_
    refine c_S (as := [.ref (a), .int (1), .ref (w)]) ks_Law_addCase ml_Law_103 (hop (1) (by first | exact Or.inl rfl | exact Or.inr rfl)) rfl (Nat.le_of_ble_eq_true rfl) rfl d_law_661 (fun v' G1 hq => ?_) (fun D' G1 hq => ?_)
    rotate_left
    · exact absurd hq.choose_spec.1 (by simp)
    obtain ⟨c, hv', ⟨fs1, hm1⟩, hM1⟩ := hq
    cases hv'
    show GT E Y_law (D + 1) G0 664 [(0, .ref (b)), (1, .ref (a)), (2, .ref (m)), (3, .ref (w)), (4, .int (nI (4 * k)))] [.int (c)] G1 lwQ
    refine g_istore d_law_664 (by decide) rfl ?_
    refine g_aload_n d_law_666 rfl ?_
    refine g_aload_n d_law_667 rfl ?_
    refine g_iload d_law_668 rfl ?_
    refine g_iconst (v := 1) d_law_670 (by decide) ?_
    refine g_iadd d_law_671 ?_
    refine g_sld hs hi1 (by omega) d_law_672 ?_
    refine g_if_eq (tgt := 680) d_law_673 (by decide) (fun c_673 => absurd c_673 c_652) (fun c_673 => ?_)
    refine g_iconst (v := 1) d_law_676 (by decide) ?_
    refine g_goto (tgt := 681) d_law_677 (by decide) ?_
    refine c_V (as := [.int (1)]) kv_Model_addCase ml_Law_106 rfl hm1 hM1 rfl (Nat.le_of_ble_eq_true rfl) rfl d_law_681 (fun v' G2 hq => ?_) (fun D' G2 hq => ?_)
    rotate_left
    · exact absurd hq.choose_spec.1 (by simp)
    obtain ⟨v, hv', ⟨⟨fs2, hm2⟩, ht2, fo, ho2, hf2⟩, hJ⟩ := hq
    cases hv'
    show GT E Y_law (D + 1) G0 684 [(0, .ref (b)), (1, .ref (a)), (2, .ref (m)), (3, .ref (w)), (4, .int (nI (4 * k))), (5, .int (c))] [.int (v)] G2 lwQ
    refine g_istore d_law_684 (by decide) rfl ?_
    refine g_aload_n d_law_686 rfl ?_
    refine c_Vr (as := []) kv_Model_thrown ml_Law_74 rfl hm2 ht2 rfl (Nat.le_of_ble_eq_true rfl) rfl d_law_687 rfl ?_
    refine g_iload d_law_690 rfl ?_
    refine g_icmp_eq (tgt := 697) d_law_692 (by decide) (fun c_692 => ?_) (fun c_692 => absurd rfl c_692)
    refine g_iload d_law_697 rfl ?_
    refine g_if_ne (tgt := 714) d_law_699 (by decide) (fun c_699 => ?_) (fun c_699 => ?_)
    · refine g_goto (tgt := 1151) d_law_714 (by decide) ?_
      exact g_weak (lv := [(0, .ref (b)), (1, .ref (a)), (2, .ref (m)), (3, .ref (w)), (4, .int (nI (4 * k))), (5, .int (c)), (6, .int (v))]) (by simp) (by simp) (kk _ hJ)
    · refine g_aload_n d_law_702 rfl ?_
      refine g_iconst (v := 0) d_law_703 (by decide) ?_
      refine g_lald (j := 0) ho2 (by decide) (by decide) d_law_704 ?_
      refine g_iload d_law_705 rfl ?_
      refine g_i2l d_law_707 rfl ?_
      refine g_lcmp d_law_708 ?_
      have hz : fo 0 = v.toInt64 := hf2 (by first | exact c_699 | exact Classical.byContradiction (fun h => c_699 h))
      refine g_if_eq (tgt := 714) d_law_709 (by decide) (fun c_709 => ?_) (fun c_709 => absurd (show lg_cmp (fo 0) (v.toInt64) = 0 by rw [hz, lg_cmp_self]) c_709)
      refine g_goto (tgt := 1151) d_law_714 (by decide) ?_
      exact g_weak (lv := [(0, .ref (b)), (1, .ref (a)), (2, .ref (m)), (3, .ref (w)), (4, .int (nI (4 * k))), (5, .int (c)), (6, .int (v))]) (by simp) (by simp) (kk _ hJ)
set_option maxHeartbeats 400000 in
set_option maxRecDepth 100000 in
theorem law_build (hs : gScr E b L xs) (hk : 4 * k + 4 ≤ L) (hL : L ≤ 2048) (ha0 : ∃ fs, G.1 a = some (.inr (12, fs))) (hop : s_build E D a m w G J) (kk : ∀ G2, J G2 → GT E Y_law (D + 1) G0 1151 [(0, .ref b), (1, .ref a), (2, .ref m), (3, .ref w), (4, .int (nI (4 * k)))] [] G2 lwQ) : GT E Y_law (D + 1) G0 717 [(0, .ref b), (1, .ref a), (2, .ref m), (3, .ref w), (4, .int (nI (4 * k)))] [] G lwQ := by
  obtain ⟨fs, ha⟩ := ha0
  unfold s_build sA at hop
  refine g_aload_n d_law_717 rfl ?_
  refine g_aload_n d_law_718 rfl ?_
  refine c_S (as := [.ref (a), .ref (w)]) ks_Law_build ml_Law_107 hop rfl (Nat.le_of_ble_eq_true rfl) rfl d_law_719 (fun v' G1 hq => ?_) (fun D' G1 hq => ?_)
  rotate_left
  · exact absurd hq.choose_spec.1 (by simp)
  obtain ⟨c, hv', ⟨fs1, hm1⟩, hM1⟩ := hq
  cases hv'
  show GT E Y_law (D + 1) G0 722 [(0, .ref (b)), (1, .ref (a)), (2, .ref (m)), (3, .ref (w)), (4, .int (nI (4 * k)))] [.int (c)] G1 lwQ
  refine g_istore d_law_722 (by decide) rfl ?_
  refine g_aload_n d_law_724 rfl ?_
  refine c_V (as := []) kv_Model_build ml_Law_109 rfl hm1 hM1 rfl (Nat.le_of_ble_eq_true rfl) rfl d_law_725 (fun v' G2 hq => ?_) (fun D' G2 hq => ?_)
  rotate_left
  · exact absurd hq.choose_spec.1 (by simp)
  obtain ⟨v, hv', ⟨⟨fs2, hm2⟩, ht2, fo, ho2, hf2⟩, hJ⟩ := hq
  cases hv'
  show GT E Y_law (D + 1) G0 728 [(0, .ref (b)), (1, .ref (a)), (2, .ref (m)), (3, .ref (w)), (4, .int (nI (4 * k))), (5, .int (c))] [.int (v)] G2 lwQ
  refine g_istore d_law_728 (by decide) rfl ?_
  refine g_aload_n d_law_730 rfl ?_
  refine c_Vr (as := []) kv_Model_thrown ml_Law_74 rfl hm2 ht2 rfl (Nat.le_of_ble_eq_true rfl) rfl d_law_731 rfl ?_
  refine g_iload d_law_734 rfl ?_
  refine g_icmp_eq (tgt := 741) d_law_736 (by decide) (fun c_736 => ?_) (fun c_736 => absurd rfl c_736)
  refine g_iload d_law_741 rfl ?_
  refine g_if_ne (tgt := 758) d_law_743 (by decide) (fun c_743 => ?_) (fun c_743 => ?_)
  · refine g_goto (tgt := 1151) d_law_758 (by decide) ?_
    exact g_weak (lv := [(0, .ref (b)), (1, .ref (a)), (2, .ref (m)), (3, .ref (w)), (4, .int (nI (4 * k))), (5, .int (c)), (6, .int (v))]) (by simp) (by simp) (kk _ hJ)
  · refine g_aload_n d_law_746 rfl ?_
    refine g_iconst (v := 0) d_law_747 (by decide) ?_
    refine g_lald (j := 0) ho2 (by decide) (by decide) d_law_748 ?_
    refine g_iload d_law_749 rfl ?_
    refine g_i2l d_law_751 rfl ?_
    refine g_lcmp d_law_752 ?_
    have hz : fo 0 = v.toInt64 := hf2 (by first | exact c_743 | exact Classical.byContradiction (fun h => c_743 h))
    refine g_if_eq (tgt := 758) d_law_753 (by decide) (fun c_753 => ?_) (fun c_753 => absurd (show lg_cmp (fo 0) (v.toInt64) = 0 by rw [hz, lg_cmp_self]) c_753)
    refine g_goto (tgt := 1151) d_law_758 (by decide) ?_
    exact g_weak (lv := [(0, .ref (b)), (1, .ref (a)), (2, .ref (m)), (3, .ref (w)), (4, .int (nI (4 * k))), (5, .int (c)), (6, .int (v))]) (by simp) (by simp) (kk _ hJ)
set_option maxHeartbeats 400000 in
set_option maxRecDepth 100000 in
theorem law_match (hs : gScr E b L xs) (hk : 4 * k + 4 ≤ L) (hL : L ≤ 2048) (ha0 : ∃ fs, G.1 a = some (.inr (12, fs))) (hop : s_match E D a m w G J) (kk : ∀ G2, J G2 → GT E Y_law (D + 1) G0 1151 [(0, .ref b), (1, .ref a), (2, .ref m), (3, .ref w), (4, .int (nI (4 * k)))] [] G2 lwQ) : GT E Y_law (D + 1) G0 761 [(0, .ref b), (1, .ref a), (2, .ref m), (3, .ref w), (4, .int (nI (4 * k)))] [] G lwQ := by
  obtain ⟨fs, ha⟩ := ha0
  unfold s_match sA at hop
  have hi1 : (nI (4 * k) + 1).toInt = ((4 * k + 1 : Nat) : Int) := add_hi (nI_hi (by omega)) (by decide) (by omega)
  have hi2 : (nI (4 * k) + 2).toInt = ((4 * k + 2 : Nat) : Int) := add_hi (nI_hi (by omega)) (by decide) (by omega)
  have hi3 : (nI (4 * k) + 3).toInt = ((4 * k + 3 : Nat) : Int) := add_hi (nI_hi (by omega)) (by decide) (by omega)
  refine g_aload_n d_law_761 rfl ?_
  refine g_aload_n d_law_762 rfl ?_
  refine g_iload d_law_763 rfl ?_
  refine g_iconst (v := 1) d_law_765 (by decide) ?_
  refine g_iadd d_law_766 ?_
  refine g_sld hs hi1 (by omega) d_law_767 ?_
  refine g_aload_n d_law_768 rfl ?_
  refine c_S (as := [.ref (a), .int (xs (4 * k + 1)), .ref (w)]) ks_Law_match ml_Law_110 (hop (xs (4 * k + 1)) ) rfl (Nat.le_of_ble_eq_true rfl) rfl d_law_769 (fun v' G1 hq => ?_) (fun D' G1 hq => ?_)
  rotate_left
  · exact absurd hq.choose_spec.1 (by simp)
  obtain ⟨c, hv', ⟨fs1, hm1⟩, hM1⟩ := hq
  cases hv'
  show GT E Y_law (D + 1) G0 772 [(0, .ref (b)), (1, .ref (a)), (2, .ref (m)), (3, .ref (w)), (4, .int (nI (4 * k)))] [.int (c)] G1 lwQ
  refine g_istore d_law_772 (by decide) rfl ?_
  refine g_aload_n d_law_774 rfl ?_
  refine g_aload_n d_law_775 rfl ?_
  refine g_iload d_law_776 rfl ?_
  refine g_iconst (v := 1) d_law_778 (by decide) ?_
  refine g_iadd d_law_779 ?_
  refine g_sld hs hi1 (by omega) d_law_780 ?_
  refine c_V (as := [.int (xs (4 * k + 1))]) kv_Model_match ml_Law_112 rfl hm1 hM1 rfl (Nat.le_of_ble_eq_true rfl) rfl d_law_781 (fun v' G2 hq => ?_) (fun D' G2 hq => ?_)
  rotate_left
  · exact absurd hq.choose_spec.1 (by simp)
  obtain ⟨v, hv', ⟨⟨fs2, hm2⟩, ht2, fo, ho2, hf2⟩, hJ⟩ := hq
  cases hv'
  show GT E Y_law (D + 1) G0 784 [(0, .ref (b)), (1, .ref (a)), (2, .ref (m)), (3, .ref (w)), (4, .int (nI (4 * k))), (5, .int (c))] [.int (v)] G2 lwQ
  refine g_istore d_law_784 (by decide) rfl ?_
  refine g_aload_n d_law_786 rfl ?_
  refine c_Vr (as := []) kv_Model_thrown ml_Law_74 rfl hm2 ht2 rfl (Nat.le_of_ble_eq_true rfl) rfl d_law_787 rfl ?_
  refine g_iload d_law_790 rfl ?_
  refine g_icmp_eq (tgt := 797) d_law_792 (by decide) (fun c_792 => ?_) (fun c_792 => absurd rfl c_792)
  refine g_iload d_law_797 rfl ?_
  refine g_if_ne (tgt := 814) d_law_799 (by decide) (fun c_799 => ?_) (fun c_799 => ?_)
  · refine g_goto (tgt := 1151) d_law_814 (by decide) ?_
    exact g_weak (lv := [(0, .ref (b)), (1, .ref (a)), (2, .ref (m)), (3, .ref (w)), (4, .int (nI (4 * k))), (5, .int (c)), (6, .int (v))]) (by simp) (by simp) (kk _ hJ)
  · refine g_aload_n d_law_802 rfl ?_
    refine g_iconst (v := 0) d_law_803 (by decide) ?_
    refine g_lald (j := 0) ho2 (by decide) (by decide) d_law_804 ?_
    refine g_iload d_law_805 rfl ?_
    refine g_i2l d_law_807 rfl ?_
    refine g_lcmp d_law_808 ?_
    have hz : fo 0 = v.toInt64 := hf2 (by first | exact c_799 | exact Classical.byContradiction (fun h => c_799 h))
    refine g_if_eq (tgt := 814) d_law_809 (by decide) (fun c_809 => ?_) (fun c_809 => absurd (show lg_cmp (fo 0) (v.toInt64) = 0 by rw [hz, lg_cmp_self]) c_809)
    refine g_goto (tgt := 1151) d_law_814 (by decide) ?_
    exact g_weak (lv := [(0, .ref (b)), (1, .ref (a)), (2, .ref (m)), (3, .ref (w)), (4, .int (nI (4 * k))), (5, .int (c)), (6, .int (v))]) (by simp) (by simp) (kk _ hJ)
set_option maxHeartbeats 400000 in
set_option maxRecDepth 100000 in
theorem law_asked (hs : gScr E b L xs) (hk : 4 * k + 4 ≤ L) (hL : L ≤ 2048) (ha0 : ∃ fs, G.1 a = some (.inr (12, fs))) (hop : s_asked E D a m w G J) (kk : ∀ G2, J G2 → GT E Y_law (D + 1) G0 1151 [(0, .ref b), (1, .ref a), (2, .ref m), (3, .ref w), (4, .int (nI (4 * k)))] [] G2 lwQ) : GT E Y_law (D + 1) G0 817 [(0, .ref b), (1, .ref a), (2, .ref m), (3, .ref w), (4, .int (nI (4 * k)))] [] G lwQ := by
  obtain ⟨fs, ha⟩ := ha0
  unfold s_asked sD at hop
  have hi1 : (nI (4 * k) + 1).toInt = ((4 * k + 1 : Nat) : Int) := add_hi (nI_hi (by omega)) (by decide) (by omega)
  have hi2 : (nI (4 * k) + 2).toInt = ((4 * k + 2 : Nat) : Int) := add_hi (nI_hi (by omega)) (by decide) (by omega)
  have hi3 : (nI (4 * k) + 3).toInt = ((4 * k + 3 : Nat) : Int) := add_hi (nI_hi (by omega)) (by decide) (by omega)
  refine g_aload_n d_law_817 rfl ?_
  refine g_aload_n d_law_818 rfl ?_
  refine g_iload d_law_819 rfl ?_
  refine g_iconst (v := 1) d_law_821 (by decide) ?_
  refine g_iadd d_law_822 ?_
  refine g_sld hs hi1 (by omega) d_law_823 ?_
  refine c_V (as := [.int (xs (4 * k + 1))]) kv_Mill_asked ml_Law_113 rfl ha (hop (xs (4 * k + 1)) ) rfl (Nat.le_of_ble_eq_true rfl) rfl d_law_824 (fun v' G1 hq => ?_) (fun D' G1 hq => ?_)
  rotate_left
  · exact absurd hq.choose_spec.1 (by simp)
  obtain ⟨v, hv', ⟨fs1, hm1⟩, hM1⟩ := hq
  cases hv'
  show GT E Y_law (D + 1) G0 827 [(0, .ref (b)), (1, .ref (a)), (2, .ref (m)), (3, .ref (w)), (4, .int (nI (4 * k)))] [.int (v)] G1 lwQ
  refine g_aload_n d_law_827 rfl ?_
  refine g_aload_n d_law_828 rfl ?_
  refine g_iload d_law_829 rfl ?_
  refine g_iconst (v := 1) d_law_831 (by decide) ?_
  refine g_iadd d_law_832 ?_
  refine g_sld hs hi1 (by omega) d_law_833 ?_
  refine c_V (as := [.int (xs (4 * k + 1))]) kv_Model_asked ml_Law_116 rfl hm1 hM1 rfl (Nat.le_of_ble_eq_true rfl) rfl d_law_834 (fun v' G2 hq => ?_) (fun D' G2 hq => ?_)
  rotate_left
  · exact absurd hq.1 (by simp)
  obtain ⟨hv', hJ⟩ := hq
  cases hv'
  show GT E Y_law (D + 1) G0 837 [(0, .ref (b)), (1, .ref (a)), (2, .ref (m)), (3, .ref (w)), (4, .int (nI (4 * k)))] [.int (v), .int (v)] G2 lwQ
  refine g_icmp_eq (tgt := 1151) d_law_837 (by decide) (fun c_837 => ?_) (fun c_837 => absurd rfl c_837)
  exact g_weak (lv := [(0, .ref (b)), (1, .ref (a)), (2, .ref (m)), (3, .ref (w)), (4, .int (nI (4 * k)))]) (by simp) (by simp) (kk _ hJ)
set_option maxHeartbeats 400000 in
set_option maxRecDepth 100000 in
theorem law_bound (hs : gScr E b L xs) (hk : 4 * k + 4 ≤ L) (hL : L ≤ 2048) (ha0 : ∃ fs, G.1 a = some (.inr (12, fs))) (hop : s_bound E D a m w G J) (kk : ∀ G2, J G2 → GT E Y_law (D + 1) G0 1151 [(0, .ref b), (1, .ref a), (2, .ref m), (3, .ref w), (4, .int (nI (4 * k)))] [] G2 lwQ) : GT E Y_law (D + 1) G0 842 [(0, .ref b), (1, .ref a), (2, .ref m), (3, .ref w), (4, .int (nI (4 * k)))] [] G lwQ := by
  obtain ⟨fs, ha⟩ := ha0
  unfold s_bound sA at hop
  have hi1 : (nI (4 * k) + 1).toInt = ((4 * k + 1 : Nat) : Int) := add_hi (nI_hi (by omega)) (by decide) (by omega)
  have hi2 : (nI (4 * k) + 2).toInt = ((4 * k + 2 : Nat) : Int) := add_hi (nI_hi (by omega)) (by decide) (by omega)
  have hi3 : (nI (4 * k) + 3).toInt = ((4 * k + 3 : Nat) : Int) := add_hi (nI_hi (by omega)) (by decide) (by omega)
  refine g_aload_n d_law_842 rfl ?_
  refine g_aload_n d_law_843 rfl ?_
  refine g_iload d_law_844 rfl ?_
  refine g_iconst (v := 1) d_law_846 (by decide) ?_
  refine g_iadd d_law_847 ?_
  refine g_sld hs hi1 (by omega) d_law_848 ?_
  refine g_aload_n d_law_849 rfl ?_
  refine c_S (as := [.ref (a), .int (xs (4 * k + 1)), .ref (w)]) ks_Law_bound ml_Law_117 (hop (xs (4 * k + 1)) ) rfl (Nat.le_of_ble_eq_true rfl) rfl d_law_850 (fun v' G1 hq => ?_) (fun D' G1 hq => ?_)
  rotate_left
  · exact absurd hq.choose_spec.1 (by simp)
  obtain ⟨c, hv', ⟨fs1, hm1⟩, hM1⟩ := hq
  cases hv'
  show GT E Y_law (D + 1) G0 853 [(0, .ref (b)), (1, .ref (a)), (2, .ref (m)), (3, .ref (w)), (4, .int (nI (4 * k)))] [.int (c)] G1 lwQ
  refine g_istore d_law_853 (by decide) rfl ?_
  refine g_aload_n d_law_855 rfl ?_
  refine g_aload_n d_law_856 rfl ?_
  refine g_iload d_law_857 rfl ?_
  refine g_iconst (v := 1) d_law_859 (by decide) ?_
  refine g_iadd d_law_860 ?_
  refine g_sld hs hi1 (by omega) d_law_861 ?_
  refine c_V (as := [.int (xs (4 * k + 1))]) kv_Model_bound ml_Law_119 rfl hm1 hM1 rfl (Nat.le_of_ble_eq_true rfl) rfl d_law_862 (fun v' G2 hq => ?_) (fun D' G2 hq => ?_)
  rotate_left
  · exact absurd hq.choose_spec.1 (by simp)
  obtain ⟨v, hv', ⟨⟨fs2, hm2⟩, ht2, fo, ho2, hf2⟩, hJ⟩ := hq
  cases hv'
  show GT E Y_law (D + 1) G0 865 [(0, .ref (b)), (1, .ref (a)), (2, .ref (m)), (3, .ref (w)), (4, .int (nI (4 * k))), (5, .int (c))] [.int (v)] G2 lwQ
  refine g_istore d_law_865 (by decide) rfl ?_
  refine g_aload_n d_law_867 rfl ?_
  refine c_Vr (as := []) kv_Model_thrown ml_Law_74 rfl hm2 ht2 rfl (Nat.le_of_ble_eq_true rfl) rfl d_law_868 rfl ?_
  refine g_iload d_law_871 rfl ?_
  refine g_icmp_eq (tgt := 878) d_law_873 (by decide) (fun c_873 => ?_) (fun c_873 => absurd rfl c_873)
  refine g_iload d_law_878 rfl ?_
  refine g_if_ne (tgt := 895) d_law_880 (by decide) (fun c_880 => ?_) (fun c_880 => ?_)
  · refine g_goto (tgt := 1151) d_law_895 (by decide) ?_
    exact g_weak (lv := [(0, .ref (b)), (1, .ref (a)), (2, .ref (m)), (3, .ref (w)), (4, .int (nI (4 * k))), (5, .int (c)), (6, .int (v))]) (by simp) (by simp) (kk _ hJ)
  · refine g_aload_n d_law_883 rfl ?_
    refine g_iconst (v := 0) d_law_884 (by decide) ?_
    refine g_lald (j := 0) ho2 (by decide) (by decide) d_law_885 ?_
    refine g_iload d_law_886 rfl ?_
    refine g_i2l d_law_888 rfl ?_
    refine g_lcmp d_law_889 ?_
    have hz : fo 0 = v.toInt64 := hf2 (by first | exact c_880 | exact Classical.byContradiction (fun h => c_880 h))
    refine g_if_eq (tgt := 895) d_law_890 (by decide) (fun c_890 => ?_) (fun c_890 => absurd (show lg_cmp (fo 0) (v.toInt64) = 0 by rw [hz, lg_cmp_self]) c_890)
    refine g_goto (tgt := 1151) d_law_895 (by decide) ?_
    exact g_weak (lv := [(0, .ref (b)), (1, .ref (a)), (2, .ref (m)), (3, .ref (w)), (4, .int (nI (4 * k))), (5, .int (c)), (6, .int (v))]) (by simp) (by simp) (kk _ hJ)
set_option maxHeartbeats 400000 in
set_option maxRecDepth 100000 in
theorem law_boundAt (hs : gScr E b L xs) (hk : 4 * k + 4 ≤ L) (hL : L ≤ 2048) (ha0 : ∃ fs, G.1 a = some (.inr (12, fs))) (hop : s_boundAt E D a m w G J) (kk : ∀ G2, J G2 → GT E Y_law (D + 1) G0 1151 [(0, .ref b), (1, .ref a), (2, .ref m), (3, .ref w), (4, .int (nI (4 * k)))] [] G2 lwQ) : GT E Y_law (D + 1) G0 898 [(0, .ref b), (1, .ref a), (2, .ref m), (3, .ref w), (4, .int (nI (4 * k)))] [] G lwQ := by
  obtain ⟨fs, ha⟩ := ha0
  unfold s_boundAt sA at hop
  have hi1 : (nI (4 * k) + 1).toInt = ((4 * k + 1 : Nat) : Int) := add_hi (nI_hi (by omega)) (by decide) (by omega)
  have hi2 : (nI (4 * k) + 2).toInt = ((4 * k + 2 : Nat) : Int) := add_hi (nI_hi (by omega)) (by decide) (by omega)
  have hi3 : (nI (4 * k) + 3).toInt = ((4 * k + 3 : Nat) : Int) := add_hi (nI_hi (by omega)) (by decide) (by omega)
  refine g_aload_n d_law_898 rfl ?_
  refine g_aload_n d_law_899 rfl ?_
  refine g_iload d_law_900 rfl ?_
  refine g_iconst (v := 1) d_law_902 (by decide) ?_
  refine g_iadd d_law_903 ?_
  refine g_sld hs hi1 (by omega) d_law_904 ?_
  refine g_aload_n d_law_905 rfl ?_
  refine g_iload d_law_906 rfl ?_
  refine g_iconst (v := 2) d_law_908 (by decide) ?_
  refine g_iadd d_law_909 ?_
  refine g_sld hs hi2 (by omega) d_law_910 ?_
  refine g_aload_n d_law_911 rfl ?_
  refine c_S (as := [.ref (a), .int (xs (4 * k + 1)), .int (xs (4 * k + 2)), .ref (w)]) ks_Law_boundAt ml_Law_120 (hop (xs (4 * k + 1)) (xs (4 * k + 2)) ) rfl (Nat.le_of_ble_eq_true rfl) rfl d_law_912 (fun v' G1 hq => ?_) (fun D' G1 hq => ?_)
  rotate_left
  · exact absurd hq.choose_spec.1 (by simp)
  obtain ⟨c, hv', ⟨fs1, hm1⟩, hM1⟩ := hq
  cases hv'
  show GT E Y_law (D + 1) G0 915 [(0, .ref (b)), (1, .ref (a)), (2, .ref (m)), (3, .ref (w)), (4, .int (nI (4 * k)))] [.int (c)] G1 lwQ
  refine g_istore d_law_915 (by decide) rfl ?_
  refine g_aload_n d_law_917 rfl ?_
  refine g_aload_n d_law_918 rfl ?_
  refine g_iload d_law_919 rfl ?_
  refine g_iconst (v := 1) d_law_921 (by decide) ?_
  refine g_iadd d_law_922 ?_
  refine g_sld hs hi1 (by omega) d_law_923 ?_
  refine g_aload_n d_law_924 rfl ?_
  refine g_iload d_law_925 rfl ?_
  refine g_iconst (v := 2) d_law_927 (by decide) ?_
  refine g_iadd d_law_928 ?_
  refine g_sld hs hi2 (by omega) d_law_929 ?_
  refine c_V (as := [.int (xs (4 * k + 1)), .int (xs (4 * k + 2))]) kv_Model_boundAt ml_Law_123 rfl hm1 hM1 rfl (Nat.le_of_ble_eq_true rfl) rfl d_law_930 (fun v' G2 hq => ?_) (fun D' G2 hq => ?_)
  rotate_left
  · exact absurd hq.choose_spec.1 (by simp)
  obtain ⟨v, hv', ⟨⟨fs2, hm2⟩, ht2, fo, ho2, hf2⟩, hJ⟩ := hq
  cases hv'
  show GT E Y_law (D + 1) G0 933 [(0, .ref (b)), (1, .ref (a)), (2, .ref (m)), (3, .ref (w)), (4, .int (nI (4 * k))), (5, .int (c))] [.int (v)] G2 lwQ
  refine g_istore d_law_933 (by decide) rfl ?_
  refine g_aload_n d_law_935 rfl ?_
  refine c_Vr (as := []) kv_Model_thrown ml_Law_74 rfl hm2 ht2 rfl (Nat.le_of_ble_eq_true rfl) rfl d_law_936 rfl ?_
  refine g_iload d_law_939 rfl ?_
  refine g_icmp_eq (tgt := 946) d_law_941 (by decide) (fun c_941 => ?_) (fun c_941 => absurd rfl c_941)
  refine g_iload d_law_946 rfl ?_
  refine g_if_ne (tgt := 963) d_law_948 (by decide) (fun c_948 => ?_) (fun c_948 => ?_)
  · refine g_goto (tgt := 1151) d_law_963 (by decide) ?_
    exact g_weak (lv := [(0, .ref (b)), (1, .ref (a)), (2, .ref (m)), (3, .ref (w)), (4, .int (nI (4 * k))), (5, .int (c)), (6, .int (v))]) (by simp) (by simp) (kk _ hJ)
  · refine g_aload_n d_law_951 rfl ?_
    refine g_iconst (v := 0) d_law_952 (by decide) ?_
    refine g_lald (j := 0) ho2 (by decide) (by decide) d_law_953 ?_
    refine g_iload d_law_954 rfl ?_
    refine g_i2l d_law_956 rfl ?_
    refine g_lcmp d_law_957 ?_
    have hz : fo 0 = v.toInt64 := hf2 (by first | exact c_948 | exact Classical.byContradiction (fun h => c_948 h))
    refine g_if_eq (tgt := 963) d_law_958 (by decide) (fun c_958 => ?_) (fun c_958 => absurd (show lg_cmp (fo 0) (v.toInt64) = 0 by rw [hz, lg_cmp_self]) c_958)
    refine g_goto (tgt := 1151) d_law_963 (by decide) ?_
    exact g_weak (lv := [(0, .ref (b)), (1, .ref (a)), (2, .ref (m)), (3, .ref (w)), (4, .int (nI (4 * k))), (5, .int (c)), (6, .int (v))]) (by simp) (by simp) (kk _ hJ)
set_option maxHeartbeats 400000 in
set_option maxRecDepth 100000 in
theorem law_missing (hs : gScr E b L xs) (hk : 4 * k + 4 ≤ L) (hL : L ≤ 2048) (ha0 : ∃ fs, G.1 a = some (.inr (12, fs))) (hop : s_missing E D a m w G J) (kk : ∀ G2, J G2 → GT E Y_law (D + 1) G0 1151 [(0, .ref b), (1, .ref a), (2, .ref m), (3, .ref w), (4, .int (nI (4 * k)))] [] G2 lwQ) : GT E Y_law (D + 1) G0 966 [(0, .ref b), (1, .ref a), (2, .ref m), (3, .ref w), (4, .int (nI (4 * k)))] [] G lwQ := by
  obtain ⟨fs, ha⟩ := ha0
  unfold s_missing sD at hop
  have hi1 : (nI (4 * k) + 1).toInt = ((4 * k + 1 : Nat) : Int) := add_hi (nI_hi (by omega)) (by decide) (by omega)
  have hi2 : (nI (4 * k) + 2).toInt = ((4 * k + 2 : Nat) : Int) := add_hi (nI_hi (by omega)) (by decide) (by omega)
  have hi3 : (nI (4 * k) + 3).toInt = ((4 * k + 3 : Nat) : Int) := add_hi (nI_hi (by omega)) (by decide) (by omega)
  refine g_aload_n d_law_966 rfl ?_
  refine g_aload_n d_law_967 rfl ?_
  refine g_iload d_law_968 rfl ?_
  refine g_iconst (v := 1) d_law_970 (by decide) ?_
  refine g_iadd d_law_971 ?_
  refine g_sld hs hi1 (by omega) d_law_972 ?_
  refine c_V (as := [.int (xs (4 * k + 1))]) kv_Mill_missing ml_Law_124 rfl ha (hop (xs (4 * k + 1)) ) rfl (Nat.le_of_ble_eq_true rfl) rfl d_law_973 (fun v' G1 hq => ?_) (fun D' G1 hq => ?_)
  rotate_left
  · exact absurd hq.choose_spec.1 (by simp)
  obtain ⟨v, hv', ⟨fs1, hm1⟩, hM1⟩ := hq
  cases hv'
  show GT E Y_law (D + 1) G0 976 [(0, .ref (b)), (1, .ref (a)), (2, .ref (m)), (3, .ref (w)), (4, .int (nI (4 * k)))] [.int (v)] G1 lwQ
  refine g_aload_n d_law_976 rfl ?_
  refine g_aload_n d_law_977 rfl ?_
  refine g_iload d_law_978 rfl ?_
  refine g_iconst (v := 1) d_law_980 (by decide) ?_
  refine g_iadd d_law_981 ?_
  refine g_sld hs hi1 (by omega) d_law_982 ?_
  refine c_V (as := [.int (xs (4 * k + 1))]) kv_Model_missing ml_Law_127 rfl hm1 hM1 rfl (Nat.le_of_ble_eq_true rfl) rfl d_law_983 (fun v' G2 hq => ?_) (fun D' G2 hq => ?_)
  rotate_left
  · exact absurd hq.1 (by simp)
  obtain ⟨hv', hJ⟩ := hq
  cases hv'
  show GT E Y_law (D + 1) G0 986 [(0, .ref (b)), (1, .ref (a)), (2, .ref (m)), (3, .ref (w)), (4, .int (nI (4 * k)))] [.int (v), .int (v)] G2 lwQ
  refine g_icmp_eq (tgt := 1151) d_law_986 (by decide) (fun c_986 => ?_) (fun c_986 => absurd rfl c_986)
  exact g_weak (lv := [(0, .ref (b)), (1, .ref (a)), (2, .ref (m)), (3, .ref (w)), (4, .int (nI (4 * k)))]) (by simp) (by simp) (kk _ hJ)
set_option maxHeartbeats 400000 in
set_option maxRecDepth 100000 in
theorem law_unused (hs : gScr E b L xs) (hk : 4 * k + 4 ≤ L) (hL : L ≤ 2048) (ha0 : ∃ fs, G.1 a = some (.inr (12, fs))) (hop : s_unused E D a m w G J) (kk : ∀ G2, J G2 → GT E Y_law (D + 1) G0 1151 [(0, .ref b), (1, .ref a), (2, .ref m), (3, .ref w), (4, .int (nI (4 * k)))] [] G2 lwQ) : GT E Y_law (D + 1) G0 991 [(0, .ref b), (1, .ref a), (2, .ref m), (3, .ref w), (4, .int (nI (4 * k)))] [] G lwQ := by
  obtain ⟨fs, ha⟩ := ha0
  unfold s_unused sD at hop
  have hi1 : (nI (4 * k) + 1).toInt = ((4 * k + 1 : Nat) : Int) := add_hi (nI_hi (by omega)) (by decide) (by omega)
  have hi2 : (nI (4 * k) + 2).toInt = ((4 * k + 2 : Nat) : Int) := add_hi (nI_hi (by omega)) (by decide) (by omega)
  have hi3 : (nI (4 * k) + 3).toInt = ((4 * k + 3 : Nat) : Int) := add_hi (nI_hi (by omega)) (by decide) (by omega)
  refine g_aload_n d_law_991 rfl ?_
  refine g_aload_n d_law_992 rfl ?_
  refine g_iload d_law_993 rfl ?_
  refine g_iconst (v := 1) d_law_995 (by decide) ?_
  refine g_iadd d_law_996 ?_
  refine g_sld hs hi1 (by omega) d_law_997 ?_
  refine c_V (as := [.int (xs (4 * k + 1))]) kv_Mill_unused ml_Law_128 rfl ha (hop (xs (4 * k + 1)) ) rfl (Nat.le_of_ble_eq_true rfl) rfl d_law_998 (fun v' G1 hq => ?_) (fun D' G1 hq => ?_)
  rotate_left
  · exact absurd hq.choose_spec.1 (by simp)
  obtain ⟨v, hv', ⟨fs1, hm1⟩, hM1⟩ := hq
  cases hv'
  show GT E Y_law (D + 1) G0 1001 [(0, .ref (b)), (1, .ref (a)), (2, .ref (m)), (3, .ref (w)), (4, .int (nI (4 * k)))] [.int (v)] G1 lwQ
  refine g_aload_n d_law_1001 rfl ?_
  refine g_aload_n d_law_1002 rfl ?_
  refine g_iload d_law_1003 rfl ?_
  refine g_iconst (v := 1) d_law_1005 (by decide) ?_
  refine g_iadd d_law_1006 ?_
  refine g_sld hs hi1 (by omega) d_law_1007 ?_
  refine c_V (as := [.int (xs (4 * k + 1))]) kv_Model_unused ml_Law_131 rfl hm1 hM1 rfl (Nat.le_of_ble_eq_true rfl) rfl d_law_1008 (fun v' G2 hq => ?_) (fun D' G2 hq => ?_)
  rotate_left
  · exact absurd hq.1 (by simp)
  obtain ⟨hv', hJ⟩ := hq
  cases hv'
  show GT E Y_law (D + 1) G0 1011 [(0, .ref (b)), (1, .ref (a)), (2, .ref (m)), (3, .ref (w)), (4, .int (nI (4 * k)))] [.int (v), .int (v)] G2 lwQ
  refine g_icmp_eq (tgt := 1151) d_law_1011 (by decide) (fun c_1011 => ?_) (fun c_1011 => absurd rfl c_1011)
  exact g_weak (lv := [(0, .ref (b)), (1, .ref (a)), (2, .ref (m)), (3, .ref (w)), (4, .int (nI (4 * k)))]) (by simp) (by simp) (kk _ hJ)
set_option maxHeartbeats 400000 in
set_option maxRecDepth 100000 in
theorem law_question (hs : gScr E b L xs) (hk : 4 * k + 4 ≤ L) (hL : L ≤ 2048) (ha0 : ∃ fs, G.1 a = some (.inr (12, fs))) (hop : s_question E D a m w G J) (kk : ∀ G2, J G2 → GT E Y_law (D + 1) G0 1151 [(0, .ref b), (1, .ref a), (2, .ref m), (3, .ref w), (4, .int (nI (4 * k)))] [] G2 lwQ) : GT E Y_law (D + 1) G0 1016 [(0, .ref b), (1, .ref a), (2, .ref m), (3, .ref w), (4, .int (nI (4 * k)))] [] G lwQ := by
  obtain ⟨fs, ha⟩ := ha0
  unfold s_question sA at hop
  have hi1 : (nI (4 * k) + 1).toInt = ((4 * k + 1 : Nat) : Int) := add_hi (nI_hi (by omega)) (by decide) (by omega)
  have hi2 : (nI (4 * k) + 2).toInt = ((4 * k + 2 : Nat) : Int) := add_hi (nI_hi (by omega)) (by decide) (by omega)
  have hi3 : (nI (4 * k) + 3).toInt = ((4 * k + 3 : Nat) : Int) := add_hi (nI_hi (by omega)) (by decide) (by omega)
  refine g_aload_n d_law_1016 rfl ?_
  refine g_aload_n d_law_1017 rfl ?_
  refine g_iload d_law_1018 rfl ?_
  refine g_iconst (v := 1) d_law_1020 (by decide) ?_
  refine g_iadd d_law_1021 ?_
  refine g_sld hs hi1 (by omega) d_law_1022 ?_
  refine g_aload_n d_law_1023 rfl ?_
  refine g_iload d_law_1024 rfl ?_
  refine g_iconst (v := 2) d_law_1026 (by decide) ?_
  refine g_iadd d_law_1027 ?_
  refine g_sld hs hi2 (by omega) d_law_1028 ?_
  refine g_aload_n d_law_1029 rfl ?_
  refine c_S (as := [.ref (a), .int (xs (4 * k + 1)), .int (xs (4 * k + 2)), .ref (w)]) ks_Law_question ml_Law_132 (hop (xs (4 * k + 1)) (xs (4 * k + 2)) ) rfl (Nat.le_of_ble_eq_true rfl) rfl d_law_1030 (fun v' G1 hq => ?_) (fun D' G1 hq => ?_)
  rotate_left
  · exact absurd hq.choose_spec.1 (by simp)
  obtain ⟨c, hv', ⟨fs1, hm1⟩, hM1⟩ := hq
  cases hv'
  show GT E Y_law (D + 1) G0 1033 [(0, .ref (b)), (1, .ref (a)), (2, .ref (m)), (3, .ref (w)), (4, .int (nI (4 * k)))] [.int (c)] G1 lwQ
  refine g_istore d_law_1033 (by decide) rfl ?_
  refine g_aload_n d_law_1035 rfl ?_
  refine g_aload_n d_law_1036 rfl ?_
  refine g_iload d_law_1037 rfl ?_
  refine g_iconst (v := 1) d_law_1039 (by decide) ?_
  refine g_iadd d_law_1040 ?_
  refine g_sld hs hi1 (by omega) d_law_1041 ?_
  refine g_aload_n d_law_1042 rfl ?_
  refine g_iload d_law_1043 rfl ?_
  refine g_iconst (v := 2) d_law_1045 (by decide) ?_
  refine g_iadd d_law_1046 ?_
  refine g_sld hs hi2 (by omega) d_law_1047 ?_
  refine c_V (as := [.int (xs (4 * k + 1)), .int (xs (4 * k + 2))]) kv_Model_question ml_Law_134 rfl hm1 hM1 rfl (Nat.le_of_ble_eq_true rfl) rfl d_law_1048 (fun v' G2 hq => ?_) (fun D' G2 hq => ?_)
  rotate_left
  · exact absurd hq.choose_spec.1 (by simp)
  obtain ⟨v, hv', ⟨⟨fs2, hm2⟩, ht2, fo, ho2, hf2⟩, hJ⟩ := hq
  cases hv'
  show GT E Y_law (D + 1) G0 1051 [(0, .ref (b)), (1, .ref (a)), (2, .ref (m)), (3, .ref (w)), (4, .int (nI (4 * k))), (5, .int (c))] [.int (v)] G2 lwQ
  refine g_istore d_law_1051 (by decide) rfl ?_
  refine g_aload_n d_law_1053 rfl ?_
  refine c_Vr (as := []) kv_Model_thrown ml_Law_74 rfl hm2 ht2 rfl (Nat.le_of_ble_eq_true rfl) rfl d_law_1054 rfl ?_
  refine g_iload d_law_1057 rfl ?_
  refine g_icmp_eq (tgt := 1064) d_law_1059 (by decide) (fun c_1059 => ?_) (fun c_1059 => absurd rfl c_1059)
  refine g_iload d_law_1064 rfl ?_
  refine g_if_ne (tgt := 1081) d_law_1066 (by decide) (fun c_1066 => ?_) (fun c_1066 => ?_)
  · refine g_goto (tgt := 1151) d_law_1081 (by decide) ?_
    exact g_weak (lv := [(0, .ref (b)), (1, .ref (a)), (2, .ref (m)), (3, .ref (w)), (4, .int (nI (4 * k))), (5, .int (c)), (6, .int (v))]) (by simp) (by simp) (kk _ hJ)
  · refine g_aload_n d_law_1069 rfl ?_
    refine g_iconst (v := 0) d_law_1070 (by decide) ?_
    refine g_lald (j := 0) ho2 (by decide) (by decide) d_law_1071 ?_
    refine g_iload d_law_1072 rfl ?_
    refine g_i2l d_law_1074 rfl ?_
    refine g_lcmp d_law_1075 ?_
    have hz : fo 0 = v.toInt64 := hf2 (by first | exact c_1066 | exact Classical.byContradiction (fun h => c_1066 h))
    refine g_if_eq (tgt := 1081) d_law_1076 (by decide) (fun c_1076 => ?_) (fun c_1076 => absurd (show lg_cmp (fo 0) (v.toInt64) = 0 by rw [hz, lg_cmp_self]) c_1076)
    refine g_goto (tgt := 1151) d_law_1081 (by decide) ?_
    exact g_weak (lv := [(0, .ref (b)), (1, .ref (a)), (2, .ref (m)), (3, .ref (w)), (4, .int (nI (4 * k))), (5, .int (c)), (6, .int (v))]) (by simp) (by simp) (kk _ hJ)
set_option maxHeartbeats 400000 in
set_option maxRecDepth 100000 in
theorem law_about (hs : gScr E b L xs) (hk : 4 * k + 4 ≤ L) (hL : L ≤ 2048) (ha0 : ∃ fs, G.1 a = some (.inr (12, fs))) (hop : s_about E D a m w G J) (kk : ∀ G2, J G2 → GT E Y_law (D + 1) G0 1151 [(0, .ref b), (1, .ref a), (2, .ref m), (3, .ref w), (4, .int (nI (4 * k)))] [] G2 lwQ) : GT E Y_law (D + 1) G0 1084 [(0, .ref b), (1, .ref a), (2, .ref m), (3, .ref w), (4, .int (nI (4 * k)))] [] G lwQ := by
  obtain ⟨fs, ha⟩ := ha0
  unfold s_about sA at hop
  have hi1 : (nI (4 * k) + 1).toInt = ((4 * k + 1 : Nat) : Int) := add_hi (nI_hi (by omega)) (by decide) (by omega)
  have hi2 : (nI (4 * k) + 2).toInt = ((4 * k + 2 : Nat) : Int) := add_hi (nI_hi (by omega)) (by decide) (by omega)
  have hi3 : (nI (4 * k) + 3).toInt = ((4 * k + 3 : Nat) : Int) := add_hi (nI_hi (by omega)) (by decide) (by omega)
  refine g_aload_n d_law_1084 rfl ?_
  refine g_aload_n d_law_1085 rfl ?_
  refine g_iload d_law_1086 rfl ?_
  refine g_iconst (v := 1) d_law_1088 (by decide) ?_
  refine g_iadd d_law_1089 ?_
  refine g_sld hs hi1 (by omega) d_law_1090 ?_
  refine g_aload_n d_law_1091 rfl ?_
  refine c_S (as := [.ref (a), .int (xs (4 * k + 1)), .ref (w)]) ks_Law_about ml_Law_135 (hop (xs (4 * k + 1)) ) rfl (Nat.le_of_ble_eq_true rfl) rfl d_law_1092 (fun v' G1 hq => ?_) (fun D' G1 hq => ?_)
  rotate_left
  · exact absurd hq.choose_spec.1 (by simp)
  obtain ⟨c, hv', ⟨fs1, hm1⟩, hM1⟩ := hq
  cases hv'
  show GT E Y_law (D + 1) G0 1095 [(0, .ref (b)), (1, .ref (a)), (2, .ref (m)), (3, .ref (w)), (4, .int (nI (4 * k)))] [.int (c)] G1 lwQ
  refine g_istore d_law_1095 (by decide) rfl ?_
  refine g_aload_n d_law_1097 rfl ?_
  refine g_aload_n d_law_1098 rfl ?_
  refine g_iload d_law_1099 rfl ?_
  refine g_iconst (v := 1) d_law_1101 (by decide) ?_
  refine g_iadd d_law_1102 ?_
  refine g_sld hs hi1 (by omega) d_law_1103 ?_
  refine c_V (as := [.int (xs (4 * k + 1))]) kv_Model_about ml_Law_137 rfl hm1 hM1 rfl (Nat.le_of_ble_eq_true rfl) rfl d_law_1104 (fun v' G2 hq => ?_) (fun D' G2 hq => ?_)
  rotate_left
  · exact absurd hq.choose_spec.1 (by simp)
  obtain ⟨v, hv', ⟨⟨fs2, hm2⟩, ht2, fo, ho2, hf2⟩, hJ⟩ := hq
  cases hv'
  show GT E Y_law (D + 1) G0 1107 [(0, .ref (b)), (1, .ref (a)), (2, .ref (m)), (3, .ref (w)), (4, .int (nI (4 * k))), (5, .int (c))] [.int (v)] G2 lwQ
  refine g_istore d_law_1107 (by decide) rfl ?_
  refine g_aload_n d_law_1109 rfl ?_
  refine c_Vr (as := []) kv_Model_thrown ml_Law_74 rfl hm2 ht2 rfl (Nat.le_of_ble_eq_true rfl) rfl d_law_1110 rfl ?_
  refine g_iload d_law_1113 rfl ?_
  refine g_icmp_eq (tgt := 1120) d_law_1115 (by decide) (fun c_1115 => ?_) (fun c_1115 => absurd rfl c_1115)
  refine g_iload d_law_1120 rfl ?_
  refine g_if_ne (tgt := 1137) d_law_1122 (by decide) (fun c_1122 => ?_) (fun c_1122 => ?_)
  · refine g_goto (tgt := 1151) d_law_1137 (by decide) ?_
    exact g_weak (lv := [(0, .ref (b)), (1, .ref (a)), (2, .ref (m)), (3, .ref (w)), (4, .int (nI (4 * k))), (5, .int (c)), (6, .int (v))]) (by simp) (by simp) (kk _ hJ)
  · refine g_aload_n d_law_1125 rfl ?_
    refine g_iconst (v := 0) d_law_1126 (by decide) ?_
    refine g_lald (j := 0) ho2 (by decide) (by decide) d_law_1127 ?_
    refine g_iload d_law_1128 rfl ?_
    refine g_i2l d_law_1130 rfl ?_
    refine g_lcmp d_law_1131 ?_
    have hz : fo 0 = v.toInt64 := hf2 (by first | exact c_1122 | exact Classical.byContradiction (fun h => c_1122 h))
    refine g_if_eq (tgt := 1137) d_law_1132 (by decide) (fun c_1132 => ?_) (fun c_1132 => absurd (show lg_cmp (fo 0) (v.toInt64) = 0 by rw [hz, lg_cmp_self]) c_1132)
    refine g_goto (tgt := 1151) d_law_1137 (by decide) ?_
    exact g_weak (lv := [(0, .ref (b)), (1, .ref (a)), (2, .ref (m)), (3, .ref (w)), (4, .int (nI (4 * k))), (5, .int (c)), (6, .int (v))]) (by simp) (by simp) (kk _ hJ)
set_option maxHeartbeats 400000 in
set_option maxRecDepth 100000 in
theorem law_clear (hs : gScr E b L xs) (hk : 4 * k + 4 ≤ L) (hL : L ≤ 2048) (ha0 : ∃ fs, G.1 a = some (.inr (12, fs))) (hop : s_clear E D a m w G J) (kk : ∀ G2, J G2 → GT E Y_law (D + 1) G0 1151 [(0, .ref b), (1, .ref a), (2, .ref m), (3, .ref w), (4, .int (nI (4 * k)))] [] G2 lwQ) : GT E Y_law (D + 1) G0 1140 [(0, .ref b), (1, .ref a), (2, .ref m), (3, .ref w), (4, .int (nI (4 * k)))] [] G lwQ := by
  obtain ⟨fs, ha⟩ := ha0
  unfold s_clear sC at hop
  refine g_aload_n d_law_1140 rfl ?_
  refine c_V (as := []) kv_Mill_clear ml_Law_138 rfl ha hop rfl (Nat.le_of_ble_eq_true rfl) rfl d_law_1141 (fun v' G1 hq => ?_) (fun D' G1 hq => ?_)
  rotate_left
  · exact absurd hq.1 (by simp)
  obtain ⟨hv', ⟨fs1, hm1⟩, hM1⟩ := hq
  cases hv'
  show GT E Y_law (D + 1) G0 1144 [(0, .ref (b)), (1, .ref (a)), (2, .ref (m)), (3, .ref (w)), (4, .int (nI (4 * k)))] [] G1 lwQ
  refine g_aload_n d_law_1144 rfl ?_
  refine c_V (as := []) kv_Model_clear ml_Law_141 rfl hm1 hM1 rfl (Nat.le_of_ble_eq_true rfl) rfl d_law_1145 (fun v' G2 hq => ?_) (fun D' G2 hq => ?_)
  rotate_left
  · exact absurd hq.1 (by simp)
  obtain ⟨hv', hJ⟩ := hq
  cases hv'
  show GT E Y_law (D + 1) G0 1148 [(0, .ref (b)), (1, .ref (a)), (2, .ref (m)), (3, .ref (w)), (4, .int (nI (4 * k)))] [] G2 lwQ
  refine g_goto (tgt := 1151) d_law_1148 (by decide) ?_
  exact g_weak (lv := [(0, .ref (b)), (1, .ref (a)), (2, .ref (m)), (3, .ref (w)), (4, .int (nI (4 * k)))]) (by simp) (by simp) (kk _ hJ)
end LC
