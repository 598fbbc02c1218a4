/-! The reference: its object and arrays; its constructor -/
/-- the reference's fields: numbers v by their places, arrays from n on -/
def mFs (n : Nat) (v : Nat → Int32) : List Value := [.int (v 0), .ref (n), .ref (n + 1), .ref (n + 2), .int (v 4), .int (v 5), .ref (n + 3), .ref (n + 4), .ref (n + 5), .ref (n + 6), .ref (n + 7), .ref (n + 8), .ref (n + 9), .ref (n + 10), .int (v 14), .int (v 15), .int (v 16), .ref (n + 11), .ref (n + 12), .int (v 19), .int (v 20), .int (v 21), .int (v 22), .int (v 23), .int (v 24), .int (v 25), .int (v 26), .ref (n + 13), .ref (n + 14), .ref (n + 15), .ref (n + 16), .ref (n + 17), .ref (n + 18), .ref (n + 19), .int (v 34), .ref (n + 20), .ref (n + 21), .ref (n + 22), .ref (n + 23), .ref (n + 24), .ref (n + 25), .ref (n + 26), .ref (n + 27), .ref (n + 28), .ref (n + 29), .ref (n + 30), .int (v 46), .int (v 47), .ref (n + 31), .ref (n + 32), .ref (n + 33), .ref (n + 34), .ref (n + 35), .ref (n + 36), .int (v 54), .ref (n + 37), .ref (n + 38), .ref (n + 39), .int (v 58), .int (v 59)]
theorem d_Model_init_0 : decode Y_Model_init.2.1 0 = .ok (.aload_n 0, 1) := by decide +kernel
theorem d_Model_init_1 : decode Y_Model_init.2.1 1 = .ok (.invokespecial 1, 3) := by decide +kernel
theorem d_Model_init_4 : decode Y_Model_init.2.1 4 = .ok (.aload_n 0, 1) := by decide +kernel
theorem d_Model_init_5 : decode Y_Model_init.2.1 5 = .ok (.bipush 16, 2) := by decide +kernel
theorem d_Model_init_7 : decode Y_Model_init.2.1 7 = .ok (.newarray .int, 2) := by decide +kernel
theorem d_Model_init_9 : decode Y_Model_init.2.1 9 = .ok (.putfield 7, 3) := by decide +kernel
theorem d_Model_init_12 : decode Y_Model_init.2.1 12 = .ok (.aload_n 0, 1) := by decide +kernel
theorem d_Model_init_13 : decode Y_Model_init.2.1 13 = .ok (.sipush 128, 3) := by decide +kernel
theorem d_Model_init_16 : decode Y_Model_init.2.1 16 = .ok (.newarray .int, 2) := by decide +kernel
theorem d_Model_init_18 : decode Y_Model_init.2.1 18 = .ok (.putfield 13, 3) := by decide +kernel
theorem d_Model_init_21 : decode Y_Model_init.2.1 21 = .ok (.aload_n 0, 1) := by decide +kernel
theorem d_Model_init_22 : decode Y_Model_init.2.1 22 = .ok (.sipush 512, 3) := by decide +kernel
theorem d_Model_init_25 : decode Y_Model_init.2.1 25 = .ok (.newarray .int, 2) := by decide +kernel
theorem d_Model_init_27 : decode Y_Model_init.2.1 27 = .ok (.putfield 16, 3) := by decide +kernel
theorem d_Model_init_30 : decode Y_Model_init.2.1 30 = .ok (.aload_n 0, 1) := by decide +kernel
theorem d_Model_init_31 : decode Y_Model_init.2.1 31 = .ok (.sipush 700, 3) := by decide +kernel
theorem d_Model_init_34 : decode Y_Model_init.2.1 34 = .ok (.newarray .int, 2) := by decide +kernel
theorem d_Model_init_36 : decode Y_Model_init.2.1 36 = .ok (.putfield 19, 3) := by decide +kernel
theorem d_Model_init_39 : decode Y_Model_init.2.1 39 = .ok (.aload_n 0, 1) := by decide +kernel
theorem d_Model_init_40 : decode Y_Model_init.2.1 40 = .ok (.sipush 700, 3) := by decide +kernel
theorem d_Model_init_43 : decode Y_Model_init.2.1 43 = .ok (.newarray .int, 2) := by decide +kernel
theorem d_Model_init_45 : decode Y_Model_init.2.1 45 = .ok (.putfield 22, 3) := by decide +kernel
theorem d_Model_init_48 : decode Y_Model_init.2.1 48 = .ok (.aload_n 0, 1) := by decide +kernel
theorem d_Model_init_49 : decode Y_Model_init.2.1 49 = .ok (.sipush 700, 3) := by decide +kernel
theorem d_Model_init_52 : decode Y_Model_init.2.1 52 = .ok (.newarray .int, 2) := by decide +kernel
theorem d_Model_init_54 : decode Y_Model_init.2.1 54 = .ok (.putfield 25, 3) := by decide +kernel
theorem d_Model_init_57 : decode Y_Model_init.2.1 57 = .ok (.aload_n 0, 1) := by decide +kernel
theorem d_Model_init_58 : decode Y_Model_init.2.1 58 = .ok (.sipush 2800, 3) := by decide +kernel
theorem d_Model_init_61 : decode Y_Model_init.2.1 61 = .ok (.newarray .int, 2) := by decide +kernel
theorem d_Model_init_63 : decode Y_Model_init.2.1 63 = .ok (.putfield 28, 3) := by decide +kernel
theorem d_Model_init_66 : decode Y_Model_init.2.1 66 = .ok (.aload_n 0, 1) := by decide +kernel
theorem d_Model_init_67 : decode Y_Model_init.2.1 67 = .ok (.sipush 700, 3) := by decide +kernel
theorem d_Model_init_70 : decode Y_Model_init.2.1 70 = .ok (.newarray .int, 2) := by decide +kernel
theorem d_Model_init_72 : decode Y_Model_init.2.1 72 = .ok (.putfield 31, 3) := by decide +kernel
theorem d_Model_init_75 : decode Y_Model_init.2.1 75 = .ok (.aload_n 0, 1) := by decide +kernel
theorem d_Model_init_76 : decode Y_Model_init.2.1 76 = .ok (.sipush 700, 3) := by decide +kernel
theorem d_Model_init_79 : decode Y_Model_init.2.1 79 = .ok (.newarray .int, 2) := by decide +kernel
theorem d_Model_init_81 : decode Y_Model_init.2.1 81 = .ok (.putfield 34, 3) := by decide +kernel
theorem d_Model_init_84 : decode Y_Model_init.2.1 84 = .ok (.aload_n 0, 1) := by decide +kernel
theorem d_Model_init_85 : decode Y_Model_init.2.1 85 = .ok (.bipush 40, 2) := by decide +kernel
theorem d_Model_init_87 : decode Y_Model_init.2.1 87 = .ok (.newarray .int, 2) := by decide +kernel
theorem d_Model_init_89 : decode Y_Model_init.2.1 89 = .ok (.putfield 37, 3) := by decide +kernel
theorem d_Model_init_92 : decode Y_Model_init.2.1 92 = .ok (.aload_n 0, 1) := by decide +kernel
theorem d_Model_init_93 : decode Y_Model_init.2.1 93 = .ok (.bipush 40, 2) := by decide +kernel
theorem d_Model_init_95 : decode Y_Model_init.2.1 95 = .ok (.newarray .int, 2) := by decide +kernel
theorem d_Model_init_97 : decode Y_Model_init.2.1 97 = .ok (.putfield 40, 3) := by decide +kernel
theorem d_Model_init_100 : decode Y_Model_init.2.1 100 = .ok (.aload_n 0, 1) := by decide +kernel
theorem d_Model_init_101 : decode Y_Model_init.2.1 101 = .ok (.bipush 20, 2) := by decide +kernel
theorem d_Model_init_103 : decode Y_Model_init.2.1 103 = .ok (.newarray .int, 2) := by decide +kernel
theorem d_Model_init_105 : decode Y_Model_init.2.1 105 = .ok (.putfield 43, 3) := by decide +kernel
theorem d_Model_init_108 : decode Y_Model_init.2.1 108 = .ok (.aload_n 0, 1) := by decide +kernel
theorem d_Model_init_109 : decode Y_Model_init.2.1 109 = .ok (.bipush 20, 2) := by decide +kernel
theorem d_Model_init_111 : decode Y_Model_init.2.1 111 = .ok (.newarray .boolean, 2) := by decide +kernel
theorem d_Model_init_113 : decode Y_Model_init.2.1 113 = .ok (.putfield 46, 3) := by decide +kernel
theorem d_Model_init_116 : decode Y_Model_init.2.1 116 = .ok (.aload_n 0, 1) := by decide +kernel
theorem d_Model_init_117 : decode Y_Model_init.2.1 117 = .ok (.sipush 9000, 3) := by decide +kernel
theorem d_Model_init_120 : decode Y_Model_init.2.1 120 = .ok (.newarray .int, 2) := by decide +kernel
theorem d_Model_init_122 : decode Y_Model_init.2.1 122 = .ok (.putfield 50, 3) := by decide +kernel
theorem d_Model_init_125 : decode Y_Model_init.2.1 125 = .ok (.aload_n 0, 1) := by decide +kernel
theorem d_Model_init_126 : decode Y_Model_init.2.1 126 = .ok (.sipush 1001, 3) := by decide +kernel
theorem d_Model_init_129 : decode Y_Model_init.2.1 129 = .ok (.newarray .int, 2) := by decide +kernel
theorem d_Model_init_131 : decode Y_Model_init.2.1 131 = .ok (.putfield 53, 3) := by decide +kernel
theorem d_Model_init_134 : decode Y_Model_init.2.1 134 = .ok (.aload_n 0, 1) := by decide +kernel
theorem d_Model_init_135 : decode Y_Model_init.2.1 135 = .ok (.sipush 1001, 3) := by decide +kernel
theorem d_Model_init_138 : decode Y_Model_init.2.1 138 = .ok (.newarray .int, 2) := by decide +kernel
theorem d_Model_init_140 : decode Y_Model_init.2.1 140 = .ok (.putfield 56, 3) := by decide +kernel
theorem d_Model_init_143 : decode Y_Model_init.2.1 143 = .ok (.aload_n 0, 1) := by decide +kernel
theorem d_Model_init_144 : decode Y_Model_init.2.1 144 = .ok (.sipush 1001, 3) := by decide +kernel
theorem d_Model_init_147 : decode Y_Model_init.2.1 147 = .ok (.newarray .int, 2) := by decide +kernel
theorem d_Model_init_149 : decode Y_Model_init.2.1 149 = .ok (.putfield 59, 3) := by decide +kernel
theorem d_Model_init_152 : decode Y_Model_init.2.1 152 = .ok (.aload_n 0, 1) := by decide +kernel
theorem d_Model_init_153 : decode Y_Model_init.2.1 153 = .ok (.sipush 1001, 3) := by decide +kernel
theorem d_Model_init_156 : decode Y_Model_init.2.1 156 = .ok (.newarray .int, 2) := by decide +kernel
theorem d_Model_init_158 : decode Y_Model_init.2.1 158 = .ok (.putfield 62, 3) := by decide +kernel
theorem d_Model_init_161 : decode Y_Model_init.2.1 161 = .ok (.aload_n 0, 1) := by decide +kernel
theorem d_Model_init_162 : decode Y_Model_init.2.1 162 = .ok (.sipush 1001, 3) := by decide +kernel
theorem d_Model_init_165 : decode Y_Model_init.2.1 165 = .ok (.newarray .int, 2) := by decide +kernel
theorem d_Model_init_167 : decode Y_Model_init.2.1 167 = .ok (.putfield 65, 3) := by decide +kernel
theorem d_Model_init_170 : decode Y_Model_init.2.1 170 = .ok (.aload_n 0, 1) := by decide +kernel
theorem d_Model_init_171 : decode Y_Model_init.2.1 171 = .ok (.sipush 1001, 3) := by decide +kernel
theorem d_Model_init_174 : decode Y_Model_init.2.1 174 = .ok (.newarray .int, 2) := by decide +kernel
theorem d_Model_init_176 : decode Y_Model_init.2.1 176 = .ok (.putfield 68, 3) := by decide +kernel
theorem d_Model_init_179 : decode Y_Model_init.2.1 179 = .ok (.aload_n 0, 1) := by decide +kernel
theorem d_Model_init_180 : decode Y_Model_init.2.1 180 = .ok (.sipush 2200, 3) := by decide +kernel
theorem d_Model_init_183 : decode Y_Model_init.2.1 183 = .ok (.newarray .int, 2) := by decide +kernel
theorem d_Model_init_185 : decode Y_Model_init.2.1 185 = .ok (.putfield 71, 3) := by decide +kernel
theorem d_Model_init_188 : decode Y_Model_init.2.1 188 = .ok (.aload_n 0, 1) := by decide +kernel
theorem d_Model_init_189 : decode Y_Model_init.2.1 189 = .ok (.sipush 2200, 3) := by decide +kernel
theorem d_Model_init_192 : decode Y_Model_init.2.1 192 = .ok (.newarray .int, 2) := by decide +kernel
theorem d_Model_init_194 : decode Y_Model_init.2.1 194 = .ok (.putfield 74, 3) := by decide +kernel
theorem d_Model_init_197 : decode Y_Model_init.2.1 197 = .ok (.aload_n 0, 1) := by decide +kernel
theorem d_Model_init_198 : decode Y_Model_init.2.1 198 = .ok (.ldc 77, 2) := by decide +kernel
theorem d_Model_init_200 : decode Y_Model_init.2.1 200 = .ok (.newarray .int, 2) := by decide +kernel
theorem d_Model_init_202 : decode Y_Model_init.2.1 202 = .ok (.putfield 78, 3) := by decide +kernel
theorem d_Model_init_205 : decode Y_Model_init.2.1 205 = .ok (.aload_n 0, 1) := by decide +kernel
theorem d_Model_init_206 : decode Y_Model_init.2.1 206 = .ok (.sipush 2200, 3) := by decide +kernel
theorem d_Model_init_209 : decode Y_Model_init.2.1 209 = .ok (.newarray .int, 2) := by decide +kernel
theorem d_Model_init_211 : decode Y_Model_init.2.1 211 = .ok (.putfield 81, 3) := by decide +kernel
theorem d_Model_init_214 : decode Y_Model_init.2.1 214 = .ok (.aload_n 0, 1) := by decide +kernel
theorem d_Model_init_215 : decode Y_Model_init.2.1 215 = .ok (.sipush 2200, 3) := by decide +kernel
theorem d_Model_init_218 : decode Y_Model_init.2.1 218 = .ok (.newarray .int, 2) := by decide +kernel
theorem d_Model_init_220 : decode Y_Model_init.2.1 220 = .ok (.putfield 84, 3) := by decide +kernel
theorem d_Model_init_223 : decode Y_Model_init.2.1 223 = .ok (.aload_n 0, 1) := by decide +kernel
theorem d_Model_init_224 : decode Y_Model_init.2.1 224 = .ok (.sipush 2200, 3) := by decide +kernel
theorem d_Model_init_227 : decode Y_Model_init.2.1 227 = .ok (.newarray .int, 2) := by decide +kernel
theorem d_Model_init_229 : decode Y_Model_init.2.1 229 = .ok (.putfield 87, 3) := by decide +kernel
theorem d_Model_init_232 : decode Y_Model_init.2.1 232 = .ok (.aload_n 0, 1) := by decide +kernel
theorem d_Model_init_233 : decode Y_Model_init.2.1 233 = .ok (.ldc 90, 2) := by decide +kernel
theorem d_Model_init_235 : decode Y_Model_init.2.1 235 = .ok (.newarray .int, 2) := by decide +kernel
theorem d_Model_init_237 : decode Y_Model_init.2.1 237 = .ok (.putfield 91, 3) := by decide +kernel
theorem d_Model_init_240 : decode Y_Model_init.2.1 240 = .ok (.aload_n 0, 1) := by decide +kernel
theorem d_Model_init_241 : decode Y_Model_init.2.1 241 = .ok (.ldc 90, 2) := by decide +kernel
theorem d_Model_init_243 : decode Y_Model_init.2.1 243 = .ok (.newarray .int, 2) := by decide +kernel
theorem d_Model_init_245 : decode Y_Model_init.2.1 245 = .ok (.putfield 94, 3) := by decide +kernel
theorem d_Model_init_248 : decode Y_Model_init.2.1 248 = .ok (.aload_n 0, 1) := by decide +kernel
theorem d_Model_init_249 : decode Y_Model_init.2.1 249 = .ok (.ldc 97, 2) := by decide +kernel
theorem d_Model_init_251 : decode Y_Model_init.2.1 251 = .ok (.newarray .int, 2) := by decide +kernel
theorem d_Model_init_253 : decode Y_Model_init.2.1 253 = .ok (.putfield 98, 3) := by decide +kernel
theorem d_Model_init_256 : decode Y_Model_init.2.1 256 = .ok (.aload_n 0, 1) := by decide +kernel
theorem d_Model_init_257 : decode Y_Model_init.2.1 257 = .ok (.ldc 97, 2) := by decide +kernel
theorem d_Model_init_259 : decode Y_Model_init.2.1 259 = .ok (.newarray .int, 2) := by decide +kernel
theorem d_Model_init_261 : decode Y_Model_init.2.1 261 = .ok (.putfield 101, 3) := by decide +kernel
theorem d_Model_init_264 : decode Y_Model_init.2.1 264 = .ok (.aload_n 0, 1) := by decide +kernel
theorem d_Model_init_265 : decode Y_Model_init.2.1 265 = .ok (.ldc 104, 2) := by decide +kernel
theorem d_Model_init_267 : decode Y_Model_init.2.1 267 = .ok (.newarray .int, 2) := by decide +kernel
theorem d_Model_init_269 : decode Y_Model_init.2.1 269 = .ok (.putfield 105, 3) := by decide +kernel
theorem d_Model_init_272 : decode Y_Model_init.2.1 272 = .ok (.aload_n 0, 1) := by decide +kernel
theorem d_Model_init_273 : decode Y_Model_init.2.1 273 = .ok (.sipush 520, 3) := by decide +kernel
theorem d_Model_init_276 : decode Y_Model_init.2.1 276 = .ok (.newarray .int, 2) := by decide +kernel
theorem d_Model_init_278 : decode Y_Model_init.2.1 278 = .ok (.putfield 108, 3) := by decide +kernel
theorem d_Model_init_281 : decode Y_Model_init.2.1 281 = .ok (.aload_n 0, 1) := by decide +kernel
theorem d_Model_init_282 : decode Y_Model_init.2.1 282 = .ok (.sipush 520, 3) := by decide +kernel
theorem d_Model_init_285 : decode Y_Model_init.2.1 285 = .ok (.newarray .int, 2) := by decide +kernel
theorem d_Model_init_287 : decode Y_Model_init.2.1 287 = .ok (.putfield 111, 3) := by decide +kernel
theorem d_Model_init_290 : decode Y_Model_init.2.1 290 = .ok (.aload_n 0, 1) := by decide +kernel
theorem d_Model_init_291 : decode Y_Model_init.2.1 291 = .ok (.sipush 520, 3) := by decide +kernel
theorem d_Model_init_294 : decode Y_Model_init.2.1 294 = .ok (.newarray .int, 2) := by decide +kernel
theorem d_Model_init_296 : decode Y_Model_init.2.1 296 = .ok (.putfield 114, 3) := by decide +kernel
theorem d_Model_init_299 : decode Y_Model_init.2.1 299 = .ok (.aload_n 0, 1) := by decide +kernel
theorem d_Model_init_300 : decode Y_Model_init.2.1 300 = .ok (.sipush 520, 3) := by decide +kernel
theorem d_Model_init_303 : decode Y_Model_init.2.1 303 = .ok (.newarray .int, 2) := by decide +kernel
theorem d_Model_init_305 : decode Y_Model_init.2.1 305 = .ok (.putfield 117, 3) := by decide +kernel
theorem d_Model_init_308 : decode Y_Model_init.2.1 308 = .ok (.aload_n 0, 1) := by decide +kernel
theorem d_Model_init_309 : decode Y_Model_init.2.1 309 = .ok (.sipush 520, 3) := by decide +kernel
theorem d_Model_init_312 : decode Y_Model_init.2.1 312 = .ok (.newarray .int, 2) := by decide +kernel
theorem d_Model_init_314 : decode Y_Model_init.2.1 314 = .ok (.putfield 120, 3) := by decide +kernel
theorem d_Model_init_317 : decode Y_Model_init.2.1 317 = .ok (.aload_n 0, 1) := by decide +kernel
theorem d_Model_init_318 : decode Y_Model_init.2.1 318 = .ok (.sipush 2400, 3) := by decide +kernel
theorem d_Model_init_321 : decode Y_Model_init.2.1 321 = .ok (.newarray .int, 2) := by decide +kernel
theorem d_Model_init_323 : decode Y_Model_init.2.1 323 = .ok (.putfield 123, 3) := by decide +kernel
theorem d_Model_init_326 : decode Y_Model_init.2.1 326 = .ok (.aload_n 0, 1) := by decide +kernel
theorem d_Model_init_327 : decode Y_Model_init.2.1 327 = .ok (.sipush 520, 3) := by decide +kernel
theorem d_Model_init_330 : decode Y_Model_init.2.1 330 = .ok (.newarray .int, 2) := by decide +kernel
theorem d_Model_init_332 : decode Y_Model_init.2.1 332 = .ok (.putfield 126, 3) := by decide +kernel
theorem d_Model_init_335 : decode Y_Model_init.2.1 335 = .ok (.aload_n 0, 1) := by decide +kernel
theorem d_Model_init_336 : decode Y_Model_init.2.1 336 = .ok (.bipush 8, 2) := by decide +kernel
theorem d_Model_init_338 : decode Y_Model_init.2.1 338 = .ok (.newarray .int, 2) := by decide +kernel
theorem d_Model_init_340 : decode Y_Model_init.2.1 340 = .ok (.putfield 129, 3) := by decide +kernel
theorem d_Model_init_343 : decode Y_Model_init.2.1 343 = .ok (.aload_n 0, 1) := by decide +kernel
theorem d_Model_init_344 : decode Y_Model_init.2.1 344 = .ok (.sipush 130, 3) := by decide +kernel
theorem d_Model_init_347 : decode Y_Model_init.2.1 347 = .ok (.newarray .int, 2) := by decide +kernel
theorem d_Model_init_349 : decode Y_Model_init.2.1 349 = .ok (.putfield 132, 3) := by decide +kernel
theorem d_Model_init_352 : decode Y_Model_init.2.1 352 = .ok (.aload_n 0, 1) := by decide +kernel
theorem d_Model_init_353 : decode Y_Model_init.2.1 353 = .ok (.invokevirtual 135, 3) := by decide +kernel
theorem d_Model_init_356 : decode Y_Model_init.2.1 356 = .ok (.return_, 1) := by decide +kernel
theorem d_Model_forget_0 : decode Y_Model_forget.2.1 0 = .ok (.iconst 0, 1) := by decide +kernel
theorem d_Model_forget_1 : decode Y_Model_forget.2.1 1 = .ok (.istore_n 1, 1) := by decide +kernel
theorem d_Model_forget_2 : decode Y_Model_forget.2.1 2 = .ok (.iload_n 1, 1) := by decide +kernel
theorem d_Model_forget_3 : decode Y_Model_forget.2.1 3 = .ok (.bipush 8, 2) := by decide +kernel
theorem d_Model_forget_5 : decode Y_Model_forget.2.1 5 = .ok (.if_icmp .ge 16, 3) := by decide +kernel
theorem d_Model_forget_8 : decode Y_Model_forget.2.1 8 = .ok (.aload_n 0, 1) := by decide +kernel
theorem d_Model_forget_9 : decode Y_Model_forget.2.1 9 = .ok (.getfield 129, 3) := by decide +kernel
theorem d_Model_forget_12 : decode Y_Model_forget.2.1 12 = .ok (.iload_n 1, 1) := by decide +kernel
theorem d_Model_forget_13 : decode Y_Model_forget.2.1 13 = .ok (.iconst (-1), 1) := by decide +kernel
theorem d_Model_forget_14 : decode Y_Model_forget.2.1 14 = .ok (.iastore, 1) := by decide +kernel
theorem d_Model_forget_15 : decode Y_Model_forget.2.1 15 = .ok (.iinc 1 1, 3) := by decide +kernel
theorem d_Model_forget_18 : decode Y_Model_forget.2.1 18 = .ok (.goto (-16), 3) := by decide +kernel
theorem d_Model_forget_21 : decode Y_Model_forget.2.1 21 = .ok (.aload_n 0, 1) := by decide +kernel
theorem d_Model_forget_22 : decode Y_Model_forget.2.1 22 = .ok (.iconst 0, 1) := by decide +kernel
theorem d_Model_forget_23 : decode Y_Model_forget.2.1 23 = .ok (.putfield 142, 3) := by decide +kernel
theorem d_Model_forget_26 : decode Y_Model_forget.2.1 26 = .ok (.return_, 1) := by decide +kernel
theorem d_Model_thrown_0 : decode Y_Model_thrown.2.1 0 = .ok (.aload_n 0, 1) := by decide +kernel
theorem d_Model_thrown_1 : decode Y_Model_thrown.2.1 1 = .ok (.getfield 138, 3) := by decide +kernel
theorem d_Model_thrown_4 : decode Y_Model_thrown.2.1 4 = .ok (.ireturn, 1) := by decide +kernel
theorem d_Model_refuses_0 : decode Y_Model_refuses.2.1 0 = .ok (.aload_n 0, 1) := by decide +kernel
theorem d_Model_refuses_1 : decode Y_Model_refuses.2.1 1 = .ok (.iload_n 1, 1) := by decide +kernel
theorem d_Model_refuses_2 : decode Y_Model_refuses.2.1 2 = .ok (.putfield 138, 3) := by decide +kernel
theorem d_Model_refuses_5 : decode Y_Model_refuses.2.1 5 = .ok (.iload_n 1, 1) := by decide +kernel
theorem d_Model_refuses_6 : decode Y_Model_refuses.2.1 6 = .ok (.ifCond .le 7, 3) := by decide +kernel
theorem d_Model_refuses_9 : decode Y_Model_refuses.2.1 9 = .ok (.iconst 1, 1) := by decide +kernel
theorem d_Model_refuses_10 : decode Y_Model_refuses.2.1 10 = .ok (.goto 4, 3) := by decide +kernel
theorem d_Model_refuses_13 : decode Y_Model_refuses.2.1 13 = .ok (.iconst 0, 1) := by decide +kernel
theorem d_Model_refuses_14 : decode Y_Model_refuses.2.1 14 = .ok (.ireturn, 1) := by decide +kernel
def mSz : Nat → Nat := fun j => match j with
  | 0 => 16
  | 1 => 128
  | 2 => 512
  | 3 => 700
  | 4 => 700
  | 5 => 700
  | 6 => 2800
  | 7 => 700
  | 8 => 700
  | 9 => 40
  | 10 => 40
  | 11 => 20
  | 12 => 20
  | 13 => 9000
  | 14 => 1001
  | 15 => 1001
  | 16 => 1001
  | 17 => 1001
  | 18 => 1001
  | 19 => 1001
  | 20 => 2200
  | 21 => 2200
  | 22 => 70400
  | 23 => 2200
  | 24 => 2200
  | 25 => 2200
  | 26 => 41640
  | 27 => 41640
  | 28 => 1082640
  | 29 => 1082640
  | 30 => 333120
  | 31 => 520
  | 32 => 520
  | 33 => 520
  | 34 => 520
  | 35 => 520
  | 36 => 2400
  | 37 => 520
  | 38 => 8
  | 39 => 130
  | _ => 0
/-- array j of the reference with the contents f -/
def mArr (E : gE) (j : Nat) (f : Nat → Int32) : va_E := if j = 12 then gAZ E (mSz j) f else gAI E (mSz j) f
theorem h2x {x s p q r : Nat} (h : x = s + p + q) (e : p + q = r) : x = s + r := by subst e; rw [h, Nat.add_assoc]
theorem mArr_I {E : gE} {j N : Nat} {f : Nat → Int32} (h : j ≠ 12) (hN : mSz j = N) : mArr E j f = gAI E N f := by subst hN; exact if_neg h
theorem gArr_new {n c sz : Nat} {G : gS} {F : Nat → va_E} {x : va_E} (h : ∀ j, j < c → G.1 (n + j) = some (F j)) (hz : G.2.1 = n + c) (hx : F c = x) : ∀ j, j < c + 1 → (gNew G x sz).1 (n + j) = some (F j) := by
  intro j hj
  simp only [gNew, va_up]
  by_cases e : j = c
  · subst e
    rw [hz, if_pos rfl, hx]
  · rw [if_neg (by omega)]
    exact h j (by omega)
theorem gArr_up {n c a : Nat} {G : gS} {F : Nat → va_E} {x : va_E} (h : ∀ j, j < c → G.1 (n + j) = some (F j)) (ha : a < n) : ∀ j, j < c → (gUp G a x).1 (n + j) = some (F j) := by
  intro j hj
  simp only [gUp, va_up]
  rw [if_neg (by omega)]
  exact h j hj
section MD
variable {E : gE} {d : Nat} {G : gS} {a n : Nat} {v : Nat → Int32}
set_option maxHeartbeats 4000000 in
set_option maxRecDepth 100000 in
theorem m_Model_thrown (ha : G.1 a = some (.inr (13, mFs n v))) : GM E Y_Model_thrown d [.ref a] G (rIs (some (.int (v 0))) G) := by
  refine g_entry (by decide) (by simp [Value.category]) (Nat.le_of_ble_eq_true rfl) ?_
  refine g_aload_n d_Model_thrown_0 rfl ?_
  refine g_getf kc_Model fl_Model_138 (by decide) ha rfl d_Model_thrown_1 ?_
  refine g_iret rfl d_Model_thrown_4 ?_
  first | (simp only [rIs, b32, not_true_eq_false, not_false_eq_true, and_true, true_and, and_false, false_and, and_self, if_true, if_false, ite_true, ite_false]; done) | (simp [rIs, b32]; done) | (simp_all [rIs, b32]; done)
set_option maxHeartbeats 4000000 in
set_option maxRecDepth 100000 in
theorem m_Model_refuses (ha : G.1 a = some (.inr (13, mFs n v))) (c : Int32) : GM E Y_Model_refuses d [.ref a, .int c] G (rIs (some (.int (b32 (¬ c ≤ 0)))) (gUp G a (.inr (13, mFs n (upd v 0 c))))) := by
  refine g_entry (by decide) (by simp [Value.category]) (Nat.le_of_ble_eq_true rfl) ?_
  refine g_aload_n d_Model_refuses_0 rfl ?_
  refine g_iload_n d_Model_refuses_1 rfl ?_
  refine g_putf (fs' := mFs n (upd v 0 (c))) kc_Model fl_Model_138 (by decide) ha rfl rfl rfl (Nat.le_of_ble_eq_true rfl) rfl d_Model_refuses_2 ?_
  have ha_u1 := gUp_at (x := (.inr (13, mFs n (upd v 0 (c))))) ha
  refine g_iload_n d_Model_refuses_5 rfl ?_
  refine g_if_le (tgt := 13) d_Model_refuses_6 (by decide) (fun c_6 => ?_) (fun c_6 => ?_)
  · refine g_iconst (v := 0) d_Model_refuses_13 (by decide) ?_
    refine g_zret rfl rfl d_Model_refuses_14 ?_
    first | (simp only [rIs, b32, c_6, not_true_eq_false, not_false_eq_true, and_true, true_and, and_false, false_and, and_self, if_true, if_false, ite_true, ite_false]; done) | (simp [rIs, b32, c_6]; done) | (simp_all [rIs, b32]; done)
  · refine g_iconst (v := 1) d_Model_refuses_9 (by decide) ?_
    refine g_goto (tgt := 14) d_Model_refuses_10 (by decide) ?_
    refine g_zret rfl rfl d_Model_refuses_14 ?_
    first | (simp only [rIs, b32, c_6, not_true_eq_false, not_false_eq_true, and_true, true_and, and_false, false_and, and_self, if_true, if_false, ite_true, ite_false]; done) | (simp [rIs, b32, c_6]; done) | (simp_all [rIs, b32]; done)
set_option maxHeartbeats 4000000 in
set_option maxRecDepth 100000 in
theorem m_Model_forget_loop {f : Nat → Int32} (ha : G.1 a = some (.inr (13, mFs n v))) (hb : G.1 (n + 38) = some (gAI E 8 f)) (hne : a ≠ n + 38) : ∀ (m k : Nat), 9 ≤ k + m → k ≤ 8 → GT E Y_Model_forget d G 2 [(0, .ref a), (1, .int (nI k))] [] (gUp G (n + 38) (gAI E 8 (fillF f k (-1)))) (rIs none (gUp (gUp G (n + 38) (gAI E 8 (fillF f 8 (-1)))) a (.inr (13, mFs n (upd v 54 0))))) := by
  intro m
  induction m with
  | zero => intro k h1 h2; omega
  | succ m ih =>
    intro k hm hkN
    have h2 := gUp_at (x := gAI E 8 (fillF f k (-1))) hb
    have h1 := gUp_ne (x := gAI E 8 (fillF f k (-1))) ha (Ne.symm hne)
    refine g_iload_n d_Model_forget_2 rfl ?_
    refine g_bipush (v := 8) d_Model_forget_3 (by decide) ?_
    refine g_icmp_ge (tgt := 21) d_Model_forget_5 (by decide) (fun c_5 => ?_) (fun c_5 => ?_)
    · refine g_aload_n d_Model_forget_21 rfl ?_
      refine g_iconst (v := 0) d_Model_forget_22 (by decide) ?_
      refine g_putf (fs' := mFs n (upd v 54 (0))) kc_Model fl_Model_142 (by decide) h1 rfl rfl rfl (Nat.le_of_ble_eq_true rfl) rfl d_Model_forget_23 ?_
      have h2_u1 := gUp_ne (x := (.inr (13, mFs n (upd v 54 (0))))) h2 hne
      have h1_u1 := gUp_at (x := (.inr (13, mFs n (upd v 54 (0))))) h1
      refine g_vret rfl d_Model_forget_26 ?_
      have e : k = 8 := by have := (le_hi (nI_hi (n := 8) (by decide)) (nI_hi (n := k) (by omega))).mp c_5; omega
      subst e
      exact ⟨rfl, rfl⟩
    · have hk : k < 8 := Nat.not_le.mp (fun q => c_5 ((le_hi (nI_hi (n := 8) (by decide)) (nI_hi (n := k) (by omega))).mpr q))
      refine g_aload_n d_Model_forget_8 rfl ?_
      refine g_getf kc_Model fl_Model_129 (by decide) h1 rfl d_Model_forget_9 ?_
      refine g_iload_n d_Model_forget_12 rfl ?_
      refine g_iconst (v := (-1)) d_Model_forget_13 (by decide) ?_
      refine g_iast h2 (nI_hi (by omega)) hk d_Model_forget_14 ?_
      have h1_u2 := gUp_ne (x := (gAI E 8 (upd (fillF f k (-1)) (k) ((-1))))) h1 (Ne.symm hne)
      have h2_u2 := gUp_at (x := (gAI E 8 (upd (fillF f k (-1)) (k) ((-1))))) h2
      refine g_iinc (v := nI k + 1) d_Model_forget_15 rfl (by rfl) (by decide) rfl ?_
      refine g_goto (tgt := 2) d_Model_forget_18 (by decide) ?_
      rw [gUp_up, fillF_s]
      rw [nI_1]
      exact ih (k + 1) (by omega) (by omega)
set_option maxHeartbeats 4000000 in
set_option maxRecDepth 100000 in
theorem m_Model_forget {f : Nat → Int32} (ha : G.1 a = some (.inr (13, mFs n v))) (hb : G.1 (n + 38) = some (gAI E 8 f)) (hne : a ≠ n + 38) : GM E Y_Model_forget d [.ref a] G (rIs none (gUp (gUp G (n + 38) (gAI E 8 (fillF f 8 (-1)))) a (.inr (13, mFs n (upd v 54 0))))) := by
  refine g_entry (by decide) (by simp [Value.category]) (Nat.le_of_ble_eq_true rfl) ?_
  refine g_iconst (v := 0) d_Model_forget_0 (by decide) ?_
  refine g_istore_n d_Model_forget_1 (by decide) rfl ?_
  have K := m_Model_forget_loop (d := d) ha hb hne 9 0 (by omega) (by omega)
  rw [fillF_0, gUp_self hb] at K
  exact K
theorem mc_put {Y : gY} {GG G0 G : gS} {Q : gO → gS → Prop} {pc index k b c s : Nat} {lv : List (Nat × Value)} {rest fs fs' : List Value} {F : Nat → va_E} (z : G.2.1 = n + c) (hs : G.2.2 = s) (hk : gKeep n a GG G) (hx : ∀ j, j < c → G.1 (n + j) = some (F j)) (ha : G.1 a = some (.inr (13, fs))) (hlt : a < n)
    (hf : gFld Y.1.cls index T_Model k) (hk2 : k < 60) (hfin : (T_Model k).2.2.2 = true) (hin : Y.1.name = "<init>") (hdecl : (T_Model k).1 = Y.1.cls) (hn : narrow (t_Model k) (.ref b) = .ref b) (hfit : fits (t_Model k) (.ref b) = true) (hlen : k < fs.length) (hset : fs.set k (.ref b) = fs') (hdg : decode Y.2.1 pc = .ok (.putfield index, 3))
    (kk : ∀ G' : gS, G'.2.1 = n + c → G'.2.2 = s → gKeep n a GG G' → (∀ j, j < c → G'.1 (n + j) = some (F j)) → G'.1 a = some (.inr (13, fs')) → GT E Y d G0 (pc + 3) lv rest G' Q) : GT E Y d G0 pc lv (.ref b :: .ref a :: rest) G Q := by
  refine g_putF kc_Model hf hk2 ha hfin hin hdecl hn hfit hlen hset hdg ?_
  exact kk _ z hs (hk.up (Or.inl rfl)) (gArr_up hx hlt) (gUp_at ha)
theorem mc_newI {Y : gY} {GG G0 G : gS} {Q : gO → gS → Prop} {pc c s sz : Nat} {i : Int32} {lv : List (Nat × Value)} {rest fs : List Value} {F : Nat → va_E} (z : G.2.1 = n + c) (hs : G.2.2 = s) (hk : gKeep n a GG G) (hx : ∀ j, j < c → G.1 (n + j) = some (F j)) (ha : G.1 a = some (.inr (13, fs))) (hlt : a < n) (hF : F c = gAI E sz (fun _ => 0)) (hi : i.toInt = (sz : Int)) (hb : sz * componentBytes .int ≤ 536870912) (hcl : n + c + 1 ≤ E.1.heap.size + room_1.cells) (hsl : s + sz ≤ room_1.slots) (hdg : decode Y.2.1 pc = .ok (.newarray .int, 2))
    (kk : ∀ G' : gS, G'.2.1 = n + (c + 1) → G'.2.2 = s + sz → gKeep n a GG G' → (∀ j, j < c + 1 → G'.1 (n + j) = some (F j)) → G'.1 a = some (.inr (13, fs)) → GT E Y d G0 (pc + 2) lv (.ref (n + c) :: rest) G' Q) : GT E Y d G0 pc lv (.int i :: rest) G Q := by
  refine g_newI (N := sz) wa_int hi hb (by omega) (by omega) hdg ?_
  have K := kk (gNew G (gAI E sz (fun _ => 0)) sz) (by show G.2.1 + 1 = _; omega) (by show G.2.2 + sz = _; omega) (hk.new (by omega)) (gArr_new hx z hF) (gNew_ne ha (by omega))
  rw [← z] at K
  exact K
theorem mc_newZ {Y : gY} {GG G0 G : gS} {Q : gO → gS → Prop} {pc c s sz : Nat} {i : Int32} {lv : List (Nat × Value)} {rest fs : List Value} {F : Nat → va_E} (z : G.2.1 = n + c) (hs : G.2.2 = s) (hk : gKeep n a GG G) (hx : ∀ j, j < c → G.1 (n + j) = some (F j)) (ha : G.1 a = some (.inr (13, fs))) (hlt : a < n) (hF : F c = gAZ E sz (fun _ => 0)) (hi : i.toInt = (sz : Int)) (hb : sz * componentBytes .boolean ≤ 536870912) (hcl : n + c + 1 ≤ E.1.heap.size + room_1.cells) (hsl : s + sz ≤ room_1.slots) (hdg : decode Y.2.1 pc = .ok (.newarray .boolean, 2))
    (kk : ∀ G' : gS, G'.2.1 = n + (c + 1) → G'.2.2 = s + sz → gKeep n a GG G' → (∀ j, j < c + 1 → G'.1 (n + j) = some (F j)) → G'.1 a = some (.inr (13, fs)) → GT E Y d G0 (pc + 2) lv (.ref (n + c) :: rest) G' Q) : GT E Y d G0 pc lv (.int i :: rest) G Q := by
  refine g_newZ (N := sz) wa_boolean hi hb (by omega) (by omega) hdg ?_
  have K := kk (gNew G (gAZ E sz (fun _ => 0)) sz) (by show G.2.1 + 1 = _; omega) (by show G.2.2 + sz = _; omega) (hk.new (by omega)) (gArr_new hx z hF) (gNew_ne ha (by omega))
  rw [← z] at K
  exact K
set_option maxHeartbeats 4000000 in
set_option maxRecDepth 100000 in
theorem m_Model_init_40 {sl : Nat} {GG : gS} (z : G.2.1 = n + 40) (hs : G.2.2 = sl + 2690820) (kp : gKeep n a GG G) (x : ∀ j, j < 40 → G.1 (n + j) = some (mArr E j (fun _ => 0))) (ha : G.1 a = some (.inr (13, [.int (0), .ref (n + 0), .ref (n + 1), .ref (n + 2), .int (0), .int (0), .ref (n + 3), .ref (n + 4), .ref (n + 5), .ref (n + 6), .ref (n + 7), .ref (n + 8), .ref (n + 9), .ref (n + 10), .int (0), .int (0), .int (0), .ref (n + 11), .ref (n + 12), .int (0), .int (0), .int (0), .int (0), .int (0), .int (0), .int (0), .int (0), .ref (n + 13), .ref (n + 14), .ref (n + 15), .ref (n + 16), .ref (n + 17), .ref (n + 18), .ref (n + 19), .int (0), .ref (n + 20), .ref (n + 21), .ref (n + 22), .ref (n + 23), .ref (n + 24), .ref (n + 25), .ref (n + 26), .ref (n + 27), .ref (n + 28), .ref (n + 29), .ref (n + 30), .int (0), .int (0), .ref (n + 31), .ref (n + 32), .ref (n + 33), .ref (n + 34), .ref (n + 35), .ref (n + 36), .int (0), .ref (n + 37), .ref (n + 38), .ref (n + 39), .int (0), .int (0)]))) (hlt : a < n) (hc : n + 40 ≤ E.1.heap.size + room_1.cells) (hr : sl + 2690820 ≤ room_1.slots) : GT E Y_Model_init (d + 1) GG 352 [(0, .ref a)] [] G (rPost none (fun G' => G'.2.1 = n + 40 ∧ G'.2.2 = sl + 2690820 ∧ gKeep n a GG G' ∧ G'.1 a = some (.inr (13, mFs n (upd (fun _ => 0) 54 0))) ∧ G'.1 (n + 38) = some (gAI E 8 (fillF (fun _ => 0) 8 (-1))) ∧ ∀ j, j < 40 → j ≠ 38 → G'.1 (n + j) = some (mArr E j (fun _ => 0)))) := by
  have z0 := z
  have hs0 := hs
  have ha0 := ha
  have kp0 := kp
  have x0 := x
  refine g_aload_n d_Model_init_352 rfl ?_
  have ha : G.1 a = some (.inr (13, mFs n (fun _ => 0))) := ha0
  refine c_Vr (as := []) kv_Model_forget ml_Model_135 rfl ha (m_Model_forget (f := fun _ => 0) ha (x0 38 (by decide)) (by omega)) rfl (Nat.le_of_ble_eq_true rfl) rfl d_Model_init_353 rfl ?_
  refine g_vret rfl d_Model_init_356 ?_
  refine ⟨rfl, z0, by show G.2.2 = _; omega, (kp0.up (b := n + 38) (Or.inr (by omega))).up (b := a) (Or.inl rfl), gUp_at (gUp_ne ha (by omega)), gUp_ne (gUp_at (x0 38 (by decide))) (by omega), fun j h1 h2 => ?_⟩
  exact gUp_ne (gUp_ne (x0 j h1) (by omega)) (by omega)
set_option maxHeartbeats 4000000 in
set_option maxRecDepth 100000 in
theorem m_Model_init_32 {sl : Nat} {GG : gS} (z : G.2.1 = n + 32) (hs : G.2.2 = sl + 2685682) (kp : gKeep n a GG G) (x : ∀ j, j < 32 → G.1 (n + j) = some (mArr E j (fun _ => 0))) (ha : G.1 a = some (.inr (13, [.int (0), .ref (n + 0), .ref (n + 1), .ref (n + 2), .int (0), .int (0), .ref (n + 3), .ref (n + 4), .ref (n + 5), .ref (n + 6), .ref (n + 7), .ref (n + 8), .ref (n + 9), .ref (n + 10), .int (0), .int (0), .int (0), .ref (n + 11), .ref (n + 12), .int (0), .int (0), .int (0), .int (0), .int (0), .int (0), .int (0), .int (0), .ref (n + 13), .ref (n + 14), .ref (n + 15), .ref (n + 16), .ref (n + 17), .ref (n + 18), .ref (n + 19), .int (0), .ref (n + 20), .ref (n + 21), .ref (n + 22), .ref (n + 23), .ref (n + 24), .ref (n + 25), .ref (n + 26), .ref (n + 27), .ref (n + 28), .ref (n + 29), .ref (n + 30), .int (0), .int (0), .ref (n + 31), .null, .null, .null, .null, .null, .int (0), .null, .null, .null, .int (0), .int (0)]))) (hlt : a < n) (hc : n + 40 ≤ E.1.heap.size + room_1.cells) (hr : sl + 2690820 ≤ room_1.slots) : GT E Y_Model_init (d + 1) GG 281 [(0, .ref a)] [] G (rPost none (fun G' => G'.2.1 = n + 40 ∧ G'.2.2 = sl + 2690820 ∧ gKeep n a GG G' ∧ G'.1 a = some (.inr (13, mFs n (upd (fun _ => 0) 54 0))) ∧ G'.1 (n + 38) = some (gAI E 8 (fillF (fun _ => 0) 8 (-1))) ∧ ∀ j, j < 40 → j ≠ 38 → G'.1 (n + j) = some (mArr E j (fun _ => 0)))) := by
  have z0 := z
  have hs0 := hs
  have ha0 := ha
  have kp0 := kp
  have x0 := x
  refine g_aload_n d_Model_init_281 rfl ?_
  refine g_sipush (v := 520) d_Model_init_282 (by decide +kernel) ?_
  refine mc_newI (sz := 520) (c := 32) (F := fun j => mArr E j (fun _ => 0)) z0 hs0 kp0 x0 ha0 hlt (mArr_I (by decide) rfl) (by decide +kernel) (show 520 * 4 ≤ 536870912 by decide) (by omega) (by omega) d_Model_init_285 (fun G1 z1 hs1 kp1 x1 ha1 => ?_)
  clear z0 hs0 kp0 x0 ha0
  replace hs1 := h2x (r := 2686202) hs1 rfl
  refine mc_put (k := 49) (c := 33) (F := fun j => mArr E j (fun _ => 0)) (fs' := [.int (0), .ref (n + 0), .ref (n + 1), .ref (n + 2), .int (0), .int (0), .ref (n + 3), .ref (n + 4), .ref (n + 5), .ref (n + 6), .ref (n + 7), .ref (n + 8), .ref (n + 9), .ref (n + 10), .int (0), .int (0), .int (0), .ref (n + 11), .ref (n + 12), .int (0), .int (0), .int (0), .int (0), .int (0), .int (0), .int (0), .int (0), .ref (n + 13), .ref (n + 14), .ref (n + 15), .ref (n + 16), .ref (n + 17), .ref (n + 18), .ref (n + 19), .int (0), .ref (n + 20), .ref (n + 21), .ref (n + 22), .ref (n + 23), .ref (n + 24), .ref (n + 25), .ref (n + 26), .ref (n + 27), .ref (n + 28), .ref (n + 29), .ref (n + 30), .int (0), .int (0), .ref (n + 31), .ref (n + 32), .null, .null, .null, .null, .int (0), .null, .null, .null, .int (0), .int (0)]) z1 hs1 kp1 x1 ha1 hlt fl_Model_111 (by decide) rfl rfl rfl rfl rfl (Nat.le_of_ble_eq_true rfl) rfl d_Model_init_287 (fun G2 z2 hs2 kp2 x2 ha2 => ?_)
  clear z1 hs1 kp1 x1 ha1
  refine g_aload_n d_Model_init_290 rfl ?_
  refine g_sipush (v := 520) d_Model_init_291 (by decide +kernel) ?_
  refine mc_newI (sz := 520) (c := 33) (F := fun j => mArr E j (fun _ => 0)) z2 hs2 kp2 x2 ha2 hlt (mArr_I (by decide) rfl) (by decide +kernel) (show 520 * 4 ≤ 536870912 by decide) (by omega) (by omega) d_Model_init_294 (fun G3 z3 hs3 kp3 x3 ha3 => ?_)
  clear z2 hs2 kp2 x2 ha2
  replace hs3 := h2x (r := 2686722) hs3 rfl
  refine mc_put (k := 50) (c := 34) (F := fun j => mArr E j (fun _ => 0)) (fs' := [.int (0), .ref (n + 0), .ref (n + 1), .ref (n + 2), .int (0), .int (0), .ref (n + 3), .ref (n + 4), .ref (n + 5), .ref (n + 6), .ref (n + 7), .ref (n + 8), .ref (n + 9), .ref (n + 10), .int (0), .int (0), .int (0), .ref (n + 11), .ref (n + 12), .int (0), .int (0), .int (0), .int (0), .int (0), .int (0), .int (0), .int (0), .ref (n + 13), .ref (n + 14), .ref (n + 15), .ref (n + 16), .ref (n + 17), .ref (n + 18), .ref (n + 19), .int (0), .ref (n + 20), .ref (n + 21), .ref (n + 22), .ref (n + 23), .ref (n + 24), .ref (n + 25), .ref (n + 26), .ref (n + 27), .ref (n + 28), .ref (n + 29), .ref (n + 30), .int (0), .int (0), .ref (n + 31), .ref (n + 32), .ref (n + 33), .null, .null, .null, .int (0), .null, .null, .null, .int (0), .int (0)]) z3 hs3 kp3 x3 ha3 hlt fl_Model_114 (by decide) rfl rfl rfl rfl rfl (Nat.le_of_ble_eq_true rfl) rfl d_Model_init_296 (fun G4 z4 hs4 kp4 x4 ha4 => ?_)
  clear z3 hs3 kp3 x3 ha3
  refine g_aload_n d_Model_init_299 rfl ?_
  refine g_sipush (v := 520) d_Model_init_300 (by decide +kernel) ?_
  refine mc_newI (sz := 520) (c := 34) (F := fun j => mArr E j (fun _ => 0)) z4 hs4 kp4 x4 ha4 hlt (mArr_I (by decide) rfl) (by decide +kernel) (show 520 * 4 ≤ 536870912 by decide) (by omega) (by omega) d_Model_init_303 (fun G5 z5 hs5 kp5 x5 ha5 => ?_)
  clear z4 hs4 kp4 x4 ha4
  replace hs5 := h2x (r := 2687242) hs5 rfl
  refine mc_put (k := 51) (c := 35) (F := fun j => mArr E j (fun _ => 0)) (fs' := [.int (0), .ref (n + 0), .ref (n + 1), .ref (n + 2), .int (0), .int (0), .ref (n + 3), .ref (n + 4), .ref (n + 5), .ref (n + 6), .ref (n + 7), .ref (n + 8), .ref (n + 9), .ref (n + 10), .int (0), .int (0), .int (0), .ref (n + 11), .ref (n + 12), .int (0), .int (0), .int (0), .int (0), .int (0), .int (0), .int (0), .int (0), .ref (n + 13), .ref (n + 14), .ref (n + 15), .ref (n + 16), .ref (n + 17), .ref (n + 18), .ref (n + 19), .int (0), .ref (n + 20), .ref (n + 21), .ref (n + 22), .ref (n + 23), .ref (n + 24), .ref (n + 25), .ref (n + 26), .ref (n + 27), .ref (n + 28), .ref (n + 29), .ref (n + 30), .int (0), .int (0), .ref (n + 31), .ref (n + 32), .ref (n + 33), .ref (n + 34), .null, .null, .int (0), .null, .null, .null, .int (0), .int (0)]) z5 hs5 kp5 x5 ha5 hlt fl_Model_117 (by decide) rfl rfl rfl rfl rfl (Nat.le_of_ble_eq_true rfl) rfl d_Model_init_305 (fun G6 z6 hs6 kp6 x6 ha6 => ?_)
  clear z5 hs5 kp5 x5 ha5
  refine g_aload_n d_Model_init_308 rfl ?_
  refine g_sipush (v := 520) d_Model_init_309 (by decide +kernel) ?_
  refine mc_newI (sz := 520) (c := 35) (F := fun j => mArr E j (fun _ => 0)) z6 hs6 kp6 x6 ha6 hlt (mArr_I (by decide) rfl) (by decide +kernel) (show 520 * 4 ≤ 536870912 by decide) (by omega) (by omega) d_Model_init_312 (fun G7 z7 hs7 kp7 x7 ha7 => ?_)
  clear z6 hs6 kp6 x6 ha6
  replace hs7 := h2x (r := 2687762) hs7 rfl
  refine mc_put (k := 52) (c := 36) (F := fun j => mArr E j (fun _ => 0)) (fs' := [.int (0), .ref (n + 0), .ref (n + 1), .ref (n + 2), .int (0), .int (0), .ref (n + 3), .ref (n + 4), .ref (n + 5), .ref (n + 6), .ref (n + 7), .ref (n + 8), .ref (n + 9), .ref (n + 10), .int (0), .int (0), .int (0), .ref (n + 11), .ref (n + 12), .int (0), .int (0), .int (0), .int (0), .int (0), .int (0), .int (0), .int (0), .ref (n + 13), .ref (n + 14), .ref (n + 15), .ref (n + 16), .ref (n + 17), .ref (n + 18), .ref (n + 19), .int (0), .ref (n + 20), .ref (n + 21), .ref (n + 22), .ref (n + 23), .ref (n + 24), .ref (n + 25), .ref (n + 26), .ref (n + 27), .ref (n + 28), .ref (n + 29), .ref (n + 30), .int (0), .int (0), .ref (n + 31), .ref (n + 32), .ref (n + 33), .ref (n + 34), .ref (n + 35), .null, .int (0), .null, .null, .null, .int (0), .int (0)]) z7 hs7 kp7 x7 ha7 hlt fl_Model_120 (by decide) rfl rfl rfl rfl rfl (Nat.le_of_ble_eq_true rfl) rfl d_Model_init_314 (fun G8 z8 hs8 kp8 x8 ha8 => ?_)
  clear z7 hs7 kp7 x7 ha7
  refine g_aload_n d_Model_init_317 rfl ?_
  refine g_sipush (v := 2400) d_Model_init_318 (by decide +kernel) ?_
  refine mc_newI (sz := 2400) (c := 36) (F := fun j => mArr E j (fun _ => 0)) z8 hs8 kp8 x8 ha8 hlt (mArr_I (by decide) rfl) (by decide +kernel) (show 2400 * 4 ≤ 536870912 by decide) (by omega) (by omega) d_Model_init_321 (fun G9 z9 hs9 kp9 x9 ha9 => ?_)
  clear z8 hs8 kp8 x8 ha8
  replace hs9 := h2x (r := 2690162) hs9 rfl
  refine mc_put (k := 53) (c := 37) (F := fun j => mArr E j (fun _ => 0)) (fs' := [.int (0), .ref (n + 0), .ref (n + 1), .ref (n + 2), .int (0), .int (0), .ref (n + 3), .ref (n + 4), .ref (n + 5), .ref (n + 6), .ref (n + 7), .ref (n + 8), .ref (n + 9), .ref (n + 10), .int (0), .int (0), .int (0), .ref (n + 11), .ref (n + 12), .int (0), .int (0), .int (0), .int (0), .int (0), .int (0), .int (0), .int (0), .ref (n + 13), .ref (n + 14), .ref (n + 15), .ref (n + 16), .ref (n + 17), .ref (n + 18), .ref (n + 19), .int (0), .ref (n + 20), .ref (n + 21), .ref (n + 22), .ref (n + 23), .ref (n + 24), .ref (n + 25), .ref (n + 26), .ref (n + 27), .ref (n + 28), .ref (n + 29), .ref (n + 30), .int (0), .int (0), .ref (n + 31), .ref (n + 32), .ref (n + 33), .ref (n + 34), .ref (n + 35), .ref (n + 36), .int (0), .null, .null, .null, .int (0), .int (0)]) z9 hs9 kp9 x9 ha9 hlt fl_Model_123 (by decide) rfl rfl rfl rfl rfl (Nat.le_of_ble_eq_true rfl) rfl d_Model_init_323 (fun G10 z10 hs10 kp10 x10 ha10 => ?_)
  clear z9 hs9 kp9 x9 ha9
  refine g_aload_n d_Model_init_326 rfl ?_
  refine g_sipush (v := 520) d_Model_init_327 (by decide +kernel) ?_
  refine mc_newI (sz := 520) (c := 37) (F := fun j => mArr E j (fun _ => 0)) z10 hs10 kp10 x10 ha10 hlt (mArr_I (by decide) rfl) (by decide +kernel) (show 520 * 4 ≤ 536870912 by decide) (by omega) (by omega) d_Model_init_330 (fun G11 z11 hs11 kp11 x11 ha11 => ?_)
  clear z10 hs10 kp10 x10 ha10
  replace hs11 := h2x (r := 2690682) hs11 rfl
  refine mc_put (k := 55) (c := 38) (F := fun j => mArr E j (fun _ => 0)) (fs' := [.int (0), .ref (n + 0), .ref (n + 1), .ref (n + 2), .int (0), .int (0), .ref (n + 3), .ref (n + 4), .ref (n + 5), .ref (n + 6), .ref (n + 7), .ref (n + 8), .ref (n + 9), .ref (n + 10), .int (0), .int (0), .int (0), .ref (n + 11), .ref (n + 12), .int (0), .int (0), .int (0), .int (0), .int (0), .int (0), .int (0), .int (0), .ref (n + 13), .ref (n + 14), .ref (n + 15), .ref (n + 16), .ref (n + 17), .ref (n + 18), .ref (n + 19), .int (0), .ref (n + 20), .ref (n + 21), .ref (n + 22), .ref (n + 23), .ref (n + 24), .ref (n + 25), .ref (n + 26), .ref (n + 27), .ref (n + 28), .ref (n + 29), .ref (n + 30), .int (0), .int (0), .ref (n + 31), .ref (n + 32), .ref (n + 33), .ref (n + 34), .ref (n + 35), .ref (n + 36), .int (0), .ref (n + 37), .null, .null, .int (0), .int (0)]) z11 hs11 kp11 x11 ha11 hlt fl_Model_126 (by decide) rfl rfl rfl rfl rfl (Nat.le_of_ble_eq_true rfl) rfl d_Model_init_332 (fun G12 z12 hs12 kp12 x12 ha12 => ?_)
  clear z11 hs11 kp11 x11 ha11
  refine g_aload_n d_Model_init_335 rfl ?_
  refine g_bipush (v := 8) d_Model_init_336 (by decide +kernel) ?_
  refine mc_newI (sz := 8) (c := 38) (F := fun j => mArr E j (fun _ => 0)) z12 hs12 kp12 x12 ha12 hlt (mArr_I (by decide) rfl) (by decide +kernel) (show 8 * 4 ≤ 536870912 by decide) (by omega) (by omega) d_Model_init_338 (fun G13 z13 hs13 kp13 x13 ha13 => ?_)
  clear z12 hs12 kp12 x12 ha12
  replace hs13 := h2x (r := 2690690) hs13 rfl
  refine mc_put (k := 56) (c := 39) (F := fun j => mArr E j (fun _ => 0)) (fs' := [.int (0), .ref (n + 0), .ref (n + 1), .ref (n + 2), .int (0), .int (0), .ref (n + 3), .ref (n + 4), .ref (n + 5), .ref (n + 6), .ref (n + 7), .ref (n + 8), .ref (n + 9), .ref (n + 10), .int (0), .int (0), .int (0), .ref (n + 11), .ref (n + 12), .int (0), .int (0), .int (0), .int (0), .int (0), .int (0), .int (0), .int (0), .ref (n + 13), .ref (n + 14), .ref (n + 15), .ref (n + 16), .ref (n + 17), .ref (n + 18), .ref (n + 19), .int (0), .ref (n + 20), .ref (n + 21), .ref (n + 22), .ref (n + 23), .ref (n + 24), .ref (n + 25), .ref (n + 26), .ref (n + 27), .ref (n + 28), .ref (n + 29), .ref (n + 30), .int (0), .int (0), .ref (n + 31), .ref (n + 32), .ref (n + 33), .ref (n + 34), .ref (n + 35), .ref (n + 36), .int (0), .ref (n + 37), .ref (n + 38), .null, .int (0), .int (0)]) z13 hs13 kp13 x13 ha13 hlt fl_Model_129 (by decide) rfl rfl rfl rfl rfl (Nat.le_of_ble_eq_true rfl) rfl d_Model_init_340 (fun G14 z14 hs14 kp14 x14 ha14 => ?_)
  clear z13 hs13 kp13 x13 ha13
  refine g_aload_n d_Model_init_343 rfl ?_
  refine g_sipush (v := 130) d_Model_init_344 (by decide +kernel) ?_
  refine mc_newI (sz := 130) (c := 39) (F := fun j => mArr E j (fun _ => 0)) z14 hs14 kp14 x14 ha14 hlt (mArr_I (by decide) rfl) (by decide +kernel) (show 130 * 4 ≤ 536870912 by decide) (by omega) (by omega) d_Model_init_347 (fun G15 z15 hs15 kp15 x15 ha15 => ?_)
  clear z14 hs14 kp14 x14 ha14
  replace hs15 := h2x (r := 2690820) hs15 rfl
  refine mc_put (k := 57) (c := 40) (F := fun j => mArr E j (fun _ => 0)) (fs' := [.int (0), .ref (n + 0), .ref (n + 1), .ref (n + 2), .int (0), .int (0), .ref (n + 3), .ref (n + 4), .ref (n + 5), .ref (n + 6), .ref (n + 7), .ref (n + 8), .ref (n + 9), .ref (n + 10), .int (0), .int (0), .int (0), .ref (n + 11), .ref (n + 12), .int (0), .int (0), .int (0), .int (0), .int (0), .int (0), .int (0), .int (0), .ref (n + 13), .ref (n + 14), .ref (n + 15), .ref (n + 16), .ref (n + 17), .ref (n + 18), .ref (n + 19), .int (0), .ref (n + 20), .ref (n + 21), .ref (n + 22), .ref (n + 23), .ref (n + 24), .ref (n + 25), .ref (n + 26), .ref (n + 27), .ref (n + 28), .ref (n + 29), .ref (n + 30), .int (0), .int (0), .ref (n + 31), .ref (n + 32), .ref (n + 33), .ref (n + 34), .ref (n + 35), .ref (n + 36), .int (0), .ref (n + 37), .ref (n + 38), .ref (n + 39), .int (0), .int (0)]) z15 hs15 kp15 x15 ha15 hlt fl_Model_132 (by decide) rfl rfl rfl rfl rfl (Nat.le_of_ble_eq_true rfl) rfl d_Model_init_349 (fun G16 z16 hs16 kp16 x16 ha16 => ?_)
  clear z15 hs15 kp15 x15 ha15
  exact m_Model_init_40 z16 hs16 kp16 x16 ha16 hlt hc hr
set_option maxHeartbeats 4000000 in
set_option maxRecDepth 100000 in
theorem m_Model_init_24 {sl : Nat} {GG : gS} (z : G.2.1 = n + 24) (hs : G.2.2 = sl + 99082) (kp : gKeep n a GG G) (x : ∀ j, j < 24 → G.1 (n + j) = some (mArr E j (fun _ => 0))) (ha : G.1 a = some (.inr (13, [.int (0), .ref (n + 0), .ref (n + 1), .ref (n + 2), .int (0), .int (0), .ref (n + 3), .ref (n + 4), .ref (n + 5), .ref (n + 6), .ref (n + 7), .ref (n + 8), .ref (n + 9), .ref (n + 10), .int (0), .int (0), .int (0), .ref (n + 11), .ref (n + 12), .int (0), .int (0), .int (0), .int (0), .int (0), .int (0), .int (0), .int (0), .ref (n + 13), .ref (n + 14), .ref (n + 15), .ref (n + 16), .ref (n + 17), .ref (n + 18), .ref (n + 19), .int (0), .ref (n + 20), .ref (n + 21), .ref (n + 22), .ref (n + 23), .null, .null, .null, .null, .null, .null, .null, .int (0), .int (0), .null, .null, .null, .null, .null, .null, .int (0), .null, .null, .null, .int (0), .int (0)]))) (hlt : a < n) (hc : n + 40 ≤ E.1.heap.size + room_1.cells) (hr : sl + 2690820 ≤ room_1.slots) : GT E Y_Model_init (d + 1) GG 214 [(0, .ref a)] [] G (rPost none (fun G' => G'.2.1 = n + 40 ∧ G'.2.2 = sl + 2690820 ∧ gKeep n a GG G' ∧ G'.1 a = some (.inr (13, mFs n (upd (fun _ => 0) 54 0))) ∧ G'.1 (n + 38) = some (gAI E 8 (fillF (fun _ => 0) 8 (-1))) ∧ ∀ j, j < 40 → j ≠ 38 → G'.1 (n + j) = some (mArr E j (fun _ => 0)))) := by
  have z0 := z
  have hs0 := hs
  have ha0 := ha
  have kp0 := kp
  have x0 := x
  refine g_aload_n d_Model_init_214 rfl ?_
  refine g_sipush (v := 2200) d_Model_init_215 (by decide +kernel) ?_
  refine mc_newI (sz := 2200) (c := 24) (F := fun j => mArr E j (fun _ => 0)) z0 hs0 kp0 x0 ha0 hlt (mArr_I (by decide) rfl) (by decide +kernel) (show 2200 * 4 ≤ 536870912 by decide) (by omega) (by omega) d_Model_init_218 (fun G1 z1 hs1 kp1 x1 ha1 => ?_)
  clear z0 hs0 kp0 x0 ha0
  replace hs1 := h2x (r := 101282) hs1 rfl
  refine mc_put (k := 39) (c := 25) (F := fun j => mArr E j (fun _ => 0)) (fs' := [.int (0), .ref (n + 0), .ref (n + 1), .ref (n + 2), .int (0), .int (0), .ref (n + 3), .ref (n + 4), .ref (n + 5), .ref (n + 6), .ref (n + 7), .ref (n + 8), .ref (n + 9), .ref (n + 10), .int (0), .int (0), .int (0), .ref (n + 11), .ref (n + 12), .int (0), .int (0), .int (0), .int (0), .int (0), .int (0), .int (0), .int (0), .ref (n + 13), .ref (n + 14), .ref (n + 15), .ref (n + 16), .ref (n + 17), .ref (n + 18), .ref (n + 19), .int (0), .ref (n + 20), .ref (n + 21), .ref (n + 22), .ref (n + 23), .ref (n + 24), .null, .null, .null, .null, .null, .null, .int (0), .int (0), .null, .null, .null, .null, .null, .null, .int (0), .null, .null, .null, .int (0), .int (0)]) z1 hs1 kp1 x1 ha1 hlt fl_Model_84 (by decide) rfl rfl rfl rfl rfl (Nat.le_of_ble_eq_true rfl) rfl d_Model_init_220 (fun G2 z2 hs2 kp2 x2 ha2 => ?_)
  clear z1 hs1 kp1 x1 ha1
  refine g_aload_n d_Model_init_223 rfl ?_
  refine g_sipush (v := 2200) d_Model_init_224 (by decide +kernel) ?_
  refine mc_newI (sz := 2200) (c := 25) (F := fun j => mArr E j (fun _ => 0)) z2 hs2 kp2 x2 ha2 hlt (mArr_I (by decide) rfl) (by decide +kernel) (show 2200 * 4 ≤ 536870912 by decide) (by omega) (by omega) d_Model_init_227 (fun G3 z3 hs3 kp3 x3 ha3 => ?_)
  clear z2 hs2 kp2 x2 ha2
  replace hs3 := h2x (r := 103482) hs3 rfl
  refine mc_put (k := 40) (c := 26) (F := fun j => mArr E j (fun _ => 0)) (fs' := [.int (0), .ref (n + 0), .ref (n + 1), .ref (n + 2), .int (0), .int (0), .ref (n + 3), .ref (n + 4), .ref (n + 5), .ref (n + 6), .ref (n + 7), .ref (n + 8), .ref (n + 9), .ref (n + 10), .int (0), .int (0), .int (0), .ref (n + 11), .ref (n + 12), .int (0), .int (0), .int (0), .int (0), .int (0), .int (0), .int (0), .int (0), .ref (n + 13), .ref (n + 14), .ref (n + 15), .ref (n + 16), .ref (n + 17), .ref (n + 18), .ref (n + 19), .int (0), .ref (n + 20), .ref (n + 21), .ref (n + 22), .ref (n + 23), .ref (n + 24), .ref (n + 25), .null, .null, .null, .null, .null, .int (0), .int (0), .null, .null, .null, .null, .null, .null, .int (0), .null, .null, .null, .int (0), .int (0)]) z3 hs3 kp3 x3 ha3 hlt fl_Model_87 (by decide) rfl rfl rfl rfl rfl (Nat.le_of_ble_eq_true rfl) rfl d_Model_init_229 (fun G4 z4 hs4 kp4 x4 ha4 => ?_)
  clear z3 hs3 kp3 x3 ha3
  refine g_aload_n d_Model_init_232 rfl ?_
  refine g_ldc cn_Model_90 d_Model_init_233 ?_
  refine mc_newI (sz := 41640) (c := 26) (F := fun j => mArr E j (fun _ => 0)) z4 hs4 kp4 x4 ha4 hlt (mArr_I (by decide) rfl) (by decide +kernel) (show 41640 * 4 ≤ 536870912 by decide) (by omega) (by omega) d_Model_init_235 (fun G5 z5 hs5 kp5 x5 ha5 => ?_)
  clear z4 hs4 kp4 x4 ha4
  replace hs5 := h2x (r := 145122) hs5 rfl
  refine mc_put (k := 41) (c := 27) (F := fun j => mArr E j (fun _ => 0)) (fs' := [.int (0), .ref (n + 0), .ref (n + 1), .ref (n + 2), .int (0), .int (0), .ref (n + 3), .ref (n + 4), .ref (n + 5), .ref (n + 6), .ref (n + 7), .ref (n + 8), .ref (n + 9), .ref (n + 10), .int (0), .int (0), .int (0), .ref (n + 11), .ref (n + 12), .int (0), .int (0), .int (0), .int (0), .int (0), .int (0), .int (0), .int (0), .ref (n + 13), .ref (n + 14), .ref (n + 15), .ref (n + 16), .ref (n + 17), .ref (n + 18), .ref (n + 19), .int (0), .ref (n + 20), .ref (n + 21), .ref (n + 22), .ref (n + 23), .ref (n + 24), .ref (n + 25), .ref (n + 26), .null, .null, .null, .null, .int (0), .int (0), .null, .null, .null, .null, .null, .null, .int (0), .null, .null, .null, .int (0), .int (0)]) z5 hs5 kp5 x5 ha5 hlt fl_Model_91 (by decide) rfl rfl rfl rfl rfl (Nat.le_of_ble_eq_true rfl) rfl d_Model_init_237 (fun G6 z6 hs6 kp6 x6 ha6 => ?_)
  clear z5 hs5 kp5 x5 ha5
  refine g_aload_n d_Model_init_240 rfl ?_
  refine g_ldc cn_Model_90 d_Model_init_241 ?_
  refine mc_newI (sz := 41640) (c := 27) (F := fun j => mArr E j (fun _ => 0)) z6 hs6 kp6 x6 ha6 hlt (mArr_I (by decide) rfl) (by decide +kernel) (show 41640 * 4 ≤ 536870912 by decide) (by omega) (by omega) d_Model_init_243 (fun G7 z7 hs7 kp7 x7 ha7 => ?_)
  clear z6 hs6 kp6 x6 ha6
  replace hs7 := h2x (r := 186762) hs7 rfl
  refine mc_put (k := 42) (c := 28) (F := fun j => mArr E j (fun _ => 0)) (fs' := [.int (0), .ref (n + 0), .ref (n + 1), .ref (n + 2), .int (0), .int (0), .ref (n + 3), .ref (n + 4), .ref (n + 5), .ref (n + 6), .ref (n + 7), .ref (n + 8), .ref (n + 9), .ref (n + 10), .int (0), .int (0), .int (0), .ref (n + 11), .ref (n + 12), .int (0), .int (0), .int (0), .int (0), .int (0), .int (0), .int (0), .int (0), .ref (n + 13), .ref (n + 14), .ref (n + 15), .ref (n + 16), .ref (n + 17), .ref (n + 18), .ref (n + 19), .int (0), .ref (n + 20), .ref (n + 21), .ref (n + 22), .ref (n + 23), .ref (n + 24), .ref (n + 25), .ref (n + 26), .ref (n + 27), .null, .null, .null, .int (0), .int (0), .null, .null, .null, .null, .null, .null, .int (0), .null, .null, .null, .int (0), .int (0)]) z7 hs7 kp7 x7 ha7 hlt fl_Model_94 (by decide) rfl rfl rfl rfl rfl (Nat.le_of_ble_eq_true rfl) rfl d_Model_init_245 (fun G8 z8 hs8 kp8 x8 ha8 => ?_)
  clear z7 hs7 kp7 x7 ha7
  refine g_aload_n d_Model_init_248 rfl ?_
  refine g_ldc cn_Model_97 d_Model_init_249 ?_
  refine mc_newI (sz := 1082640) (c := 28) (F := fun j => mArr E j (fun _ => 0)) z8 hs8 kp8 x8 ha8 hlt (mArr_I (by decide) rfl) (by decide +kernel) (show 1082640 * 4 ≤ 536870912 by decide) (by omega) (by omega) d_Model_init_251 (fun G9 z9 hs9 kp9 x9 ha9 => ?_)
  clear z8 hs8 kp8 x8 ha8
  replace hs9 := h2x (r := 1269402) hs9 rfl
  refine mc_put (k := 43) (c := 29) (F := fun j => mArr E j (fun _ => 0)) (fs' := [.int (0), .ref (n + 0), .ref (n + 1), .ref (n + 2), .int (0), .int (0), .ref (n + 3), .ref (n + 4), .ref (n + 5), .ref (n + 6), .ref (n + 7), .ref (n + 8), .ref (n + 9), .ref (n + 10), .int (0), .int (0), .int (0), .ref (n + 11), .ref (n + 12), .int (0), .int (0), .int (0), .int (0), .int (0), .int (0), .int (0), .int (0), .ref (n + 13), .ref (n + 14), .ref (n + 15), .ref (n + 16), .ref (n + 17), .ref (n + 18), .ref (n + 19), .int (0), .ref (n + 20), .ref (n + 21), .ref (n + 22), .ref (n + 23), .ref (n + 24), .ref (n + 25), .ref (n + 26), .ref (n + 27), .ref (n + 28), .null, .null, .int (0), .int (0), .null, .null, .null, .null, .null, .null, .int (0), .null, .null, .null, .int (0), .int (0)]) z9 hs9 kp9 x9 ha9 hlt fl_Model_98 (by decide) rfl rfl rfl rfl rfl (Nat.le_of_ble_eq_true rfl) rfl d_Model_init_253 (fun G10 z10 hs10 kp10 x10 ha10 => ?_)
  clear z9 hs9 kp9 x9 ha9
  refine g_aload_n d_Model_init_256 rfl ?_
  refine g_ldc cn_Model_97 d_Model_init_257 ?_
  refine mc_newI (sz := 1082640) (c := 29) (F := fun j => mArr E j (fun _ => 0)) z10 hs10 kp10 x10 ha10 hlt (mArr_I (by decide) rfl) (by decide +kernel) (show 1082640 * 4 ≤ 536870912 by decide) (by omega) (by omega) d_Model_init_259 (fun G11 z11 hs11 kp11 x11 ha11 => ?_)
  clear z10 hs10 kp10 x10 ha10
  replace hs11 := h2x (r := 2352042) hs11 rfl
  refine mc_put (k := 44) (c := 30) (F := fun j => mArr E j (fun _ => 0)) (fs' := [.int (0), .ref (n + 0), .ref (n + 1), .ref (n + 2), .int (0), .int (0), .ref (n + 3), .ref (n + 4), .ref (n + 5), .ref (n + 6), .ref (n + 7), .ref (n + 8), .ref (n + 9), .ref (n + 10), .int (0), .int (0), .int (0), .ref (n + 11), .ref (n + 12), .int (0), .int (0), .int (0), .int (0), .int (0), .int (0), .int (0), .int (0), .ref (n + 13), .ref (n + 14), .ref (n + 15), .ref (n + 16), .ref (n + 17), .ref (n + 18), .ref (n + 19), .int (0), .ref (n + 20), .ref (n + 21), .ref (n + 22), .ref (n + 23), .ref (n + 24), .ref (n + 25), .ref (n + 26), .ref (n + 27), .ref (n + 28), .ref (n + 29), .null, .int (0), .int (0), .null, .null, .null, .null, .null, .null, .int (0), .null, .null, .null, .int (0), .int (0)]) z11 hs11 kp11 x11 ha11 hlt fl_Model_101 (by decide) rfl rfl rfl rfl rfl (Nat.le_of_ble_eq_true rfl) rfl d_Model_init_261 (fun G12 z12 hs12 kp12 x12 ha12 => ?_)
  clear z11 hs11 kp11 x11 ha11
  refine g_aload_n d_Model_init_264 rfl ?_
  refine g_ldc cn_Model_104 d_Model_init_265 ?_
  refine mc_newI (sz := 333120) (c := 30) (F := fun j => mArr E j (fun _ => 0)) z12 hs12 kp12 x12 ha12 hlt (mArr_I (by decide) rfl) (by decide +kernel) (show 333120 * 4 ≤ 536870912 by decide) (by omega) (by omega) d_Model_init_267 (fun G13 z13 hs13 kp13 x13 ha13 => ?_)
  clear z12 hs12 kp12 x12 ha12
  replace hs13 := h2x (r := 2685162) hs13 rfl
  refine mc_put (k := 45) (c := 31) (F := fun j => mArr E j (fun _ => 0)) (fs' := [.int (0), .ref (n + 0), .ref (n + 1), .ref (n + 2), .int (0), .int (0), .ref (n + 3), .ref (n + 4), .ref (n + 5), .ref (n + 6), .ref (n + 7), .ref (n + 8), .ref (n + 9), .ref (n + 10), .int (0), .int (0), .int (0), .ref (n + 11), .ref (n + 12), .int (0), .int (0), .int (0), .int (0), .int (0), .int (0), .int (0), .int (0), .ref (n + 13), .ref (n + 14), .ref (n + 15), .ref (n + 16), .ref (n + 17), .ref (n + 18), .ref (n + 19), .int (0), .ref (n + 20), .ref (n + 21), .ref (n + 22), .ref (n + 23), .ref (n + 24), .ref (n + 25), .ref (n + 26), .ref (n + 27), .ref (n + 28), .ref (n + 29), .ref (n + 30), .int (0), .int (0), .null, .null, .null, .null, .null, .null, .int (0), .null, .null, .null, .int (0), .int (0)]) z13 hs13 kp13 x13 ha13 hlt fl_Model_105 (by decide) rfl rfl rfl rfl rfl (Nat.le_of_ble_eq_true rfl) rfl d_Model_init_269 (fun G14 z14 hs14 kp14 x14 ha14 => ?_)
  clear z13 hs13 kp13 x13 ha13
  refine g_aload_n d_Model_init_272 rfl ?_
  refine g_sipush (v := 520) d_Model_init_273 (by decide +kernel) ?_
  refine mc_newI (sz := 520) (c := 31) (F := fun j => mArr E j (fun _ => 0)) z14 hs14 kp14 x14 ha14 hlt (mArr_I (by decide) rfl) (by decide +kernel) (show 520 * 4 ≤ 536870912 by decide) (by omega) (by omega) d_Model_init_276 (fun G15 z15 hs15 kp15 x15 ha15 => ?_)
  clear z14 hs14 kp14 x14 ha14
  replace hs15 := h2x (r := 2685682) hs15 rfl
  refine mc_put (k := 48) (c := 32) (F := fun j => mArr E j (fun _ => 0)) (fs' := [.int (0), .ref (n + 0), .ref (n + 1), .ref (n + 2), .int (0), .int (0), .ref (n + 3), .ref (n + 4), .ref (n + 5), .ref (n + 6), .ref (n + 7), .ref (n + 8), .ref (n + 9), .ref (n + 10), .int (0), .int (0), .int (0), .ref (n + 11), .ref (n + 12), .int (0), .int (0), .int (0), .int (0), .int (0), .int (0), .int (0), .int (0), .ref (n + 13), .ref (n + 14), .ref (n + 15), .ref (n + 16), .ref (n + 17), .ref (n + 18), .ref (n + 19), .int (0), .ref (n + 20), .ref (n + 21), .ref (n + 22), .ref (n + 23), .ref (n + 24), .ref (n + 25), .ref (n + 26), .ref (n + 27), .ref (n + 28), .ref (n + 29), .ref (n + 30), .int (0), .int (0), .ref (n + 31), .null, .null, .null, .null, .null, .int (0), .null, .null, .null, .int (0), .int (0)]) z15 hs15 kp15 x15 ha15 hlt fl_Model_108 (by decide) rfl rfl rfl rfl rfl (Nat.le_of_ble_eq_true rfl) rfl d_Model_init_278 (fun G16 z16 hs16 kp16 x16 ha16 => ?_)
  clear z15 hs15 kp15 x15 ha15
  exact m_Model_init_32 z16 hs16 kp16 x16 ha16 hlt hc hr
set_option maxHeartbeats 4000000 in
set_option maxRecDepth 100000 in
theorem m_Model_init_16 {sl : Nat} {GG : gS} (z : G.2.1 = n + 16) (hs : G.2.2 = sl + 18078) (kp : gKeep n a GG G) (x : ∀ j, j < 16 → G.1 (n + j) = some (mArr E j (fun _ => 0))) (ha : G.1 a = some (.inr (13, [.int (0), .ref (n + 0), .ref (n + 1), .ref (n + 2), .int (0), .int (0), .ref (n + 3), .ref (n + 4), .ref (n + 5), .ref (n + 6), .ref (n + 7), .ref (n + 8), .ref (n + 9), .ref (n + 10), .int (0), .int (0), .int (0), .ref (n + 11), .ref (n + 12), .int (0), .int (0), .int (0), .int (0), .int (0), .int (0), .int (0), .int (0), .ref (n + 13), .ref (n + 14), .ref (n + 15), .null, .null, .null, .null, .int (0), .null, .null, .null, .null, .null, .null, .null, .null, .null, .null, .null, .int (0), .int (0), .null, .null, .null, .null, .null, .null, .int (0), .null, .null, .null, .int (0), .int (0)]))) (hlt : a < n) (hc : n + 40 ≤ E.1.heap.size + room_1.cells) (hr : sl + 2690820 ≤ room_1.slots) : GT E Y_Model_init (d + 1) GG 143 [(0, .ref a)] [] G (rPost none (fun G' => G'.2.1 = n + 40 ∧ G'.2.2 = sl + 2690820 ∧ gKeep n a GG G' ∧ G'.1 a = some (.inr (13, mFs n (upd (fun _ => 0) 54 0))) ∧ G'.1 (n + 38) = some (gAI E 8 (fillF (fun _ => 0) 8 (-1))) ∧ ∀ j, j < 40 → j ≠ 38 → G'.1 (n + j) = some (mArr E j (fun _ => 0)))) := by
  have z0 := z
  have hs0 := hs
  have ha0 := ha
  have kp0 := kp
  have x0 := x
  refine g_aload_n d_Model_init_143 rfl ?_
  refine g_sipush (v := 1001) d_Model_init_144 (by decide +kernel) ?_
  refine mc_newI (sz := 1001) (c := 16) (F := fun j => mArr E j (fun _ => 0)) z0 hs0 kp0 x0 ha0 hlt (mArr_I (by decide) rfl) (by decide +kernel) (show 1001 * 4 ≤ 536870912 by decide) (by omega) (by omega) d_Model_init_147 (fun G1 z1 hs1 kp1 x1 ha1 => ?_)
  clear z0 hs0 kp0 x0 ha0
  replace hs1 := h2x (r := 19079) hs1 rfl
  refine mc_put (k := 30) (c := 17) (F := fun j => mArr E j (fun _ => 0)) (fs' := [.int (0), .ref (n + 0), .ref (n + 1), .ref (n + 2), .int (0), .int (0), .ref (n + 3), .ref (n + 4), .ref (n + 5), .ref (n + 6), .ref (n + 7), .ref (n + 8), .ref (n + 9), .ref (n + 10), .int (0), .int (0), .int (0), .ref (n + 11), .ref (n + 12), .int (0), .int (0), .int (0), .int (0), .int (0), .int (0), .int (0), .int (0), .ref (n + 13), .ref (n + 14), .ref (n + 15), .ref (n + 16), .null, .null, .null, .int (0), .null, .null, .null, .null, .null, .null, .null, .null, .null, .null, .null, .int (0), .int (0), .null, .null, .null, .null, .null, .null, .int (0), .null, .null, .null, .int (0), .int (0)]) z1 hs1 kp1 x1 ha1 hlt fl_Model_59 (by decide) rfl rfl rfl rfl rfl (Nat.le_of_ble_eq_true rfl) rfl d_Model_init_149 (fun G2 z2 hs2 kp2 x2 ha2 => ?_)
  clear z1 hs1 kp1 x1 ha1
  refine g_aload_n d_Model_init_152 rfl ?_
  refine g_sipush (v := 1001) d_Model_init_153 (by decide +kernel) ?_
  refine mc_newI (sz := 1001) (c := 17) (F := fun j => mArr E j (fun _ => 0)) z2 hs2 kp2 x2 ha2 hlt (mArr_I (by decide) rfl) (by decide +kernel) (show 1001 * 4 ≤ 536870912 by decide) (by omega) (by omega) d_Model_init_156 (fun G3 z3 hs3 kp3 x3 ha3 => ?_)
  clear z2 hs2 kp2 x2 ha2
  replace hs3 := h2x (r := 20080) hs3 rfl
  refine mc_put (k := 31) (c := 18) (F := fun j => mArr E j (fun _ => 0)) (fs' := [.int (0), .ref (n + 0), .ref (n + 1), .ref (n + 2), .int (0), .int (0), .ref (n + 3), .ref (n + 4), .ref (n + 5), .ref (n + 6), .ref (n + 7), .ref (n + 8), .ref (n + 9), .ref (n + 10), .int (0), .int (0), .int (0), .ref (n + 11), .ref (n + 12), .int (0), .int (0), .int (0), .int (0), .int (0), .int (0), .int (0), .int (0), .ref (n + 13), .ref (n + 14), .ref (n + 15), .ref (n + 16), .ref (n + 17), .null, .null, .int (0), .null, .null, .null, .null, .null, .null, .null, .null, .null, .null, .null, .int (0), .int (0), .null, .null, .null, .null, .null, .null, .int (0), .null, .null, .null, .int (0), .int (0)]) z3 hs3 kp3 x3 ha3 hlt fl_Model_62 (by decide) rfl rfl rfl rfl rfl (Nat.le_of_ble_eq_true rfl) rfl d_Model_init_158 (fun G4 z4 hs4 kp4 x4 ha4 => ?_)
  clear z3 hs3 kp3 x3 ha3
  refine g_aload_n d_Model_init_161 rfl ?_
  refine g_sipush (v := 1001) d_Model_init_162 (by decide +kernel) ?_
  refine mc_newI (sz := 1001) (c := 18) (F := fun j => mArr E j (fun _ => 0)) z4 hs4 kp4 x4 ha4 hlt (mArr_I (by decide) rfl) (by decide +kernel) (show 1001 * 4 ≤ 536870912 by decide) (by omega) (by omega) d_Model_init_165 (fun G5 z5 hs5 kp5 x5 ha5 => ?_)
  clear z4 hs4 kp4 x4 ha4
  replace hs5 := h2x (r := 21081) hs5 rfl
  refine mc_put (k := 32) (c := 19) (F := fun j => mArr E j (fun _ => 0)) (fs' := [.int (0), .ref (n + 0), .ref (n + 1), .ref (n + 2), .int (0), .int (0), .ref (n + 3), .ref (n + 4), .ref (n + 5), .ref (n + 6), .ref (n + 7), .ref (n + 8), .ref (n + 9), .ref (n + 10), .int (0), .int (0), .int (0), .ref (n + 11), .ref (n + 12), .int (0), .int (0), .int (0), .int (0), .int (0), .int (0), .int (0), .int (0), .ref (n + 13), .ref (n + 14), .ref (n + 15), .ref (n + 16), .ref (n + 17), .ref (n + 18), .null, .int (0), .null, .null, .null, .null, .null, .null, .null, .null, .null, .null, .null, .int (0), .int (0), .null, .null, .null, .null, .null, .null, .int (0), .null, .null, .null, .int (0), .int (0)]) z5 hs5 kp5 x5 ha5 hlt fl_Model_65 (by decide) rfl rfl rfl rfl rfl (Nat.le_of_ble_eq_true rfl) rfl d_Model_init_167 (fun G6 z6 hs6 kp6 x6 ha6 => ?_)
  clear z5 hs5 kp5 x5 ha5
  refine g_aload_n d_Model_init_170 rfl ?_
  refine g_sipush (v := 1001) d_Model_init_171 (by decide +kernel) ?_
  refine mc_newI (sz := 1001) (c := 19) (F := fun j => mArr E j (fun _ => 0)) z6 hs6 kp6 x6 ha6 hlt (mArr_I (by decide) rfl) (by decide +kernel) (show 1001 * 4 ≤ 536870912 by decide) (by omega) (by omega) d_Model_init_174 (fun G7 z7 hs7 kp7 x7 ha7 => ?_)
  clear z6 hs6 kp6 x6 ha6
  replace hs7 := h2x (r := 22082) hs7 rfl
  refine mc_put (k := 33) (c := 20) (F := fun j => mArr E j (fun _ => 0)) (fs' := [.int (0), .ref (n + 0), .ref (n + 1), .ref (n + 2), .int (0), .int (0), .ref (n + 3), .ref (n + 4), .ref (n + 5), .ref (n + 6), .ref (n + 7), .ref (n + 8), .ref (n + 9), .ref (n + 10), .int (0), .int (0), .int (0), .ref (n + 11), .ref (n + 12), .int (0), .int (0), .int (0), .int (0), .int (0), .int (0), .int (0), .int (0), .ref (n + 13), .ref (n + 14), .ref (n + 15), .ref (n + 16), .ref (n + 17), .ref (n + 18), .ref (n + 19), .int (0), .null, .null, .null, .null, .null, .null, .null, .null, .null, .null, .null, .int (0), .int (0), .null, .null, .null, .null, .null, .null, .int (0), .null, .null, .null, .int (0), .int (0)]) z7 hs7 kp7 x7 ha7 hlt fl_Model_68 (by decide) rfl rfl rfl rfl rfl (Nat.le_of_ble_eq_true rfl) rfl d_Model_init_176 (fun G8 z8 hs8 kp8 x8 ha8 => ?_)
  clear z7 hs7 kp7 x7 ha7
  refine g_aload_n d_Model_init_179 rfl ?_
  refine g_sipush (v := 2200) d_Model_init_180 (by decide +kernel) ?_
  refine mc_newI (sz := 2200) (c := 20) (F := fun j => mArr E j (fun _ => 0)) z8 hs8 kp8 x8 ha8 hlt (mArr_I (by decide) rfl) (by decide +kernel) (show 2200 * 4 ≤ 536870912 by decide) (by omega) (by omega) d_Model_init_183 (fun G9 z9 hs9 kp9 x9 ha9 => ?_)
  clear z8 hs8 kp8 x8 ha8
  replace hs9 := h2x (r := 24282) hs9 rfl
  refine mc_put (k := 35) (c := 21) (F := fun j => mArr E j (fun _ => 0)) (fs' := [.int (0), .ref (n + 0), .ref (n + 1), .ref (n + 2), .int (0), .int (0), .ref (n + 3), .ref (n + 4), .ref (n + 5), .ref (n + 6), .ref (n + 7), .ref (n + 8), .ref (n + 9), .ref (n + 10), .int (0), .int (0), .int (0), .ref (n + 11), .ref (n + 12), .int (0), .int (0), .int (0), .int (0), .int (0), .int (0), .int (0), .int (0), .ref (n + 13), .ref (n + 14), .ref (n + 15), .ref (n + 16), .ref (n + 17), .ref (n + 18), .ref (n + 19), .int (0), .ref (n + 20), .null, .null, .null, .null, .null, .null, .null, .null, .null, .null, .int (0), .int (0), .null, .null, .null, .null, .null, .null, .int (0), .null, .null, .null, .int (0), .int (0)]) z9 hs9 kp9 x9 ha9 hlt fl_Model_71 (by decide) rfl rfl rfl rfl rfl (Nat.le_of_ble_eq_true rfl) rfl d_Model_init_185 (fun G10 z10 hs10 kp10 x10 ha10 => ?_)
  clear z9 hs9 kp9 x9 ha9
  refine g_aload_n d_Model_init_188 rfl ?_
  refine g_sipush (v := 2200) d_Model_init_189 (by decide +kernel) ?_
  refine mc_newI (sz := 2200) (c := 21) (F := fun j => mArr E j (fun _ => 0)) z10 hs10 kp10 x10 ha10 hlt (mArr_I (by decide) rfl) (by decide +kernel) (show 2200 * 4 ≤ 536870912 by decide) (by omega) (by omega) d_Model_init_192 (fun G11 z11 hs11 kp11 x11 ha11 => ?_)
  clear z10 hs10 kp10 x10 ha10
  replace hs11 := h2x (r := 26482) hs11 rfl
  refine mc_put (k := 36) (c := 22) (F := fun j => mArr E j (fun _ => 0)) (fs' := [.int (0), .ref (n + 0), .ref (n + 1), .ref (n + 2), .int (0), .int (0), .ref (n + 3), .ref (n + 4), .ref (n + 5), .ref (n + 6), .ref (n + 7), .ref (n + 8), .ref (n + 9), .ref (n + 10), .int (0), .int (0), .int (0), .ref (n + 11), .ref (n + 12), .int (0), .int (0), .int (0), .int (0), .int (0), .int (0), .int (0), .int (0), .ref (n + 13), .ref (n + 14), .ref (n + 15), .ref (n + 16), .ref (n + 17), .ref (n + 18), .ref (n + 19), .int (0), .ref (n + 20), .ref (n + 21), .null, .null, .null, .null, .null, .null, .null, .null, .null, .int (0), .int (0), .null, .null, .null, .null, .null, .null, .int (0), .null, .null, .null, .int (0), .int (0)]) z11 hs11 kp11 x11 ha11 hlt fl_Model_74 (by decide) rfl rfl rfl rfl rfl (Nat.le_of_ble_eq_true rfl) rfl d_Model_init_194 (fun G12 z12 hs12 kp12 x12 ha12 => ?_)
  clear z11 hs11 kp11 x11 ha11
  refine g_aload_n d_Model_init_197 rfl ?_
  refine g_ldc cn_Model_77 d_Model_init_198 ?_
  refine mc_newI (sz := 70400) (c := 22) (F := fun j => mArr E j (fun _ => 0)) z12 hs12 kp12 x12 ha12 hlt (mArr_I (by decide) rfl) (by decide +kernel) (show 70400 * 4 ≤ 536870912 by decide) (by omega) (by omega) d_Model_init_200 (fun G13 z13 hs13 kp13 x13 ha13 => ?_)
  clear z12 hs12 kp12 x12 ha12
  replace hs13 := h2x (r := 96882) hs13 rfl
  refine mc_put (k := 37) (c := 23) (F := fun j => mArr E j (fun _ => 0)) (fs' := [.int (0), .ref (n + 0), .ref (n + 1), .ref (n + 2), .int (0), .int (0), .ref (n + 3), .ref (n + 4), .ref (n + 5), .ref (n + 6), .ref (n + 7), .ref (n + 8), .ref (n + 9), .ref (n + 10), .int (0), .int (0), .int (0), .ref (n + 11), .ref (n + 12), .int (0), .int (0), .int (0), .int (0), .int (0), .int (0), .int (0), .int (0), .ref (n + 13), .ref (n + 14), .ref (n + 15), .ref (n + 16), .ref (n + 17), .ref (n + 18), .ref (n + 19), .int (0), .ref (n + 20), .ref (n + 21), .ref (n + 22), .null, .null, .null, .null, .null, .null, .null, .null, .int (0), .int (0), .null, .null, .null, .null, .null, .null, .int (0), .null, .null, .null, .int (0), .int (0)]) z13 hs13 kp13 x13 ha13 hlt fl_Model_78 (by decide) rfl rfl rfl rfl rfl (Nat.le_of_ble_eq_true rfl) rfl d_Model_init_202 (fun G14 z14 hs14 kp14 x14 ha14 => ?_)
  clear z13 hs13 kp13 x13 ha13
  refine g_aload_n d_Model_init_205 rfl ?_
  refine g_sipush (v := 2200) d_Model_init_206 (by decide +kernel) ?_
  refine mc_newI (sz := 2200) (c := 23) (F := fun j => mArr E j (fun _ => 0)) z14 hs14 kp14 x14 ha14 hlt (mArr_I (by decide) rfl) (by decide +kernel) (show 2200 * 4 ≤ 536870912 by decide) (by omega) (by omega) d_Model_init_209 (fun G15 z15 hs15 kp15 x15 ha15 => ?_)
  clear z14 hs14 kp14 x14 ha14
  replace hs15 := h2x (r := 99082) hs15 rfl
  refine mc_put (k := 38) (c := 24) (F := fun j => mArr E j (fun _ => 0)) (fs' := [.int (0), .ref (n + 0), .ref (n + 1), .ref (n + 2), .int (0), .int (0), .ref (n + 3), .ref (n + 4), .ref (n + 5), .ref (n + 6), .ref (n + 7), .ref (n + 8), .ref (n + 9), .ref (n + 10), .int (0), .int (0), .int (0), .ref (n + 11), .ref (n + 12), .int (0), .int (0), .int (0), .int (0), .int (0), .int (0), .int (0), .int (0), .ref (n + 13), .ref (n + 14), .ref (n + 15), .ref (n + 16), .ref (n + 17), .ref (n + 18), .ref (n + 19), .int (0), .ref (n + 20), .ref (n + 21), .ref (n + 22), .ref (n + 23), .null, .null, .null, .null, .null, .null, .null, .int (0), .int (0), .null, .null, .null, .null, .null, .null, .int (0), .null, .null, .null, .int (0), .int (0)]) z15 hs15 kp15 x15 ha15 hlt fl_Model_81 (by decide) rfl rfl rfl rfl rfl (Nat.le_of_ble_eq_true rfl) rfl d_Model_init_211 (fun G16 z16 hs16 kp16 x16 ha16 => ?_)
  clear z15 hs15 kp15 x15 ha15
  exact m_Model_init_24 z16 hs16 kp16 x16 ha16 hlt hc hr
set_option maxHeartbeats 4000000 in
set_option maxRecDepth 100000 in
theorem m_Model_init_8 {sl : Nat} {GG : gS} (z : G.2.1 = n + 8) (hs : G.2.2 = sl + 6256) (kp : gKeep n a GG G) (x : ∀ j, j < 8 → G.1 (n + j) = some (mArr E j (fun _ => 0))) (ha : G.1 a = some (.inr (13, [.int (0), .ref (n + 0), .ref (n + 1), .ref (n + 2), .int (0), .int (0), .ref (n + 3), .ref (n + 4), .ref (n + 5), .ref (n + 6), .ref (n + 7), .null, .null, .null, .int (0), .int (0), .int (0), .null, .null, .int (0), .int (0), .int (0), .int (0), .int (0), .int (0), .int (0), .int (0), .null, .null, .null, .null, .null, .null, .null, .int (0), .null, .null, .null, .null, .null, .null, .null, .null, .null, .null, .null, .int (0), .int (0), .null, .null, .null, .null, .null, .null, .int (0), .null, .null, .null, .int (0), .int (0)]))) (hlt : a < n) (hc : n + 40 ≤ E.1.heap.size + room_1.cells) (hr : sl + 2690820 ≤ room_1.slots) : GT E Y_Model_init (d + 1) GG 75 [(0, .ref a)] [] G (rPost none (fun G' => G'.2.1 = n + 40 ∧ G'.2.2 = sl + 2690820 ∧ gKeep n a GG G' ∧ G'.1 a = some (.inr (13, mFs n (upd (fun _ => 0) 54 0))) ∧ G'.1 (n + 38) = some (gAI E 8 (fillF (fun _ => 0) 8 (-1))) ∧ ∀ j, j < 40 → j ≠ 38 → G'.1 (n + j) = some (mArr E j (fun _ => 0)))) := by
  have z0 := z
  have hs0 := hs
  have ha0 := ha
  have kp0 := kp
  have x0 := x
  refine g_aload_n d_Model_init_75 rfl ?_
  refine g_sipush (v := 700) d_Model_init_76 (by decide +kernel) ?_
  refine mc_newI (sz := 700) (c := 8) (F := fun j => mArr E j (fun _ => 0)) z0 hs0 kp0 x0 ha0 hlt (mArr_I (by decide) rfl) (by decide +kernel) (show 700 * 4 ≤ 536870912 by decide) (by omega) (by omega) d_Model_init_79 (fun G1 z1 hs1 kp1 x1 ha1 => ?_)
  clear z0 hs0 kp0 x0 ha0
  replace hs1 := h2x (r := 6956) hs1 rfl
  refine mc_put (k := 11) (c := 9) (F := fun j => mArr E j (fun _ => 0)) (fs' := [.int (0), .ref (n + 0), .ref (n + 1), .ref (n + 2), .int (0), .int (0), .ref (n + 3), .ref (n + 4), .ref (n + 5), .ref (n + 6), .ref (n + 7), .ref (n + 8), .null, .null, .int (0), .int (0), .int (0), .null, .null, .int (0), .int (0), .int (0), .int (0), .int (0), .int (0), .int (0), .int (0), .null, .null, .null, .null, .null, .null, .null, .int (0), .null, .null, .null, .null, .null, .null, .null, .null, .null, .null, .null, .int (0), .int (0), .null, .null, .null, .null, .null, .null, .int (0), .null, .null, .null, .int (0), .int (0)]) z1 hs1 kp1 x1 ha1 hlt fl_Model_34 (by decide) rfl rfl rfl rfl rfl (Nat.le_of_ble_eq_true rfl) rfl d_Model_init_81 (fun G2 z2 hs2 kp2 x2 ha2 => ?_)
  clear z1 hs1 kp1 x1 ha1
  refine g_aload_n d_Model_init_84 rfl ?_
  refine g_bipush (v := 40) d_Model_init_85 (by decide +kernel) ?_
  refine mc_newI (sz := 40) (c := 9) (F := fun j => mArr E j (fun _ => 0)) z2 hs2 kp2 x2 ha2 hlt (mArr_I (by decide) rfl) (by decide +kernel) (show 40 * 4 ≤ 536870912 by decide) (by omega) (by omega) d_Model_init_87 (fun G3 z3 hs3 kp3 x3 ha3 => ?_)
  clear z2 hs2 kp2 x2 ha2
  replace hs3 := h2x (r := 6996) hs3 rfl
  refine mc_put (k := 12) (c := 10) (F := fun j => mArr E j (fun _ => 0)) (fs' := [.int (0), .ref (n + 0), .ref (n + 1), .ref (n + 2), .int (0), .int (0), .ref (n + 3), .ref (n + 4), .ref (n + 5), .ref (n + 6), .ref (n + 7), .ref (n + 8), .ref (n + 9), .null, .int (0), .int (0), .int (0), .null, .null, .int (0), .int (0), .int (0), .int (0), .int (0), .int (0), .int (0), .int (0), .null, .null, .null, .null, .null, .null, .null, .int (0), .null, .null, .null, .null, .null, .null, .null, .null, .null, .null, .null, .int (0), .int (0), .null, .null, .null, .null, .null, .null, .int (0), .null, .null, .null, .int (0), .int (0)]) z3 hs3 kp3 x3 ha3 hlt fl_Model_37 (by decide) rfl rfl rfl rfl rfl (Nat.le_of_ble_eq_true rfl) rfl d_Model_init_89 (fun G4 z4 hs4 kp4 x4 ha4 => ?_)
  clear z3 hs3 kp3 x3 ha3
  refine g_aload_n d_Model_init_92 rfl ?_
  refine g_bipush (v := 40) d_Model_init_93 (by decide +kernel) ?_
  refine mc_newI (sz := 40) (c := 10) (F := fun j => mArr E j (fun _ => 0)) z4 hs4 kp4 x4 ha4 hlt (mArr_I (by decide) rfl) (by decide +kernel) (show 40 * 4 ≤ 536870912 by decide) (by omega) (by omega) d_Model_init_95 (fun G5 z5 hs5 kp5 x5 ha5 => ?_)
  clear z4 hs4 kp4 x4 ha4
  replace hs5 := h2x (r := 7036) hs5 rfl
  refine mc_put (k := 13) (c := 11) (F := fun j => mArr E j (fun _ => 0)) (fs' := [.int (0), .ref (n + 0), .ref (n + 1), .ref (n + 2), .int (0), .int (0), .ref (n + 3), .ref (n + 4), .ref (n + 5), .ref (n + 6), .ref (n + 7), .ref (n + 8), .ref (n + 9), .ref (n + 10), .int (0), .int (0), .int (0), .null, .null, .int (0), .int (0), .int (0), .int (0), .int (0), .int (0), .int (0), .int (0), .null, .null, .null, .null, .null, .null, .null, .int (0), .null, .null, .null, .null, .null, .null, .null, .null, .null, .null, .null, .int (0), .int (0), .null, .null, .null, .null, .null, .null, .int (0), .null, .null, .null, .int (0), .int (0)]) z5 hs5 kp5 x5 ha5 hlt fl_Model_40 (by decide) rfl rfl rfl rfl rfl (Nat.le_of_ble_eq_true rfl) rfl d_Model_init_97 (fun G6 z6 hs6 kp6 x6 ha6 => ?_)
  clear z5 hs5 kp5 x5 ha5
  refine g_aload_n d_Model_init_100 rfl ?_
  refine g_bipush (v := 20) d_Model_init_101 (by decide +kernel) ?_
  refine mc_newI (sz := 20) (c := 11) (F := fun j => mArr E j (fun _ => 0)) z6 hs6 kp6 x6 ha6 hlt (mArr_I (by decide) rfl) (by decide +kernel) (show 20 * 4 ≤ 536870912 by decide) (by omega) (by omega) d_Model_init_103 (fun G7 z7 hs7 kp7 x7 ha7 => ?_)
  clear z6 hs6 kp6 x6 ha6
  replace hs7 := h2x (r := 7056) hs7 rfl
  refine mc_put (k := 17) (c := 12) (F := fun j => mArr E j (fun _ => 0)) (fs' := [.int (0), .ref (n + 0), .ref (n + 1), .ref (n + 2), .int (0), .int (0), .ref (n + 3), .ref (n + 4), .ref (n + 5), .ref (n + 6), .ref (n + 7), .ref (n + 8), .ref (n + 9), .ref (n + 10), .int (0), .int (0), .int (0), .ref (n + 11), .null, .int (0), .int (0), .int (0), .int (0), .int (0), .int (0), .int (0), .int (0), .null, .null, .null, .null, .null, .null, .null, .int (0), .null, .null, .null, .null, .null, .null, .null, .null, .null, .null, .null, .int (0), .int (0), .null, .null, .null, .null, .null, .null, .int (0), .null, .null, .null, .int (0), .int (0)]) z7 hs7 kp7 x7 ha7 hlt fl_Model_43 (by decide) rfl rfl rfl rfl rfl (Nat.le_of_ble_eq_true rfl) rfl d_Model_init_105 (fun G8 z8 hs8 kp8 x8 ha8 => ?_)
  clear z7 hs7 kp7 x7 ha7
  refine g_aload_n d_Model_init_108 rfl ?_
  refine g_bipush (v := 20) d_Model_init_109 (by decide +kernel) ?_
  refine mc_newZ (sz := 20) (c := 12) (F := fun j => mArr E j (fun _ => 0)) z8 hs8 kp8 x8 ha8 hlt rfl (by decide +kernel) (show 20 * 1 ≤ 536870912 by decide) (by omega) (by omega) d_Model_init_111 (fun G9 z9 hs9 kp9 x9 ha9 => ?_)
  clear z8 hs8 kp8 x8 ha8
  replace hs9 := h2x (r := 7076) hs9 rfl
  refine mc_put (k := 18) (c := 13) (F := fun j => mArr E j (fun _ => 0)) (fs' := [.int (0), .ref (n + 0), .ref (n + 1), .ref (n + 2), .int (0), .int (0), .ref (n + 3), .ref (n + 4), .ref (n + 5), .ref (n + 6), .ref (n + 7), .ref (n + 8), .ref (n + 9), .ref (n + 10), .int (0), .int (0), .int (0), .ref (n + 11), .ref (n + 12), .int (0), .int (0), .int (0), .int (0), .int (0), .int (0), .int (0), .int (0), .null, .null, .null, .null, .null, .null, .null, .int (0), .null, .null, .null, .null, .null, .null, .null, .null, .null, .null, .null, .int (0), .int (0), .null, .null, .null, .null, .null, .null, .int (0), .null, .null, .null, .int (0), .int (0)]) z9 hs9 kp9 x9 ha9 hlt fl_Model_46 (by decide) rfl rfl rfl rfl rfl (Nat.le_of_ble_eq_true rfl) rfl d_Model_init_113 (fun G10 z10 hs10 kp10 x10 ha10 => ?_)
  clear z9 hs9 kp9 x9 ha9
  refine g_aload_n d_Model_init_116 rfl ?_
  refine g_sipush (v := 9000) d_Model_init_117 (by decide +kernel) ?_
  refine mc_newI (sz := 9000) (c := 13) (F := fun j => mArr E j (fun _ => 0)) z10 hs10 kp10 x10 ha10 hlt (mArr_I (by decide) rfl) (by decide +kernel) (show 9000 * 4 ≤ 536870912 by decide) (by omega) (by omega) d_Model_init_120 (fun G11 z11 hs11 kp11 x11 ha11 => ?_)
  clear z10 hs10 kp10 x10 ha10
  replace hs11 := h2x (r := 16076) hs11 rfl
  refine mc_put (k := 27) (c := 14) (F := fun j => mArr E j (fun _ => 0)) (fs' := [.int (0), .ref (n + 0), .ref (n + 1), .ref (n + 2), .int (0), .int (0), .ref (n + 3), .ref (n + 4), .ref (n + 5), .ref (n + 6), .ref (n + 7), .ref (n + 8), .ref (n + 9), .ref (n + 10), .int (0), .int (0), .int (0), .ref (n + 11), .ref (n + 12), .int (0), .int (0), .int (0), .int (0), .int (0), .int (0), .int (0), .int (0), .ref (n + 13), .null, .null, .null, .null, .null, .null, .int (0), .null, .null, .null, .null, .null, .null, .null, .null, .null, .null, .null, .int (0), .int (0), .null, .null, .null, .null, .null, .null, .int (0), .null, .null, .null, .int (0), .int (0)]) z11 hs11 kp11 x11 ha11 hlt fl_Model_50 (by decide) rfl rfl rfl rfl rfl (Nat.le_of_ble_eq_true rfl) rfl d_Model_init_122 (fun G12 z12 hs12 kp12 x12 ha12 => ?_)
  clear z11 hs11 kp11 x11 ha11
  refine g_aload_n d_Model_init_125 rfl ?_
  refine g_sipush (v := 1001) d_Model_init_126 (by decide +kernel) ?_
  refine mc_newI (sz := 1001) (c := 14) (F := fun j => mArr E j (fun _ => 0)) z12 hs12 kp12 x12 ha12 hlt (mArr_I (by decide) rfl) (by decide +kernel) (show 1001 * 4 ≤ 536870912 by decide) (by omega) (by omega) d_Model_init_129 (fun G13 z13 hs13 kp13 x13 ha13 => ?_)
  clear z12 hs12 kp12 x12 ha12
  replace hs13 := h2x (r := 17077) hs13 rfl
  refine mc_put (k := 28) (c := 15) (F := fun j => mArr E j (fun _ => 0)) (fs' := [.int (0), .ref (n + 0), .ref (n + 1), .ref (n + 2), .int (0), .int (0), .ref (n + 3), .ref (n + 4), .ref (n + 5), .ref (n + 6), .ref (n + 7), .ref (n + 8), .ref (n + 9), .ref (n + 10), .int (0), .int (0), .int (0), .ref (n + 11), .ref (n + 12), .int (0), .int (0), .int (0), .int (0), .int (0), .int (0), .int (0), .int (0), .ref (n + 13), .ref (n + 14), .null, .null, .null, .null, .null, .int (0), .null, .null, .null, .null, .null, .null, .null, .null, .null, .null, .null, .int (0), .int (0), .null, .null, .null, .null, .null, .null, .int (0), .null, .null, .null, .int (0), .int (0)]) z13 hs13 kp13 x13 ha13 hlt fl_Model_53 (by decide) rfl rfl rfl rfl rfl (Nat.le_of_ble_eq_true rfl) rfl d_Model_init_131 (fun G14 z14 hs14 kp14 x14 ha14 => ?_)
  clear z13 hs13 kp13 x13 ha13
  refine g_aload_n d_Model_init_134 rfl ?_
  refine g_sipush (v := 1001) d_Model_init_135 (by decide +kernel) ?_
  refine mc_newI (sz := 1001) (c := 15) (F := fun j => mArr E j (fun _ => 0)) z14 hs14 kp14 x14 ha14 hlt (mArr_I (by decide) rfl) (by decide +kernel) (show 1001 * 4 ≤ 536870912 by decide) (by omega) (by omega) d_Model_init_138 (fun G15 z15 hs15 kp15 x15 ha15 => ?_)
  clear z14 hs14 kp14 x14 ha14
  replace hs15 := h2x (r := 18078) hs15 rfl
  refine mc_put (k := 29) (c := 16) (F := fun j => mArr E j (fun _ => 0)) (fs' := [.int (0), .ref (n + 0), .ref (n + 1), .ref (n + 2), .int (0), .int (0), .ref (n + 3), .ref (n + 4), .ref (n + 5), .ref (n + 6), .ref (n + 7), .ref (n + 8), .ref (n + 9), .ref (n + 10), .int (0), .int (0), .int (0), .ref (n + 11), .ref (n + 12), .int (0), .int (0), .int (0), .int (0), .int (0), .int (0), .int (0), .int (0), .ref (n + 13), .ref (n + 14), .ref (n + 15), .null, .null, .null, .null, .int (0), .null, .null, .null, .null, .null, .null, .null, .null, .null, .null, .null, .int (0), .int (0), .null, .null, .null, .null, .null, .null, .int (0), .null, .null, .null, .int (0), .int (0)]) z15 hs15 kp15 x15 ha15 hlt fl_Model_56 (by decide) rfl rfl rfl rfl rfl (Nat.le_of_ble_eq_true rfl) rfl d_Model_init_140 (fun G16 z16 hs16 kp16 x16 ha16 => ?_)
  clear z15 hs15 kp15 x15 ha15
  exact m_Model_init_16 z16 hs16 kp16 x16 ha16 hlt hc hr
set_option maxHeartbeats 4000000 in
set_option maxRecDepth 100000 in
theorem m_Model_init_0 {sl : Nat} {GG : gS} (z : G.2.1 = n + 0) (hs : G.2.2 = sl + 0) (kp : gKeep n a GG G) (x : ∀ j, j < 0 → G.1 (n + j) = some (mArr E j (fun _ => 0))) (ha : G.1 a = some (.inr (13, [.int (0), .null, .null, .null, .int (0), .int (0), .null, .null, .null, .null, .null, .null, .null, .null, .int (0), .int (0), .int (0), .null, .null, .int (0), .int (0), .int (0), .int (0), .int (0), .int (0), .int (0), .int (0), .null, .null, .null, .null, .null, .null, .null, .int (0), .null, .null, .null, .null, .null, .null, .null, .null, .null, .null, .null, .int (0), .int (0), .null, .null, .null, .null, .null, .null, .int (0), .null, .null, .null, .int (0), .int (0)]))) (hlt : a < n) (hc : n + 40 ≤ E.1.heap.size + room_1.cells) (hr : sl + 2690820 ≤ room_1.slots) : GT E Y_Model_init (d + 1) GG 4 [(0, .ref a)] [] G (rPost none (fun G' => G'.2.1 = n + 40 ∧ G'.2.2 = sl + 2690820 ∧ gKeep n a GG G' ∧ G'.1 a = some (.inr (13, mFs n (upd (fun _ => 0) 54 0))) ∧ G'.1 (n + 38) = some (gAI E 8 (fillF (fun _ => 0) 8 (-1))) ∧ ∀ j, j < 40 → j ≠ 38 → G'.1 (n + j) = some (mArr E j (fun _ => 0)))) := by
  have z0 := z
  have hs0 := hs
  have ha0 := ha
  have kp0 := kp
  have x0 := x
  refine g_aload_n d_Model_init_4 rfl ?_
  refine g_bipush (v := 16) d_Model_init_5 (by decide +kernel) ?_
  refine mc_newI (sz := 16) (c := 0) (F := fun j => mArr E j (fun _ => 0)) z0 hs0 kp0 x0 ha0 hlt (mArr_I (by decide) rfl) (by decide +kernel) (show 16 * 4 ≤ 536870912 by decide) (by omega) (by omega) d_Model_init_7 (fun G1 z1 hs1 kp1 x1 ha1 => ?_)
  clear z0 hs0 kp0 x0 ha0
  replace hs1 := h2x (r := 16) hs1 rfl
  refine mc_put (k := 1) (c := 1) (F := fun j => mArr E j (fun _ => 0)) (fs' := [.int (0), .ref (n + 0), .null, .null, .int (0), .int (0), .null, .null, .null, .null, .null, .null, .null, .null, .int (0), .int (0), .int (0), .null, .null, .int (0), .int (0), .int (0), .int (0), .int (0), .int (0), .int (0), .int (0), .null, .null, .null, .null, .null, .null, .null, .int (0), .null, .null, .null, .null, .null, .null, .null, .null, .null, .null, .null, .int (0), .int (0), .null, .null, .null, .null, .null, .null, .int (0), .null, .null, .null, .int (0), .int (0)]) z1 hs1 kp1 x1 ha1 hlt fl_Model_7 (by decide) rfl rfl rfl rfl rfl (Nat.le_of_ble_eq_true rfl) rfl d_Model_init_9 (fun G2 z2 hs2 kp2 x2 ha2 => ?_)
  clear z1 hs1 kp1 x1 ha1
  refine g_aload_n d_Model_init_12 rfl ?_
  refine g_sipush (v := 128) d_Model_init_13 (by decide +kernel) ?_
  refine mc_newI (sz := 128) (c := 1) (F := fun j => mArr E j (fun _ => 0)) z2 hs2 kp2 x2 ha2 hlt (mArr_I (by decide) rfl) (by decide +kernel) (show 128 * 4 ≤ 536870912 by decide) (by omega) (by omega) d_Model_init_16 (fun G3 z3 hs3 kp3 x3 ha3 => ?_)
  clear z2 hs2 kp2 x2 ha2
  replace hs3 := h2x (r := 144) hs3 rfl
  refine mc_put (k := 2) (c := 2) (F := fun j => mArr E j (fun _ => 0)) (fs' := [.int (0), .ref (n + 0), .ref (n + 1), .null, .int (0), .int (0), .null, .null, .null, .null, .null, .null, .null, .null, .int (0), .int (0), .int (0), .null, .null, .int (0), .int (0), .int (0), .int (0), .int (0), .int (0), .int (0), .int (0), .null, .null, .null, .null, .null, .null, .null, .int (0), .null, .null, .null, .null, .null, .null, .null, .null, .null, .null, .null, .int (0), .int (0), .null, .null, .null, .null, .null, .null, .int (0), .null, .null, .null, .int (0), .int (0)]) z3 hs3 kp3 x3 ha3 hlt fl_Model_13 (by decide) rfl rfl rfl rfl rfl (Nat.le_of_ble_eq_true rfl) rfl d_Model_init_18 (fun G4 z4 hs4 kp4 x4 ha4 => ?_)
  clear z3 hs3 kp3 x3 ha3
  refine g_aload_n d_Model_init_21 rfl ?_
  refine g_sipush (v := 512) d_Model_init_22 (by decide +kernel) ?_
  refine mc_newI (sz := 512) (c := 2) (F := fun j => mArr E j (fun _ => 0)) z4 hs4 kp4 x4 ha4 hlt (mArr_I (by decide) rfl) (by decide +kernel) (show 512 * 4 ≤ 536870912 by decide) (by omega) (by omega) d_Model_init_25 (fun G5 z5 hs5 kp5 x5 ha5 => ?_)
  clear z4 hs4 kp4 x4 ha4
  replace hs5 := h2x (r := 656) hs5 rfl
  refine mc_put (k := 3) (c := 3) (F := fun j => mArr E j (fun _ => 0)) (fs' := [.int (0), .ref (n + 0), .ref (n + 1), .ref (n + 2), .int (0), .int (0), .null, .null, .null, .null, .null, .null, .null, .null, .int (0), .int (0), .int (0), .null, .null, .int (0), .int (0), .int (0), .int (0), .int (0), .int (0), .int (0), .int (0), .null, .null, .null, .null, .null, .null, .null, .int (0), .null, .null, .null, .null, .null, .null, .null, .null, .null, .null, .null, .int (0), .int (0), .null, .null, .null, .null, .null, .null, .int (0), .null, .null, .null, .int (0), .int (0)]) z5 hs5 kp5 x5 ha5 hlt fl_Model_16 (by decide) rfl rfl rfl rfl rfl (Nat.le_of_ble_eq_true rfl) rfl d_Model_init_27 (fun G6 z6 hs6 kp6 x6 ha6 => ?_)
  clear z5 hs5 kp5 x5 ha5
  refine g_aload_n d_Model_init_30 rfl ?_
  refine g_sipush (v := 700) d_Model_init_31 (by decide +kernel) ?_
  refine mc_newI (sz := 700) (c := 3) (F := fun j => mArr E j (fun _ => 0)) z6 hs6 kp6 x6 ha6 hlt (mArr_I (by decide) rfl) (by decide +kernel) (show 700 * 4 ≤ 536870912 by decide) (by omega) (by omega) d_Model_init_34 (fun G7 z7 hs7 kp7 x7 ha7 => ?_)
  clear z6 hs6 kp6 x6 ha6
  replace hs7 := h2x (r := 1356) hs7 rfl
  refine mc_put (k := 6) (c := 4) (F := fun j => mArr E j (fun _ => 0)) (fs' := [.int (0), .ref (n + 0), .ref (n + 1), .ref (n + 2), .int (0), .int (0), .ref (n + 3), .null, .null, .null, .null, .null, .null, .null, .int (0), .int (0), .int (0), .null, .null, .int (0), .int (0), .int (0), .int (0), .int (0), .int (0), .int (0), .int (0), .null, .null, .null, .null, .null, .null, .null, .int (0), .null, .null, .null, .null, .null, .null, .null, .null, .null, .null, .null, .int (0), .int (0), .null, .null, .null, .null, .null, .null, .int (0), .null, .null, .null, .int (0), .int (0)]) z7 hs7 kp7 x7 ha7 hlt fl_Model_19 (by decide) rfl rfl rfl rfl rfl (Nat.le_of_ble_eq_true rfl) rfl d_Model_init_36 (fun G8 z8 hs8 kp8 x8 ha8 => ?_)
  clear z7 hs7 kp7 x7 ha7
  refine g_aload_n d_Model_init_39 rfl ?_
  refine g_sipush (v := 700) d_Model_init_40 (by decide +kernel) ?_
  refine mc_newI (sz := 700) (c := 4) (F := fun j => mArr E j (fun _ => 0)) z8 hs8 kp8 x8 ha8 hlt (mArr_I (by decide) rfl) (by decide +kernel) (show 700 * 4 ≤ 536870912 by decide) (by omega) (by omega) d_Model_init_43 (fun G9 z9 hs9 kp9 x9 ha9 => ?_)
  clear z8 hs8 kp8 x8 ha8
  replace hs9 := h2x (r := 2056) hs9 rfl
  refine mc_put (k := 7) (c := 5) (F := fun j => mArr E j (fun _ => 0)) (fs' := [.int (0), .ref (n + 0), .ref (n + 1), .ref (n + 2), .int (0), .int (0), .ref (n + 3), .ref (n + 4), .null, .null, .null, .null, .null, .null, .int (0), .int (0), .int (0), .null, .null, .int (0), .int (0), .int (0), .int (0), .int (0), .int (0), .int (0), .int (0), .null, .null, .null, .null, .null, .null, .null, .int (0), .null, .null, .null, .null, .null, .null, .null, .null, .null, .null, .null, .int (0), .int (0), .null, .null, .null, .null, .null, .null, .int (0), .null, .null, .null, .int (0), .int (0)]) z9 hs9 kp9 x9 ha9 hlt fl_Model_22 (by decide) rfl rfl rfl rfl rfl (Nat.le_of_ble_eq_true rfl) rfl d_Model_init_45 (fun G10 z10 hs10 kp10 x10 ha10 => ?_)
  clear z9 hs9 kp9 x9 ha9
  refine g_aload_n d_Model_init_48 rfl ?_
  refine g_sipush (v := 700) d_Model_init_49 (by decide +kernel) ?_
  refine mc_newI (sz := 700) (c := 5) (F := fun j => mArr E j (fun _ => 0)) z10 hs10 kp10 x10 ha10 hlt (mArr_I (by decide) rfl) (by decide +kernel) (show 700 * 4 ≤ 536870912 by decide) (by omega) (by omega) d_Model_init_52 (fun G11 z11 hs11 kp11 x11 ha11 => ?_)
  clear z10 hs10 kp10 x10 ha10
  replace hs11 := h2x (r := 2756) hs11 rfl
  refine mc_put (k := 8) (c := 6) (F := fun j => mArr E j (fun _ => 0)) (fs' := [.int (0), .ref (n + 0), .ref (n + 1), .ref (n + 2), .int (0), .int (0), .ref (n + 3), .ref (n + 4), .ref (n + 5), .null, .null, .null, .null, .null, .int (0), .int (0), .int (0), .null, .null, .int (0), .int (0), .int (0), .int (0), .int (0), .int (0), .int (0), .int (0), .null, .null, .null, .null, .null, .null, .null, .int (0), .null, .null, .null, .null, .null, .null, .null, .null, .null, .null, .null, .int (0), .int (0), .null, .null, .null, .null, .null, .null, .int (0), .null, .null, .null, .int (0), .int (0)]) z11 hs11 kp11 x11 ha11 hlt fl_Model_25 (by decide) rfl rfl rfl rfl rfl (Nat.le_of_ble_eq_true rfl) rfl d_Model_init_54 (fun G12 z12 hs12 kp12 x12 ha12 => ?_)
  clear z11 hs11 kp11 x11 ha11
  refine g_aload_n d_Model_init_57 rfl ?_
  refine g_sipush (v := 2800) d_Model_init_58 (by decide +kernel) ?_
  refine mc_newI (sz := 2800) (c := 6) (F := fun j => mArr E j (fun _ => 0)) z12 hs12 kp12 x12 ha12 hlt (mArr_I (by decide) rfl) (by decide +kernel) (show 2800 * 4 ≤ 536870912 by decide) (by omega) (by omega) d_Model_init_61 (fun G13 z13 hs13 kp13 x13 ha13 => ?_)
  clear z12 hs12 kp12 x12 ha12
  replace hs13 := h2x (r := 5556) hs13 rfl
  refine mc_put (k := 9) (c := 7) (F := fun j => mArr E j (fun _ => 0)) (fs' := [.int (0), .ref (n + 0), .ref (n + 1), .ref (n + 2), .int (0), .int (0), .ref (n + 3), .ref (n + 4), .ref (n + 5), .ref (n + 6), .null, .null, .null, .null, .int (0), .int (0), .int (0), .null, .null, .int (0), .int (0), .int (0), .int (0), .int (0), .int (0), .int (0), .int (0), .null, .null, .null, .null, .null, .null, .null, .int (0), .null, .null, .null, .null, .null, .null, .null, .null, .null, .null, .null, .int (0), .int (0), .null, .null, .null, .null, .null, .null, .int (0), .null, .null, .null, .int (0), .int (0)]) z13 hs13 kp13 x13 ha13 hlt fl_Model_28 (by decide) rfl rfl rfl rfl rfl (Nat.le_of_ble_eq_true rfl) rfl d_Model_init_63 (fun G14 z14 hs14 kp14 x14 ha14 => ?_)
  clear z13 hs13 kp13 x13 ha13
  refine g_aload_n d_Model_init_66 rfl ?_
  refine g_sipush (v := 700) d_Model_init_67 (by decide +kernel) ?_
  refine mc_newI (sz := 700) (c := 7) (F := fun j => mArr E j (fun _ => 0)) z14 hs14 kp14 x14 ha14 hlt (mArr_I (by decide) rfl) (by decide +kernel) (show 700 * 4 ≤ 536870912 by decide) (by omega) (by omega) d_Model_init_70 (fun G15 z15 hs15 kp15 x15 ha15 => ?_)
  clear z14 hs14 kp14 x14 ha14
  replace hs15 := h2x (r := 6256) hs15 rfl
  refine mc_put (k := 10) (c := 8) (F := fun j => mArr E j (fun _ => 0)) (fs' := [.int (0), .ref (n + 0), .ref (n + 1), .ref (n + 2), .int (0), .int (0), .ref (n + 3), .ref (n + 4), .ref (n + 5), .ref (n + 6), .ref (n + 7), .null, .null, .null, .int (0), .int (0), .int (0), .null, .null, .int (0), .int (0), .int (0), .int (0), .int (0), .int (0), .int (0), .int (0), .null, .null, .null, .null, .null, .null, .null, .int (0), .null, .null, .null, .null, .null, .null, .null, .null, .null, .null, .null, .int (0), .int (0), .null, .null, .null, .null, .null, .null, .int (0), .null, .null, .null, .int (0), .int (0)]) z15 hs15 kp15 x15 ha15 hlt fl_Model_31 (by decide) rfl rfl rfl rfl rfl (Nat.le_of_ble_eq_true rfl) rfl d_Model_init_72 (fun G16 z16 hs16 kp16 x16 ha16 => ?_)
  clear z15 hs15 kp15 x15 ha15
  exact m_Model_init_8 z16 hs16 kp16 x16 ha16 hlt hc hr
set_option maxHeartbeats 4000000 in
set_option maxRecDepth 100000 in
theorem m_Model_init {sl : Nat} (ha : G.1 a = some (.inr (13, [.int (0), .null, .null, .null, .int (0), .int (0), .null, .null, .null, .null, .null, .null, .null, .null, .int (0), .int (0), .int (0), .null, .null, .int (0), .int (0), .int (0), .int (0), .int (0), .int (0), .int (0), .int (0), .null, .null, .null, .null, .null, .null, .null, .int (0), .null, .null, .null, .null, .null, .null, .null, .null, .null, .null, .null, .int (0), .int (0), .null, .null, .null, .null, .null, .null, .int (0), .null, .null, .null, .int (0), .int (0)]))) (hn : G.2.1 = n) (hs : G.2.2 = sl) (hlt : a < n) (hc : n + 40 ≤ E.1.heap.size + room_1.cells) (hr : sl + 2690820 ≤ room_1.slots) : GM E Y_Model_init (d + 1) [.ref a] G (rPost none (fun G' => G'.2.1 = n + 40 ∧ G'.2.2 = sl + 2690820 ∧ gKeep n a G G' ∧ G'.1 a = some (.inr (13, mFs n (upd (fun _ => 0) 54 0))) ∧ G'.1 (n + 38) = some (gAI E 8 (fillF (fun _ => 0) 8 (-1))) ∧ ∀ j, j < 40 → j ≠ 38 → G'.1 (n + j) = some (mArr E j (fun _ => 0)))) := by
  refine g_entry (by decide) (by simp [Value.category]) (Nat.le_of_ble_eq_true rfl) ?_
  refine g_aload_n d_Model_init_0 rfl ?_
  refine g_objInit ml_Model_1 w_objI w_objC (Nat.le_of_ble_eq_true rfl) d_Model_init_1 ?_
  exact m_Model_init_0 hn hs gKeep.rf (fun j hj => by omega) ha hlt hc hr
end MD
