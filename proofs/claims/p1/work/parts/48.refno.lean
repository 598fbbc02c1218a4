/-! The reference where nothing has been made -/
theorem d_Model_build_0 : decode Y_Model_build.2.1 0 = .ok (.aload_n 0, 1) := by decide +kernel
theorem d_Model_build_1 : decode Y_Model_build.2.1 1 = .ok (.aload_n 0, 1) := by decide +kernel
theorem d_Model_build_2 : decode Y_Model_build.2.1 2 = .ok (.getfield 181, 3) := by decide +kernel
theorem d_Model_build_5 : decode Y_Model_build.2.1 5 = .ok (.ifCond .ne 7, 3) := by decide +kernel
theorem d_Model_build_8 : decode Y_Model_build.2.1 8 = .ok (.iconst 1, 1) := by decide +kernel
theorem d_Model_build_9 : decode Y_Model_build.2.1 9 = .ok (.goto 4, 3) := by decide +kernel
theorem d_Model_build_12 : decode Y_Model_build.2.1 12 = .ok (.iconst 0, 1) := by decide +kernel
theorem d_Model_build_13 : decode Y_Model_build.2.1 13 = .ok (.invokevirtual 153, 3) := by decide +kernel
theorem d_Model_build_16 : decode Y_Model_build.2.1 16 = .ok (.ifCond .eq 5, 3) := by decide +kernel
theorem d_Model_build_19 : decode Y_Model_build.2.1 19 = .ok (.iconst 0, 1) := by decide +kernel
theorem d_Model_build_20 : decode Y_Model_build.2.1 20 = .ok (.ireturn, 1) := by decide +kernel
theorem d_Model_build_21 : decode Y_Model_build.2.1 21 = .ok (.aload_n 0, 1) := by decide +kernel
theorem d_Model_build_22 : decode Y_Model_build.2.1 22 = .ok (.iconst 0, 1) := by decide +kernel
theorem d_Model_build_23 : decode Y_Model_build.2.1 23 = .ok (.putfield 184, 3) := by decide +kernel
theorem d_Model_build_26 : decode Y_Model_build.2.1 26 = .ok (.aload_n 0, 1) := by decide +kernel
theorem d_Model_build_27 : decode Y_Model_build.2.1 27 = .ok (.iconst 0, 1) := by decide +kernel
theorem d_Model_build_28 : decode Y_Model_build.2.1 28 = .ok (.putfield 225, 3) := by decide +kernel
theorem d_Model_build_31 : decode Y_Model_build.2.1 31 = .ok (.aload_n 0, 1) := by decide +kernel
theorem d_Model_build_32 : decode Y_Model_build.2.1 32 = .ok (.iconst 0, 1) := by decide +kernel
theorem d_Model_build_33 : decode Y_Model_build.2.1 33 = .ok (.putfield 228, 3) := by decide +kernel
theorem d_Model_build_36 : decode Y_Model_build.2.1 36 = .ok (.aload_n 0, 1) := by decide +kernel
theorem d_Model_build_37 : decode Y_Model_build.2.1 37 = .ok (.iconst 0, 1) := by decide +kernel
theorem d_Model_build_38 : decode Y_Model_build.2.1 38 = .ok (.putfield 231, 3) := by decide +kernel
theorem d_Model_build_41 : decode Y_Model_build.2.1 41 = .ok (.aload_n 0, 1) := by decide +kernel
theorem d_Model_build_42 : decode Y_Model_build.2.1 42 = .ok (.iconst 0, 1) := by decide +kernel
theorem d_Model_build_43 : decode Y_Model_build.2.1 43 = .ok (.putfield 234, 3) := by decide +kernel
theorem d_Model_build_46 : decode Y_Model_build.2.1 46 = .ok (.aload_n 0, 1) := by decide +kernel
theorem d_Model_build_47 : decode Y_Model_build.2.1 47 = .ok (.iconst 0, 1) := by decide +kernel
theorem d_Model_build_48 : decode Y_Model_build.2.1 48 = .ok (.putfield 237, 3) := by decide +kernel
theorem d_Model_build_51 : decode Y_Model_build.2.1 51 = .ok (.aload_n 0, 1) := by decide +kernel
theorem d_Model_build_52 : decode Y_Model_build.2.1 52 = .ok (.iconst 0, 1) := by decide +kernel
theorem d_Model_build_53 : decode Y_Model_build.2.1 53 = .ok (.putfield 240, 3) := by decide +kernel
theorem d_Model_build_56 : decode Y_Model_build.2.1 56 = .ok (.aload_n 0, 1) := by decide +kernel
theorem d_Model_build_57 : decode Y_Model_build.2.1 57 = .ok (.iconst 0, 1) := by decide +kernel
theorem d_Model_build_58 : decode Y_Model_build.2.1 58 = .ok (.putfield 243, 3) := by decide +kernel
theorem d_Model_build_61 : decode Y_Model_build.2.1 61 = .ok (.aload_n 0, 1) := by decide +kernel
theorem d_Model_build_62 : decode Y_Model_build.2.1 62 = .ok (.iconst 1, 1) := by decide +kernel
theorem d_Model_build_63 : decode Y_Model_build.2.1 63 = .ok (.putfield 202, 3) := by decide +kernel
theorem d_Model_build_66 : decode Y_Model_build.2.1 66 = .ok (.aload_n 0, 1) := by decide +kernel
theorem d_Model_build_67 : decode Y_Model_build.2.1 67 = .ok (.getfield 71, 3) := by decide +kernel
theorem d_Model_build_70 : decode Y_Model_build.2.1 70 = .ok (.iconst 0, 1) := by decide +kernel
theorem d_Model_build_71 : decode Y_Model_build.2.1 71 = .ok (.iconst 0, 1) := by decide +kernel
theorem d_Model_build_72 : decode Y_Model_build.2.1 72 = .ok (.iastore, 1) := by decide +kernel
theorem d_Model_build_73 : decode Y_Model_build.2.1 73 = .ok (.aload_n 0, 1) := by decide +kernel
theorem d_Model_build_74 : decode Y_Model_build.2.1 74 = .ok (.getfield 74, 3) := by decide +kernel
theorem d_Model_build_77 : decode Y_Model_build.2.1 77 = .ok (.iconst 0, 1) := by decide +kernel
theorem d_Model_build_78 : decode Y_Model_build.2.1 78 = .ok (.aload_n 0, 1) := by decide +kernel
theorem d_Model_build_79 : decode Y_Model_build.2.1 79 = .ok (.getfield 22, 3) := by decide +kernel
theorem d_Model_build_82 : decode Y_Model_build.2.1 82 = .ok (.aload_n 0, 1) := by decide +kernel
theorem d_Model_build_83 : decode Y_Model_build.2.1 83 = .ok (.getfield 43, 3) := by decide +kernel
theorem d_Model_build_86 : decode Y_Model_build.2.1 86 = .ok (.iconst 0, 1) := by decide +kernel
theorem d_Model_build_87 : decode Y_Model_build.2.1 87 = .ok (.iaload, 1) := by decide +kernel
theorem d_Model_build_88 : decode Y_Model_build.2.1 88 = .ok (.iaload, 1) := by decide +kernel
theorem d_Model_build_89 : decode Y_Model_build.2.1 89 = .ok (.iastore, 1) := by decide +kernel
theorem d_Model_build_90 : decode Y_Model_build.2.1 90 = .ok (.aload_n 0, 1) := by decide +kernel
theorem d_Model_build_91 : decode Y_Model_build.2.1 91 = .ok (.getfield 81, 3) := by decide +kernel
theorem d_Model_build_94 : decode Y_Model_build.2.1 94 = .ok (.iconst 0, 1) := by decide +kernel
theorem d_Model_build_95 : decode Y_Model_build.2.1 95 = .ok (.iconst 0, 1) := by decide +kernel
theorem d_Model_build_96 : decode Y_Model_build.2.1 96 = .ok (.iastore, 1) := by decide +kernel
theorem d_Model_build_97 : decode Y_Model_build.2.1 97 = .ok (.iconst 0, 1) := by decide +kernel
theorem d_Model_build_98 : decode Y_Model_build.2.1 98 = .ok (.istore_n 1, 1) := by decide +kernel
theorem d_Model_build_99 : decode Y_Model_build.2.1 99 = .ok (.iload_n 1, 1) := by decide +kernel
theorem d_Model_build_100 : decode Y_Model_build.2.1 100 = .ok (.bipush 32, 2) := by decide +kernel
theorem d_Model_build_102 : decode Y_Model_build.2.1 102 = .ok (.if_icmp .ge 16, 3) := by decide +kernel
theorem d_Model_build_105 : decode Y_Model_build.2.1 105 = .ok (.aload_n 0, 1) := by decide +kernel
theorem d_Model_build_106 : decode Y_Model_build.2.1 106 = .ok (.getfield 78, 3) := by decide +kernel
theorem d_Model_build_109 : decode Y_Model_build.2.1 109 = .ok (.iload_n 1, 1) := by decide +kernel
theorem d_Model_build_110 : decode Y_Model_build.2.1 110 = .ok (.iconst 0, 1) := by decide +kernel
theorem d_Model_build_111 : decode Y_Model_build.2.1 111 = .ok (.iastore, 1) := by decide +kernel
theorem d_Model_build_112 : decode Y_Model_build.2.1 112 = .ok (.iinc 1 1, 3) := by decide +kernel
theorem d_Model_build_115 : decode Y_Model_build.2.1 115 = .ok (.goto (-16), 3) := by decide +kernel
theorem d_Model_build_118 : decode Y_Model_build.2.1 118 = .ok (.aload_n 0, 1) := by decide +kernel
theorem d_Model_build_119 : decode Y_Model_build.2.1 119 = .ok (.invokevirtual 246, 3) := by decide +kernel
theorem d_Model_build_122 : decode Y_Model_build.2.1 122 = .ok (.iconst 0, 1) := by decide +kernel
theorem d_Model_build_123 : decode Y_Model_build.2.1 123 = .ok (.istore_n 1, 1) := by decide +kernel
theorem d_Model_build_124 : decode Y_Model_build.2.1 124 = .ok (.iconst 0, 1) := by decide +kernel
theorem d_Model_build_125 : decode Y_Model_build.2.1 125 = .ok (.istore_n 2, 1) := by decide +kernel
theorem d_Model_build_126 : decode Y_Model_build.2.1 126 = .ok (.aload_n 0, 1) := by decide +kernel
theorem d_Model_build_127 : decode Y_Model_build.2.1 127 = .ok (.getfield 108, 3) := by decide +kernel
theorem d_Model_build_130 : decode Y_Model_build.2.1 130 = .ok (.iconst 0, 1) := by decide +kernel
theorem d_Model_build_131 : decode Y_Model_build.2.1 131 = .ok (.iconst 0, 1) := by decide +kernel
theorem d_Model_build_132 : decode Y_Model_build.2.1 132 = .ok (.iastore, 1) := by decide +kernel
theorem d_Model_build_133 : decode Y_Model_build.2.1 133 = .ok (.aload_n 0, 1) := by decide +kernel
theorem d_Model_build_134 : decode Y_Model_build.2.1 134 = .ok (.getfield 111, 3) := by decide +kernel
theorem d_Model_build_137 : decode Y_Model_build.2.1 137 = .ok (.iconst 0, 1) := by decide +kernel
theorem d_Model_build_138 : decode Y_Model_build.2.1 138 = .ok (.aload_n 0, 1) := by decide +kernel
theorem d_Model_build_139 : decode Y_Model_build.2.1 139 = .ok (.getfield 192, 3) := by decide +kernel
theorem d_Model_build_142 : decode Y_Model_build.2.1 142 = .ok (.iastore, 1) := by decide +kernel
theorem d_Model_build_143 : decode Y_Model_build.2.1 143 = .ok (.iconst 1, 1) := by decide +kernel
theorem d_Model_build_144 : decode Y_Model_build.2.1 144 = .ok (.istore_n 3, 1) := by decide +kernel
theorem d_Model_build_145 : decode Y_Model_build.2.1 145 = .ok (.iload_n 1, 1) := by decide +kernel
theorem d_Model_build_146 : decode Y_Model_build.2.1 146 = .ok (.ifCond .lt 328, 3) := by decide +kernel
theorem d_Model_build_149 : decode Y_Model_build.2.1 149 = .ok (.aload_n 0, 1) := by decide +kernel
theorem d_Model_build_150 : decode Y_Model_build.2.1 150 = .ok (.getfield 195, 3) := by decide +kernel
theorem d_Model_build_153 : decode Y_Model_build.2.1 153 = .ok (.ifCond .ne 321, 3) := by decide +kernel
theorem d_Model_build_156 : decode Y_Model_build.2.1 156 = .ok (.iconst 0, 1) := by decide +kernel
theorem d_Model_build_157 : decode Y_Model_build.2.1 157 = .ok (.istore 4, 2) := by decide +kernel
theorem d_Model_build_159 : decode Y_Model_build.2.1 159 = .ok (.iload_n 3, 1) := by decide +kernel
theorem d_Model_build_160 : decode Y_Model_build.2.1 160 = .ok (.ifCond .eq 201, 3) := by decide +kernel
theorem d_Model_build_163 : decode Y_Model_build.2.1 163 = .ok (.aload_n 0, 1) := by decide +kernel
theorem d_Model_build_164 : decode Y_Model_build.2.1 164 = .ok (.getfield 108, 3) := by decide +kernel
theorem d_Model_build_167 : decode Y_Model_build.2.1 167 = .ok (.iload_n 1, 1) := by decide +kernel
theorem d_Model_build_168 : decode Y_Model_build.2.1 168 = .ok (.iaload, 1) := by decide +kernel
theorem d_Model_build_169 : decode Y_Model_build.2.1 169 = .ok (.istore 5, 2) := by decide +kernel
theorem d_Model_build_171 : decode Y_Model_build.2.1 171 = .ok (.aload_n 0, 1) := by decide +kernel
theorem d_Model_build_172 : decode Y_Model_build.2.1 172 = .ok (.getfield 111, 3) := by decide +kernel
theorem d_Model_build_175 : decode Y_Model_build.2.1 175 = .ok (.iload_n 1, 1) := by decide +kernel
theorem d_Model_build_176 : decode Y_Model_build.2.1 176 = .ok (.iaload, 1) := by decide +kernel
theorem d_Model_build_177 : decode Y_Model_build.2.1 177 = .ok (.istore 6, 2) := by decide +kernel
theorem d_Model_build_179 : decode Y_Model_build.2.1 179 = .ok (.aload_n 0, 1) := by decide +kernel
theorem d_Model_build_180 : decode Y_Model_build.2.1 180 = .ok (.getfield 114, 3) := by decide +kernel
theorem d_Model_build_183 : decode Y_Model_build.2.1 183 = .ok (.iload_n 1, 1) := by decide +kernel
theorem d_Model_build_184 : decode Y_Model_build.2.1 184 = .ok (.iconst (-1), 1) := by decide +kernel
theorem d_Model_build_185 : decode Y_Model_build.2.1 185 = .ok (.iastore, 1) := by decide +kernel
theorem d_Model_build_186 : decode Y_Model_build.2.1 186 = .ok (.iload 6, 2) := by decide +kernel
theorem d_Model_build_188 : decode Y_Model_build.2.1 188 = .ok (.ifCond .eq 13, 3) := by decide +kernel
theorem d_Model_build_191 : decode Y_Model_build.2.1 191 = .ok (.aload_n 0, 1) := by decide +kernel
theorem d_Model_build_192 : decode Y_Model_build.2.1 192 = .ok (.getfield 94, 3) := by decide +kernel
theorem d_Model_build_195 : decode Y_Model_build.2.1 195 = .ok (.iload 5, 2) := by decide +kernel
theorem d_Model_build_197 : decode Y_Model_build.2.1 197 = .ok (.iaload, 1) := by decide +kernel
theorem d_Model_build_198 : decode Y_Model_build.2.1 198 = .ok (.ifCond .ne 23, 3) := by decide +kernel
theorem d_Model_build_201 : decode Y_Model_build.2.1 201 = .ok (.aload_n 0, 1) := by decide +kernel
theorem d_Model_build_202 : decode Y_Model_build.2.1 202 = .ok (.iload_n 2, 1) := by decide +kernel
theorem d_Model_build_203 : decode Y_Model_build.2.1 203 = .ok (.aload_n 0, 1) := by decide +kernel
theorem d_Model_build_204 : decode Y_Model_build.2.1 204 = .ok (.getfield 234, 3) := by decide +kernel
theorem d_Model_build_207 : decode Y_Model_build.2.1 207 = .ok (.if_icmp .le 7, 3) := by decide +kernel
theorem d_Model_build_210 : decode Y_Model_build.2.1 210 = .ok (.iload_n 2, 1) := by decide +kernel
theorem d_Model_build_211 : decode Y_Model_build.2.1 211 = .ok (.goto 7, 3) := by decide +kernel
theorem d_Model_build_214 : decode Y_Model_build.2.1 214 = .ok (.aload_n 0, 1) := by decide +kernel
theorem d_Model_build_215 : decode Y_Model_build.2.1 215 = .ok (.getfield 234, 3) := by decide +kernel
theorem d_Model_build_218 : decode Y_Model_build.2.1 218 = .ok (.putfield 234, 3) := by decide +kernel
theorem d_Model_build_221 : decode Y_Model_build.2.1 221 = .ok (.iload 6, 2) := by decide +kernel
theorem d_Model_build_223 : decode Y_Model_build.2.1 223 = .ok (.ifCond .ne 28, 3) := by decide +kernel
theorem d_Model_build_226 : decode Y_Model_build.2.1 226 = .ok (.aload_n 0, 1) := by decide +kernel
theorem d_Model_build_227 : decode Y_Model_build.2.1 227 = .ok (.dup, 1) := by decide +kernel
theorem d_Model_build_228 : decode Y_Model_build.2.1 228 = .ok (.getfield 231, 3) := by decide +kernel
theorem d_Model_build_231 : decode Y_Model_build.2.1 231 = .ok (.iconst 1, 1) := by decide +kernel
theorem d_Model_build_232 : decode Y_Model_build.2.1 232 = .ok (.iadd, 1) := by decide +kernel
theorem d_Model_build_233 : decode Y_Model_build.2.1 233 = .ok (.putfield 231, 3) := by decide +kernel
theorem d_Model_build_236 : decode Y_Model_build.2.1 236 = .ok (.aload_n 0, 1) := by decide +kernel
theorem d_Model_build_237 : decode Y_Model_build.2.1 237 = .ok (.getfield 231, 3) := by decide +kernel
theorem d_Model_build_240 : decode Y_Model_build.2.1 240 = .ok (.iconst 1, 1) := by decide +kernel
theorem d_Model_build_241 : decode Y_Model_build.2.1 241 = .ok (.if_icmp .ne 120, 3) := by decide +kernel
theorem d_Model_build_244 : decode Y_Model_build.2.1 244 = .ok (.aload_n 0, 1) := by decide +kernel
theorem d_Model_build_245 : decode Y_Model_build.2.1 245 = .ok (.invokevirtual 249, 3) := by decide +kernel
theorem d_Model_build_248 : decode Y_Model_build.2.1 248 = .ok (.goto 113, 3) := by decide +kernel
theorem d_Model_build_251 : decode Y_Model_build.2.1 251 = .ok (.aload_n 0, 1) := by decide +kernel
theorem d_Model_build_252 : decode Y_Model_build.2.1 252 = .ok (.getfield 94, 3) := by decide +kernel
theorem d_Model_build_255 : decode Y_Model_build.2.1 255 = .ok (.iload 5, 2) := by decide +kernel
theorem d_Model_build_257 : decode Y_Model_build.2.1 257 = .ok (.iaload, 1) := by decide +kernel
theorem d_Model_build_258 : decode Y_Model_build.2.1 258 = .ok (.ifCond .ne 76, 3) := by decide +kernel
theorem d_Model_build_261 : decode Y_Model_build.2.1 261 = .ok (.aload_n 0, 1) := by decide +kernel
theorem d_Model_build_262 : decode Y_Model_build.2.1 262 = .ok (.dup, 1) := by decide +kernel
theorem d_Model_build_263 : decode Y_Model_build.2.1 263 = .ok (.getfield 228, 3) := by decide +kernel
theorem d_Model_build_266 : decode Y_Model_build.2.1 266 = .ok (.iconst 1, 1) := by decide +kernel
theorem d_Model_build_267 : decode Y_Model_build.2.1 267 = .ok (.iadd, 1) := by decide +kernel
theorem d_Model_build_268 : decode Y_Model_build.2.1 268 = .ok (.putfield 228, 3) := by decide +kernel
theorem d_Model_build_271 : decode Y_Model_build.2.1 271 = .ok (.aload_n 0, 1) := by decide +kernel
theorem d_Model_build_272 : decode Y_Model_build.2.1 272 = .ok (.dup, 1) := by decide +kernel
theorem d_Model_build_273 : decode Y_Model_build.2.1 273 = .ok (.getfield 237, 3) := by decide +kernel
theorem d_Model_build_276 : decode Y_Model_build.2.1 276 = .ok (.iconst 1, 1) := by decide +kernel
theorem d_Model_build_277 : decode Y_Model_build.2.1 277 = .ok (.aload_n 0, 1) := by decide +kernel
theorem d_Model_build_278 : decode Y_Model_build.2.1 278 = .ok (.getfield 91, 3) := by decide +kernel
theorem d_Model_build_281 : decode Y_Model_build.2.1 281 = .ok (.iload 5, 2) := by decide +kernel
theorem d_Model_build_283 : decode Y_Model_build.2.1 283 = .ok (.iaload, 1) := by decide +kernel
theorem d_Model_build_284 : decode Y_Model_build.2.1 284 = .ok (.ishl, 1) := by decide +kernel
theorem d_Model_build_285 : decode Y_Model_build.2.1 285 = .ok (.ior, 1) := by decide +kernel
theorem d_Model_build_286 : decode Y_Model_build.2.1 286 = .ok (.putfield 237, 3) := by decide +kernel
theorem d_Model_build_289 : decode Y_Model_build.2.1 289 = .ok (.aload_n 0, 1) := by decide +kernel
theorem d_Model_build_290 : decode Y_Model_build.2.1 290 = .ok (.getfield 46, 3) := by decide +kernel
theorem d_Model_build_293 : decode Y_Model_build.2.1 293 = .ok (.aload_n 0, 1) := by decide +kernel
theorem d_Model_build_294 : decode Y_Model_build.2.1 294 = .ok (.getfield 91, 3) := by decide +kernel
theorem d_Model_build_297 : decode Y_Model_build.2.1 297 = .ok (.iload 5, 2) := by decide +kernel
theorem d_Model_build_299 : decode Y_Model_build.2.1 299 = .ok (.iaload, 1) := by decide +kernel
theorem d_Model_build_300 : decode Y_Model_build.2.1 300 = .ok (.baload, 1) := by decide +kernel
theorem d_Model_build_301 : decode Y_Model_build.2.1 301 = .ok (.ifCond .eq 60, 3) := by decide +kernel
theorem d_Model_build_304 : decode Y_Model_build.2.1 304 = .ok (.aload_n 0, 1) := by decide +kernel
theorem d_Model_build_305 : decode Y_Model_build.2.1 305 = .ok (.iload 5, 2) := by decide +kernel
theorem d_Model_build_307 : decode Y_Model_build.2.1 307 = .ok (.iload 6, 2) := by decide +kernel
theorem d_Model_build_309 : decode Y_Model_build.2.1 309 = .ok (.iadd, 1) := by decide +kernel
theorem d_Model_build_310 : decode Y_Model_build.2.1 310 = .ok (.putfield 192, 3) := by decide +kernel
theorem d_Model_build_313 : decode Y_Model_build.2.1 313 = .ok (.aload_n 0, 1) := by decide +kernel
theorem d_Model_build_314 : decode Y_Model_build.2.1 314 = .ok (.iload 5, 2) := by decide +kernel
theorem d_Model_build_316 : decode Y_Model_build.2.1 316 = .ok (.iload 6, 2) := by decide +kernel
theorem d_Model_build_318 : decode Y_Model_build.2.1 318 = .ok (.aload_n 0, 1) := by decide +kernel
theorem d_Model_build_319 : decode Y_Model_build.2.1 319 = .ok (.getfield 91, 3) := by decide +kernel
theorem d_Model_build_322 : decode Y_Model_build.2.1 322 = .ok (.iload 5, 2) := by decide +kernel
theorem d_Model_build_324 : decode Y_Model_build.2.1 324 = .ok (.iaload, 1) := by decide +kernel
theorem d_Model_build_325 : decode Y_Model_build.2.1 325 = .ok (.invokevirtual 252, 3) := by decide +kernel
theorem d_Model_build_328 : decode Y_Model_build.2.1 328 = .ok (.iconst 1, 1) := by decide +kernel
theorem d_Model_build_329 : decode Y_Model_build.2.1 329 = .ok (.istore 4, 2) := by decide +kernel
theorem d_Model_build_331 : decode Y_Model_build.2.1 331 = .ok (.goto 30, 3) := by decide +kernel
theorem d_Model_build_334 : decode Y_Model_build.2.1 334 = .ok (.aload_n 0, 1) := by decide +kernel
theorem d_Model_build_335 : decode Y_Model_build.2.1 335 = .ok (.getfield 225, 3) := by decide +kernel
theorem d_Model_build_338 : decode Y_Model_build.2.1 338 = .ok (.sipush 1000, 3) := by decide +kernel
theorem d_Model_build_341 : decode Y_Model_build.2.1 341 = .ok (.if_icmp .ne 11, 3) := by decide +kernel
theorem d_Model_build_344 : decode Y_Model_build.2.1 344 = .ok (.aload_n 0, 1) := by decide +kernel
theorem d_Model_build_345 : decode Y_Model_build.2.1 345 = .ok (.iconst 1, 1) := by decide +kernel
theorem d_Model_build_346 : decode Y_Model_build.2.1 346 = .ok (.putfield 195, 3) := by decide +kernel
theorem d_Model_build_349 : decode Y_Model_build.2.1 349 = .ok (.goto 12, 3) := by decide +kernel
theorem d_Model_build_352 : decode Y_Model_build.2.1 352 = .ok (.aload_n 0, 1) := by decide +kernel
theorem d_Model_build_353 : decode Y_Model_build.2.1 353 = .ok (.iload_n 1, 1) := by decide +kernel
theorem d_Model_build_354 : decode Y_Model_build.2.1 354 = .ok (.iload_n 2, 1) := by decide +kernel
theorem d_Model_build_355 : decode Y_Model_build.2.1 355 = .ok (.invokevirtual 255, 3) := by decide +kernel
theorem d_Model_build_358 : decode Y_Model_build.2.1 358 = .ok (.iinc 2 1, 3) := by decide +kernel
theorem d_Model_build_361 : decode Y_Model_build.2.1 361 = .ok (.aload_n 0, 1) := by decide +kernel
theorem d_Model_build_362 : decode Y_Model_build.2.1 362 = .ok (.getfield 195, 3) := by decide +kernel
theorem d_Model_build_365 : decode Y_Model_build.2.1 365 = .ok (.ifCond .ne 33, 3) := by decide +kernel
theorem d_Model_build_368 : decode Y_Model_build.2.1 368 = .ok (.aload_n 0, 1) := by decide +kernel
theorem d_Model_build_369 : decode Y_Model_build.2.1 369 = .ok (.getfield 114, 3) := by decide +kernel
theorem d_Model_build_372 : decode Y_Model_build.2.1 372 = .ok (.iload_n 1, 1) := by decide +kernel
theorem d_Model_build_373 : decode Y_Model_build.2.1 373 = .ok (.iaload, 1) := by decide +kernel
theorem d_Model_build_374 : decode Y_Model_build.2.1 374 = .ok (.iconst (-1), 1) := by decide +kernel
theorem d_Model_build_375 : decode Y_Model_build.2.1 375 = .ok (.if_icmp .eq 23, 3) := by decide +kernel
theorem d_Model_build_378 : decode Y_Model_build.2.1 378 = .ok (.aload_n 0, 1) := by decide +kernel
theorem d_Model_build_379 : decode Y_Model_build.2.1 379 = .ok (.iload_n 1, 1) := by decide +kernel
theorem d_Model_build_380 : decode Y_Model_build.2.1 380 = .ok (.invokevirtual 258, 3) := by decide +kernel
theorem d_Model_build_383 : decode Y_Model_build.2.1 383 = .ok (.istore 4, 2) := by decide +kernel
theorem d_Model_build_385 : decode Y_Model_build.2.1 385 = .ok (.iload_n 2, 1) := by decide +kernel
theorem d_Model_build_386 : decode Y_Model_build.2.1 386 = .ok (.iload 4, 2) := by decide +kernel
theorem d_Model_build_388 : decode Y_Model_build.2.1 388 = .ok (.ifCond .eq 7, 3) := by decide +kernel
theorem d_Model_build_391 : decode Y_Model_build.2.1 391 = .ok (.iconst 0, 1) := by decide +kernel
theorem d_Model_build_392 : decode Y_Model_build.2.1 392 = .ok (.goto 4, 3) := by decide +kernel
theorem d_Model_build_395 : decode Y_Model_build.2.1 395 = .ok (.iconst 1, 1) := by decide +kernel
theorem d_Model_build_396 : decode Y_Model_build.2.1 396 = .ok (.isub, 1) := by decide +kernel
theorem d_Model_build_397 : decode Y_Model_build.2.1 397 = .ok (.istore_n 2, 1) := by decide +kernel
theorem d_Model_build_398 : decode Y_Model_build.2.1 398 = .ok (.aload_n 0, 1) := by decide +kernel
theorem d_Model_build_399 : decode Y_Model_build.2.1 399 = .ok (.getfield 195, 3) := by decide +kernel
theorem d_Model_build_402 : decode Y_Model_build.2.1 402 = .ok (.ifCond .eq 6, 3) := by decide +kernel
theorem d_Model_build_405 : decode Y_Model_build.2.1 405 = .ok (.goto (-260), 3) := by decide +kernel
theorem d_Model_build_408 : decode Y_Model_build.2.1 408 = .ok (.iload 4, 2) := by decide +kernel
theorem d_Model_build_410 : decode Y_Model_build.2.1 410 = .ok (.ifCond .eq 45, 3) := by decide +kernel
theorem d_Model_build_413 : decode Y_Model_build.2.1 413 = .ok (.aload_n 0, 1) := by decide +kernel
theorem d_Model_build_414 : decode Y_Model_build.2.1 414 = .ok (.getfield 108, 3) := by decide +kernel
theorem d_Model_build_417 : decode Y_Model_build.2.1 417 = .ok (.iload_n 1, 1) := by decide +kernel
theorem d_Model_build_418 : decode Y_Model_build.2.1 418 = .ok (.iconst 1, 1) := by decide +kernel
theorem d_Model_build_419 : decode Y_Model_build.2.1 419 = .ok (.iadd, 1) := by decide +kernel
theorem d_Model_build_420 : decode Y_Model_build.2.1 420 = .ok (.aload_n 0, 1) := by decide +kernel
theorem d_Model_build_421 : decode Y_Model_build.2.1 421 = .ok (.getfield 108, 3) := by decide +kernel
theorem d_Model_build_424 : decode Y_Model_build.2.1 424 = .ok (.iload_n 1, 1) := by decide +kernel
theorem d_Model_build_425 : decode Y_Model_build.2.1 425 = .ok (.iaload, 1) := by decide +kernel
theorem d_Model_build_426 : decode Y_Model_build.2.1 426 = .ok (.aload_n 0, 1) := by decide +kernel
theorem d_Model_build_427 : decode Y_Model_build.2.1 427 = .ok (.getfield 111, 3) := by decide +kernel
theorem d_Model_build_430 : decode Y_Model_build.2.1 430 = .ok (.iload_n 1, 1) := by decide +kernel
theorem d_Model_build_431 : decode Y_Model_build.2.1 431 = .ok (.iaload, 1) := by decide +kernel
theorem d_Model_build_432 : decode Y_Model_build.2.1 432 = .ok (.iadd, 1) := by decide +kernel
theorem d_Model_build_433 : decode Y_Model_build.2.1 433 = .ok (.iastore, 1) := by decide +kernel
theorem d_Model_build_434 : decode Y_Model_build.2.1 434 = .ok (.aload_n 0, 1) := by decide +kernel
theorem d_Model_build_435 : decode Y_Model_build.2.1 435 = .ok (.getfield 111, 3) := by decide +kernel
theorem d_Model_build_438 : decode Y_Model_build.2.1 438 = .ok (.iload_n 1, 1) := by decide +kernel
theorem d_Model_build_439 : decode Y_Model_build.2.1 439 = .ok (.iconst 1, 1) := by decide +kernel
theorem d_Model_build_440 : decode Y_Model_build.2.1 440 = .ok (.iadd, 1) := by decide +kernel
theorem d_Model_build_441 : decode Y_Model_build.2.1 441 = .ok (.aload_n 0, 1) := by decide +kernel
theorem d_Model_build_442 : decode Y_Model_build.2.1 442 = .ok (.getfield 192, 3) := by decide +kernel
theorem d_Model_build_445 : decode Y_Model_build.2.1 445 = .ok (.aload_n 0, 1) := by decide +kernel
theorem d_Model_build_446 : decode Y_Model_build.2.1 446 = .ok (.getfield 108, 3) := by decide +kernel
theorem d_Model_build_449 : decode Y_Model_build.2.1 449 = .ok (.iload_n 1, 1) := by decide +kernel
theorem d_Model_build_450 : decode Y_Model_build.2.1 450 = .ok (.iconst 1, 1) := by decide +kernel
theorem d_Model_build_451 : decode Y_Model_build.2.1 451 = .ok (.iadd, 1) := by decide +kernel
theorem d_Model_build_452 : decode Y_Model_build.2.1 452 = .ok (.iaload, 1) := by decide +kernel
theorem d_Model_build_453 : decode Y_Model_build.2.1 453 = .ok (.isub, 1) := by decide +kernel
theorem d_Model_build_454 : decode Y_Model_build.2.1 454 = .ok (.iastore, 1) := by decide +kernel
theorem d_Model_build_455 : decode Y_Model_build.2.1 455 = .ok (.iload_n 1, 1) := by decide +kernel
theorem d_Model_build_456 : decode Y_Model_build.2.1 456 = .ok (.iload 4, 2) := by decide +kernel
theorem d_Model_build_458 : decode Y_Model_build.2.1 458 = .ok (.ifCond .eq 7, 3) := by decide +kernel
theorem d_Model_build_461 : decode Y_Model_build.2.1 461 = .ok (.iconst 1, 1) := by decide +kernel
theorem d_Model_build_462 : decode Y_Model_build.2.1 462 = .ok (.goto 4, 3) := by decide +kernel
theorem d_Model_build_465 : decode Y_Model_build.2.1 465 = .ok (.iconst (-1), 1) := by decide +kernel
theorem d_Model_build_466 : decode Y_Model_build.2.1 466 = .ok (.iadd, 1) := by decide +kernel
theorem d_Model_build_467 : decode Y_Model_build.2.1 467 = .ok (.istore_n 1, 1) := by decide +kernel
theorem d_Model_build_468 : decode Y_Model_build.2.1 468 = .ok (.iload 4, 2) := by decide +kernel
theorem d_Model_build_470 : decode Y_Model_build.2.1 470 = .ok (.istore_n 3, 1) := by decide +kernel
theorem d_Model_build_471 : decode Y_Model_build.2.1 471 = .ok (.goto (-326), 3) := by decide +kernel
theorem d_Model_build_474 : decode Y_Model_build.2.1 474 = .ok (.aload_n 0, 1) := by decide +kernel
theorem d_Model_build_475 : decode Y_Model_build.2.1 475 = .ok (.aload_n 0, 1) := by decide +kernel
theorem d_Model_build_476 : decode Y_Model_build.2.1 476 = .ok (.getfield 195, 3) := by decide +kernel
theorem d_Model_build_479 : decode Y_Model_build.2.1 479 = .ok (.ifCond .eq 7, 3) := by decide +kernel
theorem d_Model_build_482 : decode Y_Model_build.2.1 482 = .ok (.iconst 2, 1) := by decide +kernel
theorem d_Model_build_483 : decode Y_Model_build.2.1 483 = .ok (.goto 4, 3) := by decide +kernel
theorem d_Model_build_486 : decode Y_Model_build.2.1 486 = .ok (.iconst 0, 1) := by decide +kernel
theorem d_Model_build_487 : decode Y_Model_build.2.1 487 = .ok (.invokevirtual 153, 3) := by decide +kernel
theorem d_Model_build_490 : decode Y_Model_build.2.1 490 = .ok (.ifCond .eq 5, 3) := by decide +kernel
theorem d_Model_build_493 : decode Y_Model_build.2.1 493 = .ok (.iconst 0, 1) := by decide +kernel
theorem d_Model_build_494 : decode Y_Model_build.2.1 494 = .ok (.ireturn, 1) := by decide +kernel
theorem d_Model_build_495 : decode Y_Model_build.2.1 495 = .ok (.aload_n 0, 1) := by decide +kernel
theorem d_Model_build_496 : decode Y_Model_build.2.1 496 = .ok (.iconst 1, 1) := by decide +kernel
theorem d_Model_build_497 : decode Y_Model_build.2.1 497 = .ok (.putfield 184, 3) := by decide +kernel
theorem d_Model_build_500 : decode Y_Model_build.2.1 500 = .ok (.aload_n 0, 1) := by decide +kernel
theorem d_Model_build_501 : decode Y_Model_build.2.1 501 = .ok (.getfield 225, 3) := by decide +kernel
theorem d_Model_build_504 : decode Y_Model_build.2.1 504 = .ok (.ireturn, 1) := by decide +kernel
theorem d_Model_match_0 : decode Y_Model_match.2.1 0 = .ok (.aload_n 0, 1) := by decide +kernel
theorem d_Model_match_1 : decode Y_Model_match.2.1 1 = .ok (.getfield 184, 3) := by decide +kernel
theorem d_Model_match_4 : decode Y_Model_match.2.1 4 = .ok (.ifCond .eq 44, 3) := by decide +kernel
theorem d_Model_match_7 : decode Y_Model_match.2.1 7 = .ok (.aload_n 0, 1) := by decide +kernel
theorem d_Model_match_8 : decode Y_Model_match.2.1 8 = .ok (.getfield 163, 3) := by decide +kernel
theorem d_Model_match_11 : decode Y_Model_match.2.1 11 = .ok (.ifCond .le 37, 3) := by decide +kernel
theorem d_Model_match_14 : decode Y_Model_match.2.1 14 = .ok (.aload_n 0, 1) := by decide +kernel
theorem d_Model_match_15 : decode Y_Model_match.2.1 15 = .ok (.getfield 22, 3) := by decide +kernel
theorem d_Model_match_18 : decode Y_Model_match.2.1 18 = .ok (.aload_n 0, 1) := by decide +kernel
theorem d_Model_match_19 : decode Y_Model_match.2.1 19 = .ok (.getfield 40, 3) := by decide +kernel
theorem d_Model_match_22 : decode Y_Model_match.2.1 22 = .ok (.aload_n 0, 1) := by decide +kernel
theorem d_Model_match_23 : decode Y_Model_match.2.1 23 = .ok (.getfield 163, 3) := by decide +kernel
theorem d_Model_match_26 : decode Y_Model_match.2.1 26 = .ok (.iconst 1, 1) := by decide +kernel
theorem d_Model_match_27 : decode Y_Model_match.2.1 27 = .ok (.isub, 1) := by decide +kernel
theorem d_Model_match_28 : decode Y_Model_match.2.1 28 = .ok (.iaload, 1) := by decide +kernel
theorem d_Model_match_29 : decode Y_Model_match.2.1 29 = .ok (.iaload, 1) := by decide +kernel
theorem d_Model_match_30 : decode Y_Model_match.2.1 30 = .ok (.aload_n 0, 1) := by decide +kernel
theorem d_Model_match_31 : decode Y_Model_match.2.1 31 = .ok (.getfield 22, 3) := by decide +kernel
theorem d_Model_match_34 : decode Y_Model_match.2.1 34 = .ok (.aload_n 0, 1) := by decide +kernel
theorem d_Model_match_35 : decode Y_Model_match.2.1 35 = .ok (.getfield 43, 3) := by decide +kernel
theorem d_Model_match_38 : decode Y_Model_match.2.1 38 = .ok (.iconst 0, 1) := by decide +kernel
theorem d_Model_match_39 : decode Y_Model_match.2.1 39 = .ok (.iaload, 1) := by decide +kernel
theorem d_Model_match_40 : decode Y_Model_match.2.1 40 = .ok (.iaload, 1) := by decide +kernel
theorem d_Model_match_41 : decode Y_Model_match.2.1 41 = .ok (.if_icmp .ne 7, 3) := by decide +kernel
theorem d_Model_match_44 : decode Y_Model_match.2.1 44 = .ok (.iconst 1, 1) := by decide +kernel
theorem d_Model_match_45 : decode Y_Model_match.2.1 45 = .ok (.goto 4, 3) := by decide +kernel
theorem d_Model_match_48 : decode Y_Model_match.2.1 48 = .ok (.iconst 0, 1) := by decide +kernel
theorem d_Model_match_49 : decode Y_Model_match.2.1 49 = .ok (.istore_n 2, 1) := by decide +kernel
theorem d_Model_match_50 : decode Y_Model_match.2.1 50 = .ok (.aload_n 0, 1) := by decide +kernel
theorem d_Model_match_51 : decode Y_Model_match.2.1 51 = .ok (.iload_n 2, 1) := by decide +kernel
theorem d_Model_match_52 : decode Y_Model_match.2.1 52 = .ok (.ifCond .eq 7, 3) := by decide +kernel
theorem d_Model_match_55 : decode Y_Model_match.2.1 55 = .ok (.iconst 0, 1) := by decide +kernel
theorem d_Model_match_56 : decode Y_Model_match.2.1 56 = .ok (.goto 4, 3) := by decide +kernel
theorem d_Model_match_59 : decode Y_Model_match.2.1 59 = .ok (.iconst 1, 1) := by decide +kernel
theorem d_Model_match_60 : decode Y_Model_match.2.1 60 = .ok (.invokevirtual 153, 3) := by decide +kernel
theorem d_Model_match_63 : decode Y_Model_match.2.1 63 = .ok (.ifCond .eq 5, 3) := by decide +kernel
theorem d_Model_match_66 : decode Y_Model_match.2.1 66 = .ok (.iconst 0, 1) := by decide +kernel
theorem d_Model_match_67 : decode Y_Model_match.2.1 67 = .ok (.ireturn, 1) := by decide +kernel
theorem d_Model_match_68 : decode Y_Model_match.2.1 68 = .ok (.aload_n 0, 1) := by decide +kernel
theorem d_Model_match_69 : decode Y_Model_match.2.1 69 = .ok (.invokevirtual 135, 3) := by decide +kernel
theorem d_Model_match_72 : decode Y_Model_match.2.1 72 = .ok (.aload_n 0, 1) := by decide +kernel
theorem d_Model_match_73 : decode Y_Model_match.2.1 73 = .ok (.invokevirtual 246, 3) := by decide +kernel
theorem d_Model_match_76 : decode Y_Model_match.2.1 76 = .ok (.aload_n 0, 1) := by decide +kernel
theorem d_Model_match_77 : decode Y_Model_match.2.1 77 = .ok (.dup, 1) := by decide +kernel
theorem d_Model_match_78 : decode Y_Model_match.2.1 78 = .ok (.getfield 163, 3) := by decide +kernel
theorem d_Model_match_81 : decode Y_Model_match.2.1 81 = .ok (.iconst 1, 1) := by decide +kernel
theorem d_Model_match_82 : decode Y_Model_match.2.1 82 = .ok (.isub, 1) := by decide +kernel
theorem d_Model_match_83 : decode Y_Model_match.2.1 83 = .ok (.putfield 163, 3) := by decide +kernel
theorem d_Model_match_86 : decode Y_Model_match.2.1 86 = .ok (.aload_n 0, 1) := by decide +kernel
theorem d_Model_match_87 : decode Y_Model_match.2.1 87 = .ok (.getfield 87, 3) := by decide +kernel
theorem d_Model_match_90 : decode Y_Model_match.2.1 90 = .ok (.iconst 0, 1) := by decide +kernel
theorem d_Model_match_91 : decode Y_Model_match.2.1 91 = .ok (.aload_n 0, 1) := by decide +kernel
theorem d_Model_match_92 : decode Y_Model_match.2.1 92 = .ok (.getfield 40, 3) := by decide +kernel
theorem d_Model_match_95 : decode Y_Model_match.2.1 95 = .ok (.aload_n 0, 1) := by decide +kernel
theorem d_Model_match_96 : decode Y_Model_match.2.1 96 = .ok (.getfield 163, 3) := by decide +kernel
theorem d_Model_match_99 : decode Y_Model_match.2.1 99 = .ok (.iaload, 1) := by decide +kernel
theorem d_Model_match_100 : decode Y_Model_match.2.1 100 = .ok (.iastore, 1) := by decide +kernel
theorem d_Model_match_101 : decode Y_Model_match.2.1 101 = .ok (.iconst 0, 1) := by decide +kernel
theorem d_Model_match_102 : decode Y_Model_match.2.1 102 = .ok (.istore_n 3, 1) := by decide +kernel
theorem d_Model_match_103 : decode Y_Model_match.2.1 103 = .ok (.aload_n 0, 1) := by decide +kernel
theorem d_Model_match_104 : decode Y_Model_match.2.1 104 = .ok (.getfield 192, 3) := by decide +kernel
theorem d_Model_match_107 : decode Y_Model_match.2.1 107 = .ok (.istore 4, 2) := by decide +kernel
theorem d_Model_match_109 : decode Y_Model_match.2.1 109 = .ok (.iconst (-1), 1) := by decide +kernel
theorem d_Model_match_110 : decode Y_Model_match.2.1 110 = .ok (.istore 5, 2) := by decide +kernel
theorem d_Model_match_112 : decode Y_Model_match.2.1 112 = .ok (.iconst 0, 1) := by decide +kernel
theorem d_Model_match_113 : decode Y_Model_match.2.1 113 = .ok (.istore 6, 2) := by decide +kernel
theorem d_Model_match_115 : decode Y_Model_match.2.1 115 = .ok (.iload 4, 2) := by decide +kernel
theorem d_Model_match_117 : decode Y_Model_match.2.1 117 = .ok (.ifCond .le 429, 3) := by decide +kernel
theorem d_Model_match_120 : decode Y_Model_match.2.1 120 = .ok (.aload_n 0, 1) := by decide +kernel
theorem d_Model_match_121 : decode Y_Model_match.2.1 121 = .ok (.getfield 192, 3) := by decide +kernel
theorem d_Model_match_124 : decode Y_Model_match.2.1 124 = .ok (.istore 7, 2) := by decide +kernel
theorem d_Model_match_126 : decode Y_Model_match.2.1 126 = .ok (.aload_n 0, 1) := by decide +kernel
theorem d_Model_match_127 : decode Y_Model_match.2.1 127 = .ok (.getfield 94, 3) := by decide +kernel
theorem d_Model_match_130 : decode Y_Model_match.2.1 130 = .ok (.iload_n 3, 1) := by decide +kernel
theorem d_Model_match_131 : decode Y_Model_match.2.1 131 = .ok (.iaload, 1) := by decide +kernel
theorem d_Model_match_132 : decode Y_Model_match.2.1 132 = .ok (.ifCond .ne 106, 3) := by decide +kernel
theorem d_Model_match_135 : decode Y_Model_match.2.1 135 = .ok (.aload_n 0, 1) := by decide +kernel
theorem d_Model_match_136 : decode Y_Model_match.2.1 136 = .ok (.getfield 91, 3) := by decide +kernel
theorem d_Model_match_139 : decode Y_Model_match.2.1 139 = .ok (.iload_n 3, 1) := by decide +kernel
theorem d_Model_match_140 : decode Y_Model_match.2.1 140 = .ok (.iaload, 1) := by decide +kernel
theorem d_Model_match_141 : decode Y_Model_match.2.1 141 = .ok (.istore 8, 2) := by decide +kernel
theorem d_Model_match_143 : decode Y_Model_match.2.1 143 = .ok (.aload_n 0, 1) := by decide +kernel
theorem d_Model_match_144 : decode Y_Model_match.2.1 144 = .ok (.getfield 46, 3) := by decide +kernel
theorem d_Model_match_147 : decode Y_Model_match.2.1 147 = .ok (.iload 8, 2) := by decide +kernel
theorem d_Model_match_149 : decode Y_Model_match.2.1 149 = .ok (.baload, 1) := by decide +kernel
theorem d_Model_match_150 : decode Y_Model_match.2.1 150 = .ok (.ifCond .eq 13, 3) := by decide +kernel
theorem d_Model_match_153 : decode Y_Model_match.2.1 153 = .ok (.iload_n 1, 1) := by decide +kernel
theorem d_Model_match_154 : decode Y_Model_match.2.1 154 = .ok (.iload 8, 2) := by decide +kernel
theorem d_Model_match_156 : decode Y_Model_match.2.1 156 = .ok (.ishr, 1) := by decide +kernel
theorem d_Model_match_157 : decode Y_Model_match.2.1 157 = .ok (.iconst 1, 1) := by decide +kernel
theorem d_Model_match_158 : decode Y_Model_match.2.1 158 = .ok (.iand, 1) := by decide +kernel
theorem d_Model_match_159 : decode Y_Model_match.2.1 159 = .ok (.iconst 1, 1) := by decide +kernel
theorem d_Model_match_160 : decode Y_Model_match.2.1 160 = .ok (.if_icmp .ne 66, 3) := by decide +kernel
theorem d_Model_match_163 : decode Y_Model_match.2.1 163 = .ok (.iconst 0, 1) := by decide +kernel
theorem d_Model_match_164 : decode Y_Model_match.2.1 164 = .ok (.istore 9, 2) := by decide +kernel
theorem d_Model_match_166 : decode Y_Model_match.2.1 166 = .ok (.iload 9, 2) := by decide +kernel
theorem d_Model_match_168 : decode Y_Model_match.2.1 168 = .ok (.bipush 8, 2) := by decide +kernel
theorem d_Model_match_170 : decode Y_Model_match.2.1 170 = .ok (.if_icmp .ge 53, 3) := by decide +kernel
theorem d_Model_match_173 : decode Y_Model_match.2.1 173 = .ok (.aload_n 0, 1) := by decide +kernel
theorem d_Model_match_174 : decode Y_Model_match.2.1 174 = .ok (.getfield 129, 3) := by decide +kernel
theorem d_Model_match_177 : decode Y_Model_match.2.1 177 = .ok (.iload 9, 2) := by decide +kernel
theorem d_Model_match_179 : decode Y_Model_match.2.1 179 = .ok (.aload_n 0, 1) := by decide +kernel
theorem d_Model_match_180 : decode Y_Model_match.2.1 180 = .ok (.getfield 105, 3) := by decide +kernel
theorem d_Model_match_183 : decode Y_Model_match.2.1 183 = .ok (.bipush 8, 2) := by decide +kernel
theorem d_Model_match_185 : decode Y_Model_match.2.1 185 = .ok (.iload_n 3, 1) := by decide +kernel
theorem d_Model_match_186 : decode Y_Model_match.2.1 186 = .ok (.imul, 1) := by decide +kernel
theorem d_Model_match_187 : decode Y_Model_match.2.1 187 = .ok (.iload 9, 2) := by decide +kernel
theorem d_Model_match_189 : decode Y_Model_match.2.1 189 = .ok (.iadd, 1) := by decide +kernel
theorem d_Model_match_190 : decode Y_Model_match.2.1 190 = .ok (.iaload, 1) := by decide +kernel
theorem d_Model_match_191 : decode Y_Model_match.2.1 191 = .ok (.iconst (-1), 1) := by decide +kernel
theorem d_Model_match_192 : decode Y_Model_match.2.1 192 = .ok (.if_icmp .ne 7, 3) := by decide +kernel
theorem d_Model_match_195 : decode Y_Model_match.2.1 195 = .ok (.iconst (-1), 1) := by decide +kernel
theorem d_Model_match_196 : decode Y_Model_match.2.1 196 = .ok (.goto 20, 3) := by decide +kernel
theorem d_Model_match_199 : decode Y_Model_match.2.1 199 = .ok (.aload_n 0, 1) := by decide +kernel
theorem d_Model_match_200 : decode Y_Model_match.2.1 200 = .ok (.getfield 87, 3) := by decide +kernel
theorem d_Model_match_203 : decode Y_Model_match.2.1 203 = .ok (.aload_n 0, 1) := by decide +kernel
theorem d_Model_match_204 : decode Y_Model_match.2.1 204 = .ok (.getfield 105, 3) := by decide +kernel
theorem d_Model_match_207 : decode Y_Model_match.2.1 207 = .ok (.bipush 8, 2) := by decide +kernel
theorem d_Model_match_209 : decode Y_Model_match.2.1 209 = .ok (.iload_n 3, 1) := by decide +kernel
theorem d_Model_match_210 : decode Y_Model_match.2.1 210 = .ok (.imul, 1) := by decide +kernel
theorem d_Model_match_211 : decode Y_Model_match.2.1 211 = .ok (.iload 9, 2) := by decide +kernel
theorem d_Model_match_213 : decode Y_Model_match.2.1 213 = .ok (.iadd, 1) := by decide +kernel
theorem d_Model_match_214 : decode Y_Model_match.2.1 214 = .ok (.iaload, 1) := by decide +kernel
theorem d_Model_match_215 : decode Y_Model_match.2.1 215 = .ok (.iaload, 1) := by decide +kernel
theorem d_Model_match_216 : decode Y_Model_match.2.1 216 = .ok (.iastore, 1) := by decide +kernel
theorem d_Model_match_217 : decode Y_Model_match.2.1 217 = .ok (.iinc 9 1, 3) := by decide +kernel
theorem d_Model_match_220 : decode Y_Model_match.2.1 220 = .ok (.goto (-54), 3) := by decide +kernel
theorem d_Model_match_223 : decode Y_Model_match.2.1 223 = .ok (.iload 8, 2) := by decide +kernel
theorem d_Model_match_225 : decode Y_Model_match.2.1 225 = .ok (.ireturn, 1) := by decide +kernel
theorem d_Model_match_226 : decode Y_Model_match.2.1 226 = .ok (.aload_n 0, 1) := by decide +kernel
theorem d_Model_match_227 : decode Y_Model_match.2.1 227 = .ok (.iload_n 3, 1) := by decide +kernel
theorem d_Model_match_228 : decode Y_Model_match.2.1 228 = .ok (.iload 4, 2) := by decide +kernel
theorem d_Model_match_230 : decode Y_Model_match.2.1 230 = .ok (.iload 8, 2) := by decide +kernel
theorem d_Model_match_232 : decode Y_Model_match.2.1 232 = .ok (.invokevirtual 252, 3) := by decide +kernel
theorem d_Model_match_235 : decode Y_Model_match.2.1 235 = .ok (.goto 296, 3) := by decide +kernel
theorem d_Model_match_238 : decode Y_Model_match.2.1 238 = .ok (.aload_n 0, 1) := by decide +kernel
theorem d_Model_match_239 : decode Y_Model_match.2.1 239 = .ok (.getfield 98, 3) := by decide +kernel
theorem d_Model_match_242 : decode Y_Model_match.2.1 242 = .ok (.bipush 26, 2) := by decide +kernel
theorem d_Model_match_244 : decode Y_Model_match.2.1 244 = .ok (.iload_n 3, 1) := by decide +kernel
theorem d_Model_match_245 : decode Y_Model_match.2.1 245 = .ok (.imul, 1) := by decide +kernel
theorem d_Model_match_246 : decode Y_Model_match.2.1 246 = .ok (.iaload, 1) := by decide +kernel
theorem d_Model_match_247 : decode Y_Model_match.2.1 247 = .ok (.istore 8, 2) := by decide +kernel
theorem d_Model_match_249 : decode Y_Model_match.2.1 249 = .ok (.iconst 0, 1) := by decide +kernel
theorem d_Model_match_250 : decode Y_Model_match.2.1 250 = .ok (.istore 9, 2) := by decide +kernel
theorem d_Model_match_252 : decode Y_Model_match.2.1 252 = .ok (.aload_n 0, 1) := by decide +kernel
theorem d_Model_match_253 : decode Y_Model_match.2.1 253 = .ok (.getfield 65, 3) := by decide +kernel
theorem d_Model_match_256 : decode Y_Model_match.2.1 256 = .ok (.iload 9, 2) := by decide +kernel
theorem d_Model_match_258 : decode Y_Model_match.2.1 258 = .ok (.iaload, 1) := by decide +kernel
theorem d_Model_match_259 : decode Y_Model_match.2.1 259 = .ok (.iload 5, 2) := by decide +kernel
theorem d_Model_match_261 : decode Y_Model_match.2.1 261 = .ok (.if_icmp .ne 15, 3) := by decide +kernel
theorem d_Model_match_264 : decode Y_Model_match.2.1 264 = .ok (.aload_n 0, 1) := by decide +kernel
theorem d_Model_match_265 : decode Y_Model_match.2.1 265 = .ok (.getfield 68, 3) := by decide +kernel
theorem d_Model_match_268 : decode Y_Model_match.2.1 268 = .ok (.iload 9, 2) := by decide +kernel
theorem d_Model_match_270 : decode Y_Model_match.2.1 270 = .ok (.iaload, 1) := by decide +kernel
theorem d_Model_match_271 : decode Y_Model_match.2.1 271 = .ok (.iload 6, 2) := by decide +kernel
theorem d_Model_match_273 : decode Y_Model_match.2.1 273 = .ok (.if_icmp .eq 9, 3) := by decide +kernel
theorem d_Model_match_276 : decode Y_Model_match.2.1 276 = .ok (.iinc 9 1, 3) := by decide +kernel
theorem d_Model_match_279 : decode Y_Model_match.2.1 279 = .ok (.goto (-27), 3) := by decide +kernel
theorem d_Model_match_282 : decode Y_Model_match.2.1 282 = .ok (.aload_n 0, 1) := by decide +kernel
theorem d_Model_match_283 : decode Y_Model_match.2.1 283 = .ok (.getfield 126, 3) := by decide +kernel
theorem d_Model_match_286 : decode Y_Model_match.2.1 286 = .ok (.aload_n 0, 1) := by decide +kernel
theorem d_Model_match_287 : decode Y_Model_match.2.1 287 = .ok (.getfield 142, 3) := by decide +kernel
theorem d_Model_match_290 : decode Y_Model_match.2.1 290 = .ok (.iload 9, 2) := by decide +kernel
theorem d_Model_match_292 : decode Y_Model_match.2.1 292 = .ok (.iastore, 1) := by decide +kernel
theorem d_Model_match_293 : decode Y_Model_match.2.1 293 = .ok (.aload_n 0, 1) := by decide +kernel
theorem d_Model_match_294 : decode Y_Model_match.2.1 294 = .ok (.dup, 1) := by decide +kernel
theorem d_Model_match_295 : decode Y_Model_match.2.1 295 = .ok (.getfield 142, 3) := by decide +kernel
theorem d_Model_match_298 : decode Y_Model_match.2.1 298 = .ok (.iconst 1, 1) := by decide +kernel
theorem d_Model_match_299 : decode Y_Model_match.2.1 299 = .ok (.iadd, 1) := by decide +kernel
theorem d_Model_match_300 : decode Y_Model_match.2.1 300 = .ok (.putfield 142, 3) := by decide +kernel
theorem d_Model_match_303 : decode Y_Model_match.2.1 303 = .ok (.aload_n 0, 1) := by decide +kernel
theorem d_Model_match_304 : decode Y_Model_match.2.1 304 = .ok (.getfield 87, 3) := by decide +kernel
theorem d_Model_match_307 : decode Y_Model_match.2.1 307 = .ok (.iload 8, 2) := by decide +kernel
theorem d_Model_match_309 : decode Y_Model_match.2.1 309 = .ok (.iaload, 1) := by decide +kernel
theorem d_Model_match_310 : decode Y_Model_match.2.1 310 = .ok (.istore 10, 2) := by decide +kernel
theorem d_Model_match_312 : decode Y_Model_match.2.1 312 = .ok (.aload_n 0, 1) := by decide +kernel
theorem d_Model_match_313 : decode Y_Model_match.2.1 313 = .ok (.getfield 7, 3) := by decide +kernel
theorem d_Model_match_316 : decode Y_Model_match.2.1 316 = .ok (.aload_n 0, 1) := by decide +kernel
theorem d_Model_match_317 : decode Y_Model_match.2.1 317 = .ok (.getfield 74, 3) := by decide +kernel
theorem d_Model_match_320 : decode Y_Model_match.2.1 320 = .ok (.iload 8, 2) := by decide +kernel
theorem d_Model_match_322 : decode Y_Model_match.2.1 322 = .ok (.iaload, 1) := by decide +kernel
theorem d_Model_match_323 : decode Y_Model_match.2.1 323 = .ok (.iaload, 1) := by decide +kernel
theorem d_Model_match_324 : decode Y_Model_match.2.1 324 = .ok (.iconst 1, 1) := by decide +kernel
theorem d_Model_match_325 : decode Y_Model_match.2.1 325 = .ok (.if_icmp .le 7, 3) := by decide +kernel
theorem d_Model_match_328 : decode Y_Model_match.2.1 328 = .ok (.iconst 1, 1) := by decide +kernel
theorem d_Model_match_329 : decode Y_Model_match.2.1 329 = .ok (.goto 4, 3) := by decide +kernel
theorem d_Model_match_332 : decode Y_Model_match.2.1 332 = .ok (.iconst 0, 1) := by decide +kernel
theorem d_Model_match_333 : decode Y_Model_match.2.1 333 = .ok (.istore 11, 2) := by decide +kernel
theorem d_Model_match_335 : decode Y_Model_match.2.1 335 = .ok (.iload 11, 2) := by decide +kernel
theorem d_Model_match_337 : decode Y_Model_match.2.1 337 = .ok (.ifCond .ne 22, 3) := by decide +kernel
theorem d_Model_match_340 : decode Y_Model_match.2.1 340 = .ok (.aload_n 0, 1) := by decide +kernel
theorem d_Model_match_341 : decode Y_Model_match.2.1 341 = .ok (.iload_n 3, 1) := by decide +kernel
theorem d_Model_match_342 : decode Y_Model_match.2.1 342 = .ok (.iload 4, 2) := by decide +kernel
theorem d_Model_match_344 : decode Y_Model_match.2.1 344 = .ok (.iload 8, 2) := by decide +kernel
theorem d_Model_match_346 : decode Y_Model_match.2.1 346 = .ok (.aload_n 0, 1) := by decide +kernel
theorem d_Model_match_347 : decode Y_Model_match.2.1 347 = .ok (.getfield 25, 3) := by decide +kernel
theorem d_Model_match_350 : decode Y_Model_match.2.1 350 = .ok (.iload 10, 2) := by decide +kernel
theorem d_Model_match_352 : decode Y_Model_match.2.1 352 = .ok (.iaload, 1) := by decide +kernel
theorem d_Model_match_353 : decode Y_Model_match.2.1 353 = .ok (.invokevirtual 221, 3) := by decide +kernel
theorem d_Model_match_356 : decode Y_Model_match.2.1 356 = .ok (.ifCond .eq 7, 3) := by decide +kernel
theorem d_Model_match_359 : decode Y_Model_match.2.1 359 = .ok (.iconst 1, 1) := by decide +kernel
theorem d_Model_match_360 : decode Y_Model_match.2.1 360 = .ok (.goto 4, 3) := by decide +kernel
theorem d_Model_match_363 : decode Y_Model_match.2.1 363 = .ok (.iconst 0, 1) := by decide +kernel
theorem d_Model_match_364 : decode Y_Model_match.2.1 364 = .ok (.istore 12, 2) := by decide +kernel
theorem d_Model_match_366 : decode Y_Model_match.2.1 366 = .ok (.iload 9, 2) := by decide +kernel
theorem d_Model_match_368 : decode Y_Model_match.2.1 368 = .ok (.istore 5, 2) := by decide +kernel
theorem d_Model_match_370 : decode Y_Model_match.2.1 370 = .ok (.iload 11, 2) := by decide +kernel
theorem d_Model_match_372 : decode Y_Model_match.2.1 372 = .ok (.ifCond .eq 13, 3) := by decide +kernel
theorem d_Model_match_375 : decode Y_Model_match.2.1 375 = .ok (.aload_n 0, 1) := by decide +kernel
theorem d_Model_match_376 : decode Y_Model_match.2.1 376 = .ok (.getfield 25, 3) := by decide +kernel
theorem d_Model_match_379 : decode Y_Model_match.2.1 379 = .ok (.iload 10, 2) := by decide +kernel
theorem d_Model_match_381 : decode Y_Model_match.2.1 381 = .ok (.iaload, 1) := by decide +kernel
theorem d_Model_match_382 : decode Y_Model_match.2.1 382 = .ok (.goto 36, 3) := by decide +kernel
theorem d_Model_match_385 : decode Y_Model_match.2.1 385 = .ok (.iload 12, 2) := by decide +kernel
theorem d_Model_match_387 : decode Y_Model_match.2.1 387 = .ok (.ifCond .eq 22, 3) := by decide +kernel
theorem d_Model_match_390 : decode Y_Model_match.2.1 390 = .ok (.aload_n 0, 1) := by decide +kernel
theorem d_Model_match_391 : decode Y_Model_match.2.1 391 = .ok (.iload_n 3, 1) := by decide +kernel
theorem d_Model_match_392 : decode Y_Model_match.2.1 392 = .ok (.iload 4, 2) := by decide +kernel
theorem d_Model_match_394 : decode Y_Model_match.2.1 394 = .ok (.iload 8, 2) := by decide +kernel
theorem d_Model_match_396 : decode Y_Model_match.2.1 396 = .ok (.aload_n 0, 1) := by decide +kernel
theorem d_Model_match_397 : decode Y_Model_match.2.1 397 = .ok (.getfield 25, 3) := by decide +kernel
theorem d_Model_match_400 : decode Y_Model_match.2.1 400 = .ok (.iload 10, 2) := by decide +kernel
theorem d_Model_match_402 : decode Y_Model_match.2.1 402 = .ok (.iaload, 1) := by decide +kernel
theorem d_Model_match_403 : decode Y_Model_match.2.1 403 = .ok (.invokevirtual 271, 3) := by decide +kernel
theorem d_Model_match_406 : decode Y_Model_match.2.1 406 = .ok (.goto 12, 3) := by decide +kernel
theorem d_Model_match_409 : decode Y_Model_match.2.1 409 = .ok (.aload_n 0, 1) := by decide +kernel
theorem d_Model_match_410 : decode Y_Model_match.2.1 410 = .ok (.getfield 56, 3) := by decide +kernel
theorem d_Model_match_413 : decode Y_Model_match.2.1 413 = .ok (.iload 9, 2) := by decide +kernel
theorem d_Model_match_415 : decode Y_Model_match.2.1 415 = .ok (.iaload, 1) := by decide +kernel
theorem d_Model_match_416 : decode Y_Model_match.2.1 416 = .ok (.iconst 1, 1) := by decide +kernel
theorem d_Model_match_417 : decode Y_Model_match.2.1 417 = .ok (.isub, 1) := by decide +kernel
theorem d_Model_match_418 : decode Y_Model_match.2.1 418 = .ok (.istore 6, 2) := by decide +kernel
theorem d_Model_match_420 : decode Y_Model_match.2.1 420 = .ok (.aload_n 0, 1) := by decide +kernel
theorem d_Model_match_421 : decode Y_Model_match.2.1 421 = .ok (.iload_n 3, 1) := by decide +kernel
theorem d_Model_match_422 : decode Y_Model_match.2.1 422 = .ok (.iload 4, 2) := by decide +kernel
theorem d_Model_match_424 : decode Y_Model_match.2.1 424 = .ok (.iload 8, 2) := by decide +kernel
theorem d_Model_match_426 : decode Y_Model_match.2.1 426 = .ok (.iload 11, 2) := by decide +kernel
theorem d_Model_match_428 : decode Y_Model_match.2.1 428 = .ok (.aload_n 0, 1) := by decide +kernel
theorem d_Model_match_429 : decode Y_Model_match.2.1 429 = .ok (.getfield 25, 3) := by decide +kernel
theorem d_Model_match_432 : decode Y_Model_match.2.1 432 = .ok (.iload 10, 2) := by decide +kernel
theorem d_Model_match_434 : decode Y_Model_match.2.1 434 = .ok (.iaload, 1) := by decide +kernel
theorem d_Model_match_435 : decode Y_Model_match.2.1 435 = .ok (.iload 12, 2) := by decide +kernel
theorem d_Model_match_437 : decode Y_Model_match.2.1 437 = .ok (.invokevirtual 264, 3) := by decide +kernel
theorem d_Model_match_440 : decode Y_Model_match.2.1 440 = .ok (.iconst 0, 1) := by decide +kernel
theorem d_Model_match_441 : decode Y_Model_match.2.1 441 = .ok (.istore 13, 2) := by decide +kernel
theorem d_Model_match_443 : decode Y_Model_match.2.1 443 = .ok (.iload 11, 2) := by decide +kernel
theorem d_Model_match_445 : decode Y_Model_match.2.1 445 = .ok (.ifCond .eq 86, 3) := by decide +kernel
theorem d_Model_match_448 : decode Y_Model_match.2.1 448 = .ok (.iload 13, 2) := by decide +kernel
theorem d_Model_match_450 : decode Y_Model_match.2.1 450 = .ok (.aload_n 0, 1) := by decide +kernel
theorem d_Model_match_451 : decode Y_Model_match.2.1 451 = .ok (.getfield 13, 3) := by decide +kernel
theorem d_Model_match_454 : decode Y_Model_match.2.1 454 = .ok (.bipush 8, 2) := by decide +kernel
theorem d_Model_match_456 : decode Y_Model_match.2.1 456 = .ok (.aload_n 0, 1) := by decide +kernel
theorem d_Model_match_457 : decode Y_Model_match.2.1 457 = .ok (.getfield 74, 3) := by decide +kernel
theorem d_Model_match_460 : decode Y_Model_match.2.1 460 = .ok (.iload 8, 2) := by decide +kernel
theorem d_Model_match_462 : decode Y_Model_match.2.1 462 = .ok (.iaload, 1) := by decide +kernel
theorem d_Model_match_463 : decode Y_Model_match.2.1 463 = .ok (.imul, 1) := by decide +kernel
theorem d_Model_match_464 : decode Y_Model_match.2.1 464 = .ok (.aload_n 0, 1) := by decide +kernel
theorem d_Model_match_465 : decode Y_Model_match.2.1 465 = .ok (.getfield 25, 3) := by decide +kernel
theorem d_Model_match_468 : decode Y_Model_match.2.1 468 = .ok (.iload 10, 2) := by decide +kernel
theorem d_Model_match_470 : decode Y_Model_match.2.1 470 = .ok (.iaload, 1) := by decide +kernel
theorem d_Model_match_471 : decode Y_Model_match.2.1 471 = .ok (.iadd, 1) := by decide +kernel
theorem d_Model_match_472 : decode Y_Model_match.2.1 472 = .ok (.iaload, 1) := by decide +kernel
theorem d_Model_match_473 : decode Y_Model_match.2.1 473 = .ok (.if_icmp .ge 58, 3) := by decide +kernel
theorem d_Model_match_476 : decode Y_Model_match.2.1 476 = .ok (.aload_n 0, 1) := by decide +kernel
theorem d_Model_match_477 : decode Y_Model_match.2.1 477 = .ok (.getfield 78, 3) := by decide +kernel
theorem d_Model_match_480 : decode Y_Model_match.2.1 480 = .ok (.bipush 32, 2) := by decide +kernel
theorem d_Model_match_482 : decode Y_Model_match.2.1 482 = .ok (.iload 8, 2) := by decide +kernel
theorem d_Model_match_484 : decode Y_Model_match.2.1 484 = .ok (.imul, 1) := by decide +kernel
theorem d_Model_match_485 : decode Y_Model_match.2.1 485 = .ok (.iconst 4, 1) := by decide +kernel
theorem d_Model_match_486 : decode Y_Model_match.2.1 486 = .ok (.aload_n 0, 1) := by decide +kernel
theorem d_Model_match_487 : decode Y_Model_match.2.1 487 = .ok (.getfield 25, 3) := by decide +kernel
theorem d_Model_match_490 : decode Y_Model_match.2.1 490 = .ok (.iload 10, 2) := by decide +kernel
theorem d_Model_match_492 : decode Y_Model_match.2.1 492 = .ok (.iaload, 1) := by decide +kernel
theorem d_Model_match_493 : decode Y_Model_match.2.1 493 = .ok (.imul, 1) := by decide +kernel
theorem d_Model_match_494 : decode Y_Model_match.2.1 494 = .ok (.iadd, 1) := by decide +kernel
theorem d_Model_match_495 : decode Y_Model_match.2.1 495 = .ok (.iload 13, 2) := by decide +kernel
theorem d_Model_match_497 : decode Y_Model_match.2.1 497 = .ok (.iadd, 1) := by decide +kernel
theorem d_Model_match_498 : decode Y_Model_match.2.1 498 = .ok (.iaload, 1) := by decide +kernel
theorem d_Model_match_499 : decode Y_Model_match.2.1 499 = .ok (.istore 14, 2) := by decide +kernel
theorem d_Model_match_501 : decode Y_Model_match.2.1 501 = .ok (.iload 14, 2) := by decide +kernel
theorem d_Model_match_503 : decode Y_Model_match.2.1 503 = .ok (.ifCond .le 22, 3) := by decide +kernel
theorem d_Model_match_506 : decode Y_Model_match.2.1 506 = .ok (.aload_n 0, 1) := by decide +kernel
theorem d_Model_match_507 : decode Y_Model_match.2.1 507 = .ok (.getfield 87, 3) := by decide +kernel
theorem d_Model_match_510 : decode Y_Model_match.2.1 510 = .ok (.iload 14, 2) := by decide +kernel
theorem d_Model_match_512 : decode Y_Model_match.2.1 512 = .ok (.aload_n 0, 1) := by decide +kernel
theorem d_Model_match_513 : decode Y_Model_match.2.1 513 = .ok (.getfield 28, 3) := by decide +kernel
theorem d_Model_match_516 : decode Y_Model_match.2.1 516 = .ok (.iconst 4, 1) := by decide +kernel
theorem d_Model_match_517 : decode Y_Model_match.2.1 517 = .ok (.iload 10, 2) := by decide +kernel
theorem d_Model_match_519 : decode Y_Model_match.2.1 519 = .ok (.imul, 1) := by decide +kernel
theorem d_Model_match_520 : decode Y_Model_match.2.1 520 = .ok (.iload 13, 2) := by decide +kernel
theorem d_Model_match_522 : decode Y_Model_match.2.1 522 = .ok (.iadd, 1) := by decide +kernel
theorem d_Model_match_523 : decode Y_Model_match.2.1 523 = .ok (.iaload, 1) := by decide +kernel
theorem d_Model_match_524 : decode Y_Model_match.2.1 524 = .ok (.iastore, 1) := by decide +kernel
theorem d_Model_match_525 : decode Y_Model_match.2.1 525 = .ok (.iinc 13 1, 3) := by decide +kernel
theorem d_Model_match_528 : decode Y_Model_match.2.1 528 = .ok (.goto (-85), 3) := by decide +kernel
theorem d_Model_match_531 : decode Y_Model_match.2.1 531 = .ok (.iload 7, 2) := by decide +kernel
theorem d_Model_match_533 : decode Y_Model_match.2.1 533 = .ok (.istore_n 3, 1) := by decide +kernel
theorem d_Model_match_534 : decode Y_Model_match.2.1 534 = .ok (.aload_n 0, 1) := by decide +kernel
theorem d_Model_match_535 : decode Y_Model_match.2.1 535 = .ok (.getfield 192, 3) := by decide +kernel
theorem d_Model_match_538 : decode Y_Model_match.2.1 538 = .ok (.iload 7, 2) := by decide +kernel
theorem d_Model_match_540 : decode Y_Model_match.2.1 540 = .ok (.isub, 1) := by decide +kernel
theorem d_Model_match_541 : decode Y_Model_match.2.1 541 = .ok (.istore 4, 2) := by decide +kernel
theorem d_Model_match_543 : decode Y_Model_match.2.1 543 = .ok (.goto (-428), 3) := by decide +kernel
theorem d_Model_match_546 : decode Y_Model_match.2.1 546 = .ok (.iconst (-1), 1) := by decide +kernel
theorem d_Model_match_547 : decode Y_Model_match.2.1 547 = .ok (.ireturn, 1) := by decide +kernel
theorem d_Model_bound_0 : decode Y_Model_bound.2.1 0 = .ok (.aload_n 0, 1) := by decide +kernel
theorem d_Model_bound_1 : decode Y_Model_bound.2.1 1 = .ok (.iload_n 1, 1) := by decide +kernel
theorem d_Model_bound_2 : decode Y_Model_bound.2.1 2 = .ok (.ifCond .lt 9, 3) := by decide +kernel
theorem d_Model_bound_5 : decode Y_Model_bound.2.1 5 = .ok (.iload_n 1, 1) := by decide +kernel
theorem d_Model_bound_6 : decode Y_Model_bound.2.1 6 = .ok (.bipush 7, 2) := by decide +kernel
theorem d_Model_bound_8 : decode Y_Model_bound.2.1 8 = .ok (.if_icmp .le 7, 3) := by decide +kernel
theorem d_Model_bound_11 : decode Y_Model_bound.2.1 11 = .ok (.iconst 1, 1) := by decide +kernel
theorem d_Model_bound_12 : decode Y_Model_bound.2.1 12 = .ok (.goto 4, 3) := by decide +kernel
theorem d_Model_bound_15 : decode Y_Model_bound.2.1 15 = .ok (.iconst 0, 1) := by decide +kernel
theorem d_Model_bound_16 : decode Y_Model_bound.2.1 16 = .ok (.invokevirtual 153, 3) := by decide +kernel
theorem d_Model_bound_19 : decode Y_Model_bound.2.1 19 = .ok (.ifCond .ne 13, 3) := by decide +kernel
theorem d_Model_bound_22 : decode Y_Model_bound.2.1 22 = .ok (.aload_n 0, 1) := by decide +kernel
theorem d_Model_bound_23 : decode Y_Model_bound.2.1 23 = .ok (.getfield 129, 3) := by decide +kernel
theorem d_Model_bound_26 : decode Y_Model_bound.2.1 26 = .ok (.iload_n 1, 1) := by decide +kernel
theorem d_Model_bound_27 : decode Y_Model_bound.2.1 27 = .ok (.iaload, 1) := by decide +kernel
theorem d_Model_bound_28 : decode Y_Model_bound.2.1 28 = .ok (.iconst (-1), 1) := by decide +kernel
theorem d_Model_bound_29 : decode Y_Model_bound.2.1 29 = .ok (.if_icmp .ne 5, 3) := by decide +kernel
theorem d_Model_bound_32 : decode Y_Model_bound.2.1 32 = .ok (.iconst 0, 1) := by decide +kernel
theorem d_Model_bound_33 : decode Y_Model_bound.2.1 33 = .ok (.ireturn, 1) := by decide +kernel
theorem d_Model_bound_34 : decode Y_Model_bound.2.1 34 = .ok (.aload_n 0, 1) := by decide +kernel
theorem d_Model_bound_35 : decode Y_Model_bound.2.1 35 = .ok (.aload_n 0, 1) := by decide +kernel
theorem d_Model_bound_36 : decode Y_Model_bound.2.1 36 = .ok (.getfield 129, 3) := by decide +kernel
theorem d_Model_bound_39 : decode Y_Model_bound.2.1 39 = .ok (.iload_n 1, 1) := by decide +kernel
theorem d_Model_bound_40 : decode Y_Model_bound.2.1 40 = .ok (.iaload, 1) := by decide +kernel
theorem d_Model_bound_41 : decode Y_Model_bound.2.1 41 = .ok (.invokevirtual 278, 3) := by decide +kernel
theorem d_Model_bound_44 : decode Y_Model_bound.2.1 44 = .ok (.aload_n 0, 1) := by decide +kernel
theorem d_Model_bound_45 : decode Y_Model_bound.2.1 45 = .ok (.getfield 275, 3) := by decide +kernel
theorem d_Model_bound_48 : decode Y_Model_bound.2.1 48 = .ok (.ireturn, 1) := by decide +kernel
theorem d_Model_boundAt_0 : decode Y_Model_boundAt.2.1 0 = .ok (.aload_n 0, 1) := by decide +kernel
theorem d_Model_boundAt_1 : decode Y_Model_boundAt.2.1 1 = .ok (.iload_n 1, 1) := by decide +kernel
theorem d_Model_boundAt_2 : decode Y_Model_boundAt.2.1 2 = .ok (.ifCond .lt 9, 3) := by decide +kernel
theorem d_Model_boundAt_5 : decode Y_Model_boundAt.2.1 5 = .ok (.iload_n 1, 1) := by decide +kernel
theorem d_Model_boundAt_6 : decode Y_Model_boundAt.2.1 6 = .ok (.bipush 7, 2) := by decide +kernel
theorem d_Model_boundAt_8 : decode Y_Model_boundAt.2.1 8 = .ok (.if_icmp .le 7, 3) := by decide +kernel
theorem d_Model_boundAt_11 : decode Y_Model_boundAt.2.1 11 = .ok (.iconst 1, 1) := by decide +kernel
theorem d_Model_boundAt_12 : decode Y_Model_boundAt.2.1 12 = .ok (.goto 4, 3) := by decide +kernel
theorem d_Model_boundAt_15 : decode Y_Model_boundAt.2.1 15 = .ok (.iconst 0, 1) := by decide +kernel
theorem d_Model_boundAt_16 : decode Y_Model_boundAt.2.1 16 = .ok (.invokevirtual 153, 3) := by decide +kernel
theorem d_Model_boundAt_19 : decode Y_Model_boundAt.2.1 19 = .ok (.ifCond .eq 5, 3) := by decide +kernel
theorem d_Model_boundAt_22 : decode Y_Model_boundAt.2.1 22 = .ok (.iconst 0, 1) := by decide +kernel
theorem d_Model_boundAt_23 : decode Y_Model_boundAt.2.1 23 = .ok (.ireturn, 1) := by decide +kernel
theorem d_Model_boundAt_24 : decode Y_Model_boundAt.2.1 24 = .ok (.aload_n 0, 1) := by decide +kernel
theorem d_Model_boundAt_25 : decode Y_Model_boundAt.2.1 25 = .ok (.getfield 129, 3) := by decide +kernel
theorem d_Model_boundAt_28 : decode Y_Model_boundAt.2.1 28 = .ok (.iload_n 1, 1) := by decide +kernel
theorem d_Model_boundAt_29 : decode Y_Model_boundAt.2.1 29 = .ok (.iaload, 1) := by decide +kernel
theorem d_Model_boundAt_30 : decode Y_Model_boundAt.2.1 30 = .ok (.iconst (-1), 1) := by decide +kernel
theorem d_Model_boundAt_31 : decode Y_Model_boundAt.2.1 31 = .ok (.if_icmp .ne 5, 3) := by decide +kernel
theorem d_Model_boundAt_34 : decode Y_Model_boundAt.2.1 34 = .ok (.iconst (-1), 1) := by decide +kernel
theorem d_Model_boundAt_35 : decode Y_Model_boundAt.2.1 35 = .ok (.ireturn, 1) := by decide +kernel
theorem d_Model_boundAt_36 : decode Y_Model_boundAt.2.1 36 = .ok (.aload_n 0, 1) := by decide +kernel
theorem d_Model_boundAt_37 : decode Y_Model_boundAt.2.1 37 = .ok (.aload_n 0, 1) := by decide +kernel
theorem d_Model_boundAt_38 : decode Y_Model_boundAt.2.1 38 = .ok (.getfield 129, 3) := by decide +kernel
theorem d_Model_boundAt_41 : decode Y_Model_boundAt.2.1 41 = .ok (.iload_n 1, 1) := by decide +kernel
theorem d_Model_boundAt_42 : decode Y_Model_boundAt.2.1 42 = .ok (.iaload, 1) := by decide +kernel
theorem d_Model_boundAt_43 : decode Y_Model_boundAt.2.1 43 = .ok (.invokevirtual 278, 3) := by decide +kernel
theorem d_Model_boundAt_46 : decode Y_Model_boundAt.2.1 46 = .ok (.iload_n 2, 1) := by decide +kernel
theorem d_Model_boundAt_47 : decode Y_Model_boundAt.2.1 47 = .ok (.ifCond .lt 20, 3) := by decide +kernel
theorem d_Model_boundAt_50 : decode Y_Model_boundAt.2.1 50 = .ok (.iload_n 2, 1) := by decide +kernel
theorem d_Model_boundAt_51 : decode Y_Model_boundAt.2.1 51 = .ok (.aload_n 0, 1) := by decide +kernel
theorem d_Model_boundAt_52 : decode Y_Model_boundAt.2.1 52 = .ok (.getfield 275, 3) := by decide +kernel
theorem d_Model_boundAt_55 : decode Y_Model_boundAt.2.1 55 = .ok (.if_icmp .ge 12, 3) := by decide +kernel
theorem d_Model_boundAt_58 : decode Y_Model_boundAt.2.1 58 = .ok (.aload_n 0, 1) := by decide +kernel
theorem d_Model_boundAt_59 : decode Y_Model_boundAt.2.1 59 = .ok (.getfield 132, 3) := by decide +kernel
theorem d_Model_boundAt_62 : decode Y_Model_boundAt.2.1 62 = .ok (.iload_n 2, 1) := by decide +kernel
theorem d_Model_boundAt_63 : decode Y_Model_boundAt.2.1 63 = .ok (.iaload, 1) := by decide +kernel
theorem d_Model_boundAt_64 : decode Y_Model_boundAt.2.1 64 = .ok (.goto 4, 3) := by decide +kernel
theorem d_Model_boundAt_67 : decode Y_Model_boundAt.2.1 67 = .ok (.iconst (-1), 1) := by decide +kernel
theorem d_Model_boundAt_68 : decode Y_Model_boundAt.2.1 68 = .ok (.ireturn, 1) := by decide +kernel
section MN
variable {E : gE} {d : Nat} {G : gS} {m n : Nat} {s : mS}
set_option maxHeartbeats 400000 in
set_option maxRecDepth 100000 in
theorem m_W_build_no (hmn : m < n) (h : s.1 16 = 0) : GM E Y_Model_build (d + 1) [.ref m] (mW E G m n s) (rIs (some (.int 0)) (mW E G m n (wF s 0 1))) := by
  refine g_entry (by decide) (by simp [Value.category]) (Nat.le_of_ble_eq_true rfl) ?_
  refine g_aload_n d_Model_build_0 rfl ?_
  refine g_aload_n d_Model_build_1 rfl ?_
  refine w_get (k := 16) (x := .int (s.1 16)) fl_Model_181 (by decide) rfl d_Model_build_2 ?_
  refine g_if_ne (tgt := 12) d_Model_build_5 (by decide) (fun c_5 => ?_) (fun c_5 => ?_)
  · exact absurd c_5 (fun e => e h)
  refine g_iconst (v := 1) d_Model_build_8 (by decide) ?_
  refine g_goto (tgt := 13) d_Model_build_9 (by decide) ?_
  refine c_Vr (as := [.int (1)]) kv_Model_refuses ml_Model_153 rfl mw_f (m_W_refuses1 (s := s) hmn) rfl (Nat.le_of_ble_eq_true rfl) rfl d_Model_build_13 rfl ?_
  refine g_if_eq (tgt := 21) d_Model_build_16 (by decide) (fun c_16 => absurd c_16 (by decide)) (fun c_16 => ?_)
  refine g_iconst (v := 0) d_Model_build_19 (by decide) ?_
  refine g_iret rfl d_Model_build_20 ?_
  exact ⟨rfl, rfl⟩
set_option maxHeartbeats 400000 in
set_option maxRecDepth 100000 in
theorem m_W_match_no (hmn : m < n) (h : s.1 19 = 0) (x : Int32) : GM E Y_Model_match (d + 1) [.ref m, .int x] (mW E G m n s) (rIs (some (.int 0)) (mW E G m n (wF s 0 1))) := by
  refine g_entry (by decide) (by simp [Value.category]) (Nat.le_of_ble_eq_true rfl) ?_
  refine g_aload_n d_Model_match_0 rfl ?_
  refine w_get (k := 19) (x := .int (s.1 19)) fl_Model_184 (by decide) rfl d_Model_match_1 ?_
  refine g_if_eq (tgt := 48) d_Model_match_4 (by decide) (fun c_4 => ?_) (fun c_4 => ?_)
  rotate_left
  · exact absurd c_4 (fun e => e h)
  refine g_iconst (v := 0) d_Model_match_48 (by decide) ?_
  refine g_istore_n d_Model_match_49 (by decide) rfl ?_
  refine g_aload_n d_Model_match_50 rfl ?_
  refine g_iload_n d_Model_match_51 rfl ?_
  refine g_if_eq (tgt := 59) d_Model_match_52 (by decide) (fun c_52 => ?_) (fun c_52 => absurd c_52 (by decide))
  refine g_iconst (v := 1) d_Model_match_59 (by decide) ?_
  refine c_Vr (as := [.int (1)]) kv_Model_refuses ml_Model_153 rfl mw_f (m_W_refuses1 (s := s) hmn) rfl (Nat.le_of_ble_eq_true rfl) rfl d_Model_match_60 rfl ?_
  refine g_if_eq (tgt := 68) d_Model_match_63 (by decide) (fun c_63 => absurd c_63 (by decide)) (fun c_63 => ?_)
  refine g_iconst (v := 0) d_Model_match_66 (by decide) ?_
  refine g_iret rfl d_Model_match_67 ?_
  exact ⟨rfl, rfl⟩
set_option maxHeartbeats 400000 in
set_option maxRecDepth 100000 in
theorem m_W_bound_no (hmn : m < n) (h : ∀ k, k < 8 → s.2 38 k = -1) (x : Int32) : GM E Y_Model_bound (d + 1) [.ref m, .int x] (mW E G m n s) (rIs (some (.int ((if x < 0 ∨ ¬ x ≤ 7 then ((0 : Int32), wF s 0 1) else (0, wF s 0 0))).1)) (mW E G m n ((if x < 0 ∨ ¬ x ≤ 7 then ((0 : Int32), wF s 0 1) else (0, wF s 0 0))).2)) := by
  refine g_entry (by decide) (by simp [Value.category]) (Nat.le_of_ble_eq_true rfl) ?_
  refine g_aload_n d_Model_bound_0 rfl ?_
  refine g_iload_n d_Model_bound_1 rfl ?_
  refine g_if_lt (tgt := 11) d_Model_bound_2 (by decide) (fun c_2 => ?_) (fun c_2 => ?_)
  · refine g_iconst (v := 1) d_Model_bound_11 (by decide) ?_
    refine g_goto (tgt := 16) d_Model_bound_12 (by decide) ?_
    refine c_Vr (as := [.int (1)]) kv_Model_refuses ml_Model_153 rfl mw_f (m_W_refuses1 (s := s) hmn) rfl (Nat.le_of_ble_eq_true rfl) rfl d_Model_bound_16 rfl ?_
    refine g_if_ne (tgt := 32) d_Model_bound_19 (by decide) (fun c_19 => ?_) (fun c_19 => absurd c_19 (by decide))
    refine g_iconst (v := 0) d_Model_bound_32 (by decide) ?_
    refine g_iret rfl d_Model_bound_33 ?_
    rw [if_pos (show x < 0 ∨ ¬ x ≤ 7 from by first | exact Or.inl c_2 | exact Or.inr c_8)]
    exact ⟨rfl, rfl⟩
  · refine g_iload_n d_Model_bound_5 rfl ?_
    refine g_bipush (v := 7) d_Model_bound_6 (by decide) ?_
    refine g_icmp_le (tgt := 15) d_Model_bound_8 (by decide) (fun c_8 => ?_) (fun c_8 => ?_)
    · refine g_iconst (v := 0) d_Model_bound_15 (by decide) ?_
      refine c_Vr (as := [.int (0)]) kv_Model_refuses ml_Model_153 rfl mw_f (m_W_refuses0 (s := s) hmn) rfl (Nat.le_of_ble_eq_true rfl) rfl d_Model_bound_16 rfl ?_
      refine g_if_ne (tgt := 32) d_Model_bound_19 (by decide) (fun c_19 => absurd c_19 (by decide)) (fun c_19 => ?_)
      refine g_aload_n d_Model_bound_22 rfl ?_
      refine w_get (k := 56) fl_Model_129 (by decide) rfl d_Model_bound_23 ?_
      refine g_iload_n d_Model_bound_26 rfl ?_
      refine w_ald (j := 38) (q := tn x) (x := s.2 38 (tn x)) hmn (by decide) (by decide) (tn_hi c_2) (by have := tn_ly c_2 c_8 (k := 7) (by decide); show _ < 8; omega) rfl d_Model_bound_27 ?_
      refine g_iconst (v := (-1)) d_Model_bound_28 (by decide) ?_
      refine g_icmp_ne (tgt := 34) d_Model_bound_29 (by decide) (fun c_29 => ?_) (fun c_29 => ?_)
      · exact absurd c_29 (fun e => e (h _ (by have := tn_ly c_2 c_8 (k := 7) (by decide); omega)))
      refine g_iconst (v := 0) d_Model_bound_32 (by decide) ?_
      refine g_iret rfl d_Model_bound_33 ?_
      rw [if_neg (show ¬ (x < 0 ∨ ¬ x ≤ 7) from fun q => q.elim c_2 (fun w => w c_8))]
      exact ⟨rfl, rfl⟩
    · refine g_iconst (v := 1) d_Model_bound_11 (by decide) ?_
      refine g_goto (tgt := 16) d_Model_bound_12 (by decide) ?_
      refine c_Vr (as := [.int (1)]) kv_Model_refuses ml_Model_153 rfl mw_f (m_W_refuses1 (s := s) hmn) rfl (Nat.le_of_ble_eq_true rfl) rfl d_Model_bound_16 rfl ?_
      refine g_if_ne (tgt := 32) d_Model_bound_19 (by decide) (fun c_19 => ?_) (fun c_19 => absurd c_19 (by decide))
      refine g_iconst (v := 0) d_Model_bound_32 (by decide) ?_
      refine g_iret rfl d_Model_bound_33 ?_
      rw [if_pos (show x < 0 ∨ ¬ x ≤ 7 from by first | exact Or.inl c_2 | exact Or.inr c_8)]
      exact ⟨rfl, rfl⟩
set_option maxHeartbeats 400000 in
set_option maxRecDepth 100000 in
theorem m_W_boundAt_no (hmn : m < n) (h : ∀ k, k < 8 → s.2 38 k = -1) (x y : Int32) : GM E Y_Model_boundAt (d + 1) [.ref m, .int x, .int y] (mW E G m n s) (rIs (some (.int ((if x < 0 ∨ ¬ x ≤ 7 then ((0 : Int32), wF s 0 1) else (-1, wF s 0 0))).1)) (mW E G m n ((if x < 0 ∨ ¬ x ≤ 7 then ((0 : Int32), wF s 0 1) else (-1, wF s 0 0))).2)) := by
  refine g_entry (by decide) (by simp [Value.category]) (Nat.le_of_ble_eq_true rfl) ?_
  refine g_aload_n d_Model_boundAt_0 rfl ?_
  refine g_iload_n d_Model_boundAt_1 rfl ?_
  refine g_if_lt (tgt := 11) d_Model_boundAt_2 (by decide) (fun c_2 => ?_) (fun c_2 => ?_)
  · refine g_iconst (v := 1) d_Model_boundAt_11 (by decide) ?_
    refine g_goto (tgt := 16) d_Model_boundAt_12 (by decide) ?_
    refine c_Vr (as := [.int (1)]) kv_Model_refuses ml_Model_153 rfl mw_f (m_W_refuses1 (s := s) hmn) rfl (Nat.le_of_ble_eq_true rfl) rfl d_Model_boundAt_16 rfl ?_
    refine g_if_eq (tgt := 24) d_Model_boundAt_19 (by decide) (fun c_19 => absurd c_19 (by decide)) (fun c_19 => ?_)
    refine g_iconst (v := 0) d_Model_boundAt_22 (by decide) ?_
    refine g_iret rfl d_Model_boundAt_23 ?_
    rw [if_pos (show x < 0 ∨ ¬ x ≤ 7 from by first | exact Or.inl c_2 | exact Or.inr c_8)]
    exact ⟨rfl, rfl⟩
  · refine g_iload_n d_Model_boundAt_5 rfl ?_
    refine g_bipush (v := 7) d_Model_boundAt_6 (by decide) ?_
    refine g_icmp_le (tgt := 15) d_Model_boundAt_8 (by decide) (fun c_8 => ?_) (fun c_8 => ?_)
    · refine g_iconst (v := 0) d_Model_boundAt_15 (by decide) ?_
      refine c_Vr (as := [.int (0)]) kv_Model_refuses ml_Model_153 rfl mw_f (m_W_refuses0 (s := s) hmn) rfl (Nat.le_of_ble_eq_true rfl) rfl d_Model_boundAt_16 rfl ?_
      refine g_if_eq (tgt := 24) d_Model_boundAt_19 (by decide) (fun c_19 => ?_) (fun c_19 => absurd c_19 (by decide))
      refine g_aload_n d_Model_boundAt_24 rfl ?_
      refine w_get (k := 56) fl_Model_129 (by decide) rfl d_Model_boundAt_25 ?_
      refine g_iload_n d_Model_boundAt_28 rfl ?_
      refine w_ald (j := 38) (q := tn x) (x := s.2 38 (tn x)) hmn (by decide) (by decide) (tn_hi c_2) (by have := tn_ly c_2 c_8 (k := 7) (by decide); show _ < 8; omega) rfl d_Model_boundAt_29 ?_
      refine g_iconst (v := (-1)) d_Model_boundAt_30 (by decide) ?_
      refine g_icmp_ne (tgt := 36) d_Model_boundAt_31 (by decide) (fun c_31 => ?_) (fun c_31 => ?_)
      · exact absurd c_31 (fun e => e (h _ (by have := tn_ly c_2 c_8 (k := 7) (by decide); omega)))
      refine g_iconst (v := (-1)) d_Model_boundAt_34 (by decide) ?_
      refine g_iret rfl d_Model_boundAt_35 ?_
      rw [if_neg (show ¬ (x < 0 ∨ ¬ x ≤ 7) from fun q => q.elim c_2 (fun w => w c_8))]
      exact ⟨rfl, rfl⟩
    · refine g_iconst (v := 1) d_Model_boundAt_11 (by decide) ?_
      refine g_goto (tgt := 16) d_Model_boundAt_12 (by decide) ?_
      refine c_Vr (as := [.int (1)]) kv_Model_refuses ml_Model_153 rfl mw_f (m_W_refuses1 (s := s) hmn) rfl (Nat.le_of_ble_eq_true rfl) rfl d_Model_boundAt_16 rfl ?_
      refine g_if_eq (tgt := 24) d_Model_boundAt_19 (by decide) (fun c_19 => absurd c_19 (by decide)) (fun c_19 => ?_)
      refine g_iconst (v := 0) d_Model_boundAt_22 (by decide) ?_
      refine g_iret rfl d_Model_boundAt_23 ?_
      rw [if_pos (show x < 0 ∨ ¬ x ≤ 7 from by first | exact Or.inl c_2 | exact Or.inr c_8)]
      exact ⟨rfl, rfl⟩
end MN
