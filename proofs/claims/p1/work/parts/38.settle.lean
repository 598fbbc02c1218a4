/-! The reference: settle, a step at a wish -/
theorem d_Model_settle_0 : decode Y_Model_settle.2.1 0 = .ok (.ldc 187, 2) := by decide +kernel
theorem d_Model_settle_2 : decode Y_Model_settle.2.1 2 = .ok (.istore_n 2, 1) := by decide +kernel
theorem d_Model_settle_3 : decode Y_Model_settle.2.1 3 = .ok (.iconst 1, 1) := by decide +kernel
theorem d_Model_settle_4 : decode Y_Model_settle.2.1 4 = .ok (.istore_n 3, 1) := by decide +kernel
theorem d_Model_settle_5 : decode Y_Model_settle.2.1 5 = .ok (.iload_n 3, 1) := by decide +kernel
theorem d_Model_settle_6 : decode Y_Model_settle.2.1 6 = .ok (.ifCond .le 333, 3) := by decide +kernel
theorem d_Model_settle_9 : decode Y_Model_settle.2.1 9 = .ok (.iload_n 2, 1) := by decide +kernel
theorem d_Model_settle_10 : decode Y_Model_settle.2.1 10 = .ok (.iload_n 3, 1) := by decide +kernel
theorem d_Model_settle_11 : decode Y_Model_settle.2.1 11 = .ok (.iadd, 1) := by decide +kernel
theorem d_Model_settle_12 : decode Y_Model_settle.2.1 12 = .ok (.iconst 1, 1) := by decide +kernel
theorem d_Model_settle_13 : decode Y_Model_settle.2.1 13 = .ok (.isub, 1) := by decide +kernel
theorem d_Model_settle_14 : decode Y_Model_settle.2.1 14 = .ok (.istore 4, 2) := by decide +kernel
theorem d_Model_settle_16 : decode Y_Model_settle.2.1 16 = .ok (.iconst 0, 1) := by decide +kernel
theorem d_Model_settle_17 : decode Y_Model_settle.2.1 17 = .ok (.istore 5, 2) := by decide +kernel
theorem d_Model_settle_19 : decode Y_Model_settle.2.1 19 = .ok (.iconst 0, 1) := by decide +kernel
theorem d_Model_settle_20 : decode Y_Model_settle.2.1 20 = .ok (.istore 6, 2) := by decide +kernel
theorem d_Model_settle_22 : decode Y_Model_settle.2.1 22 = .ok (.iload 5, 2) := by decide +kernel
theorem d_Model_settle_24 : decode Y_Model_settle.2.1 24 = .ok (.aload_n 0, 1) := by decide +kernel
theorem d_Model_settle_25 : decode Y_Model_settle.2.1 25 = .ok (.getfield 94, 3) := by decide +kernel
theorem d_Model_settle_28 : decode Y_Model_settle.2.1 28 = .ok (.iload 4, 2) := by decide +kernel
theorem d_Model_settle_30 : decode Y_Model_settle.2.1 30 = .ok (.iaload, 1) := by decide +kernel
theorem d_Model_settle_31 : decode Y_Model_settle.2.1 31 = .ok (.if_icmp .ge 257, 3) := by decide +kernel
theorem d_Model_settle_34 : decode Y_Model_settle.2.1 34 = .ok (.iload 6, 2) := by decide +kernel
theorem d_Model_settle_36 : decode Y_Model_settle.2.1 36 = .ok (.ifCond .ne 252, 3) := by decide +kernel
theorem d_Model_settle_39 : decode Y_Model_settle.2.1 39 = .ok (.bipush 26, 2) := by decide +kernel
theorem d_Model_settle_41 : decode Y_Model_settle.2.1 41 = .ok (.iload 4, 2) := by decide +kernel
theorem d_Model_settle_43 : decode Y_Model_settle.2.1 43 = .ok (.imul, 1) := by decide +kernel
theorem d_Model_settle_44 : decode Y_Model_settle.2.1 44 = .ok (.iload 5, 2) := by decide +kernel
theorem d_Model_settle_46 : decode Y_Model_settle.2.1 46 = .ok (.iadd, 1) := by decide +kernel
theorem d_Model_settle_47 : decode Y_Model_settle.2.1 47 = .ok (.istore 7, 2) := by decide +kernel
theorem d_Model_settle_49 : decode Y_Model_settle.2.1 49 = .ok (.aload_n 0, 1) := by decide +kernel
theorem d_Model_settle_50 : decode Y_Model_settle.2.1 50 = .ok (.getfield 101, 3) := by decide +kernel
theorem d_Model_settle_53 : decode Y_Model_settle.2.1 53 = .ok (.iload 7, 2) := by decide +kernel
theorem d_Model_settle_55 : decode Y_Model_settle.2.1 55 = .ok (.iaload, 1) := by decide +kernel
theorem d_Model_settle_56 : decode Y_Model_settle.2.1 56 = .ok (.istore 8, 2) := by decide +kernel
theorem d_Model_settle_58 : decode Y_Model_settle.2.1 58 = .ok (.aload_n 0, 1) := by decide +kernel
theorem d_Model_settle_59 : decode Y_Model_settle.2.1 59 = .ok (.getfield 19, 3) := by decide +kernel
theorem d_Model_settle_62 : decode Y_Model_settle.2.1 62 = .ok (.iload 8, 2) := by decide +kernel
theorem d_Model_settle_64 : decode Y_Model_settle.2.1 64 = .ok (.iaload, 1) := by decide +kernel
theorem d_Model_settle_65 : decode Y_Model_settle.2.1 65 = .ok (.ifCond .ne 95, 3) := by decide +kernel
theorem d_Model_settle_68 : decode Y_Model_settle.2.1 68 = .ok (.aload_n 0, 1) := by decide +kernel
theorem d_Model_settle_69 : decode Y_Model_settle.2.1 69 = .ok (.getfield 94, 3) := by decide +kernel
theorem d_Model_settle_72 : decode Y_Model_settle.2.1 72 = .ok (.iload 4, 2) := by decide +kernel
theorem d_Model_settle_74 : decode Y_Model_settle.2.1 74 = .ok (.dup2, 1) := by decide +kernel
theorem d_Model_settle_75 : decode Y_Model_settle.2.1 75 = .ok (.iaload, 1) := by decide +kernel
theorem d_Model_settle_76 : decode Y_Model_settle.2.1 76 = .ok (.iconst 1, 1) := by decide +kernel
theorem d_Model_settle_77 : decode Y_Model_settle.2.1 77 = .ok (.isub, 1) := by decide +kernel
theorem d_Model_settle_78 : decode Y_Model_settle.2.1 78 = .ok (.iastore, 1) := by decide +kernel
theorem d_Model_settle_79 : decode Y_Model_settle.2.1 79 = .ok (.iload 5, 2) := by decide +kernel
theorem d_Model_settle_81 : decode Y_Model_settle.2.1 81 = .ok (.istore 9, 2) := by decide +kernel
theorem d_Model_settle_83 : decode Y_Model_settle.2.1 83 = .ok (.iload 9, 2) := by decide +kernel
theorem d_Model_settle_85 : decode Y_Model_settle.2.1 85 = .ok (.aload_n 0, 1) := by decide +kernel
theorem d_Model_settle_86 : decode Y_Model_settle.2.1 86 = .ok (.getfield 94, 3) := by decide +kernel
theorem d_Model_settle_89 : decode Y_Model_settle.2.1 89 = .ok (.iload 4, 2) := by decide +kernel
theorem d_Model_settle_91 : decode Y_Model_settle.2.1 91 = .ok (.iaload, 1) := by decide +kernel
theorem d_Model_settle_92 : decode Y_Model_settle.2.1 92 = .ok (.if_icmp .ge 65, 3) := by decide +kernel
theorem d_Model_settle_95 : decode Y_Model_settle.2.1 95 = .ok (.aload_n 0, 1) := by decide +kernel
theorem d_Model_settle_96 : decode Y_Model_settle.2.1 96 = .ok (.getfield 98, 3) := by decide +kernel
theorem d_Model_settle_99 : decode Y_Model_settle.2.1 99 = .ok (.bipush 26, 2) := by decide +kernel
theorem d_Model_settle_101 : decode Y_Model_settle.2.1 101 = .ok (.iload 4, 2) := by decide +kernel
theorem d_Model_settle_103 : decode Y_Model_settle.2.1 103 = .ok (.imul, 1) := by decide +kernel
theorem d_Model_settle_104 : decode Y_Model_settle.2.1 104 = .ok (.iload 9, 2) := by decide +kernel
theorem d_Model_settle_106 : decode Y_Model_settle.2.1 106 = .ok (.iadd, 1) := by decide +kernel
theorem d_Model_settle_107 : decode Y_Model_settle.2.1 107 = .ok (.aload_n 0, 1) := by decide +kernel
theorem d_Model_settle_108 : decode Y_Model_settle.2.1 108 = .ok (.getfield 98, 3) := by decide +kernel
theorem d_Model_settle_111 : decode Y_Model_settle.2.1 111 = .ok (.bipush 26, 2) := by decide +kernel
theorem d_Model_settle_113 : decode Y_Model_settle.2.1 113 = .ok (.iload 4, 2) := by decide +kernel
theorem d_Model_settle_115 : decode Y_Model_settle.2.1 115 = .ok (.imul, 1) := by decide +kernel
theorem d_Model_settle_116 : decode Y_Model_settle.2.1 116 = .ok (.iload 9, 2) := by decide +kernel
theorem d_Model_settle_118 : decode Y_Model_settle.2.1 118 = .ok (.iadd, 1) := by decide +kernel
theorem d_Model_settle_119 : decode Y_Model_settle.2.1 119 = .ok (.iconst 1, 1) := by decide +kernel
theorem d_Model_settle_120 : decode Y_Model_settle.2.1 120 = .ok (.iadd, 1) := by decide +kernel
theorem d_Model_settle_121 : decode Y_Model_settle.2.1 121 = .ok (.iaload, 1) := by decide +kernel
theorem d_Model_settle_122 : decode Y_Model_settle.2.1 122 = .ok (.iastore, 1) := by decide +kernel
theorem d_Model_settle_123 : decode Y_Model_settle.2.1 123 = .ok (.aload_n 0, 1) := by decide +kernel
theorem d_Model_settle_124 : decode Y_Model_settle.2.1 124 = .ok (.getfield 101, 3) := by decide +kernel
theorem d_Model_settle_127 : decode Y_Model_settle.2.1 127 = .ok (.bipush 26, 2) := by decide +kernel
theorem d_Model_settle_129 : decode Y_Model_settle.2.1 129 = .ok (.iload 4, 2) := by decide +kernel
theorem d_Model_settle_131 : decode Y_Model_settle.2.1 131 = .ok (.imul, 1) := by decide +kernel
theorem d_Model_settle_132 : decode Y_Model_settle.2.1 132 = .ok (.iload 9, 2) := by decide +kernel
theorem d_Model_settle_134 : decode Y_Model_settle.2.1 134 = .ok (.iadd, 1) := by decide +kernel
theorem d_Model_settle_135 : decode Y_Model_settle.2.1 135 = .ok (.aload_n 0, 1) := by decide +kernel
theorem d_Model_settle_136 : decode Y_Model_settle.2.1 136 = .ok (.getfield 101, 3) := by decide +kernel
theorem d_Model_settle_139 : decode Y_Model_settle.2.1 139 = .ok (.bipush 26, 2) := by decide +kernel
theorem d_Model_settle_141 : decode Y_Model_settle.2.1 141 = .ok (.iload 4, 2) := by decide +kernel
theorem d_Model_settle_143 : decode Y_Model_settle.2.1 143 = .ok (.imul, 1) := by decide +kernel
theorem d_Model_settle_144 : decode Y_Model_settle.2.1 144 = .ok (.iload 9, 2) := by decide +kernel
theorem d_Model_settle_146 : decode Y_Model_settle.2.1 146 = .ok (.iadd, 1) := by decide +kernel
theorem d_Model_settle_147 : decode Y_Model_settle.2.1 147 = .ok (.iconst 1, 1) := by decide +kernel
theorem d_Model_settle_148 : decode Y_Model_settle.2.1 148 = .ok (.iadd, 1) := by decide +kernel
theorem d_Model_settle_149 : decode Y_Model_settle.2.1 149 = .ok (.iaload, 1) := by decide +kernel
theorem d_Model_settle_150 : decode Y_Model_settle.2.1 150 = .ok (.iastore, 1) := by decide +kernel
theorem d_Model_settle_151 : decode Y_Model_settle.2.1 151 = .ok (.iinc 9 1, 3) := by decide +kernel
theorem d_Model_settle_154 : decode Y_Model_settle.2.1 154 = .ok (.goto (-71), 3) := by decide +kernel
theorem d_Model_settle_157 : decode Y_Model_settle.2.1 157 = .ok (.goto 128, 3) := by decide +kernel
theorem d_Model_settle_160 : decode Y_Model_settle.2.1 160 = .ok (.aload_n 0, 1) := by decide +kernel
theorem d_Model_settle_161 : decode Y_Model_settle.2.1 161 = .ok (.getfield 19, 3) := by decide +kernel
theorem d_Model_settle_164 : decode Y_Model_settle.2.1 164 = .ok (.iload 8, 2) := by decide +kernel
theorem d_Model_settle_166 : decode Y_Model_settle.2.1 166 = .ok (.iaload, 1) := by decide +kernel
theorem d_Model_settle_167 : decode Y_Model_settle.2.1 167 = .ok (.iconst 4, 1) := by decide +kernel
theorem d_Model_settle_168 : decode Y_Model_settle.2.1 168 = .ok (.if_icmp .ne 47, 3) := by decide +kernel
theorem d_Model_settle_171 : decode Y_Model_settle.2.1 171 = .ok (.aload_n 0, 1) := by decide +kernel
theorem d_Model_settle_172 : decode Y_Model_settle.2.1 172 = .ok (.getfield 105, 3) := by decide +kernel
theorem d_Model_settle_175 : decode Y_Model_settle.2.1 175 = .ok (.bipush 8, 2) := by decide +kernel
theorem d_Model_settle_177 : decode Y_Model_settle.2.1 177 = .ok (.iload 4, 2) := by decide +kernel
theorem d_Model_settle_179 : decode Y_Model_settle.2.1 179 = .ok (.imul, 1) := by decide +kernel
theorem d_Model_settle_180 : decode Y_Model_settle.2.1 180 = .ok (.aload_n 0, 1) := by decide +kernel
theorem d_Model_settle_181 : decode Y_Model_settle.2.1 181 = .ok (.getfield 25, 3) := by decide +kernel
theorem d_Model_settle_184 : decode Y_Model_settle.2.1 184 = .ok (.iload 8, 2) := by decide +kernel
theorem d_Model_settle_186 : decode Y_Model_settle.2.1 186 = .ok (.iaload, 1) := by decide +kernel
theorem d_Model_settle_187 : decode Y_Model_settle.2.1 187 = .ok (.iadd, 1) := by decide +kernel
theorem d_Model_settle_188 : decode Y_Model_settle.2.1 188 = .ok (.aload_n 0, 1) := by decide +kernel
theorem d_Model_settle_189 : decode Y_Model_settle.2.1 189 = .ok (.getfield 98, 3) := by decide +kernel
theorem d_Model_settle_192 : decode Y_Model_settle.2.1 192 = .ok (.iload 7, 2) := by decide +kernel
theorem d_Model_settle_194 : decode Y_Model_settle.2.1 194 = .ok (.iaload, 1) := by decide +kernel
theorem d_Model_settle_195 : decode Y_Model_settle.2.1 195 = .ok (.iastore, 1) := by decide +kernel
theorem d_Model_settle_196 : decode Y_Model_settle.2.1 196 = .ok (.aload_n 0, 1) := by decide +kernel
theorem d_Model_settle_197 : decode Y_Model_settle.2.1 197 = .ok (.getfield 101, 3) := by decide +kernel
theorem d_Model_settle_200 : decode Y_Model_settle.2.1 200 = .ok (.iload 7, 2) := by decide +kernel
theorem d_Model_settle_202 : decode Y_Model_settle.2.1 202 = .ok (.aload_n 0, 1) := by decide +kernel
theorem d_Model_settle_203 : decode Y_Model_settle.2.1 203 = .ok (.getfield 28, 3) := by decide +kernel
theorem d_Model_settle_206 : decode Y_Model_settle.2.1 206 = .ok (.iconst 4, 1) := by decide +kernel
theorem d_Model_settle_207 : decode Y_Model_settle.2.1 207 = .ok (.iload 8, 2) := by decide +kernel
theorem d_Model_settle_209 : decode Y_Model_settle.2.1 209 = .ok (.imul, 1) := by decide +kernel
theorem d_Model_settle_210 : decode Y_Model_settle.2.1 210 = .ok (.iaload, 1) := by decide +kernel
theorem d_Model_settle_211 : decode Y_Model_settle.2.1 211 = .ok (.iastore, 1) := by decide +kernel
theorem d_Model_settle_212 : decode Y_Model_settle.2.1 212 = .ok (.goto 73, 3) := by decide +kernel
theorem d_Model_settle_215 : decode Y_Model_settle.2.1 215 = .ok (.aload_n 0, 1) := by decide +kernel
theorem d_Model_settle_216 : decode Y_Model_settle.2.1 216 = .ok (.getfield 19, 3) := by decide +kernel
theorem d_Model_settle_219 : decode Y_Model_settle.2.1 219 = .ok (.iload 8, 2) := by decide +kernel
theorem d_Model_settle_221 : decode Y_Model_settle.2.1 221 = .ok (.iaload, 1) := by decide +kernel
theorem d_Model_settle_222 : decode Y_Model_settle.2.1 222 = .ok (.iconst 3, 1) := by decide +kernel
theorem d_Model_settle_223 : decode Y_Model_settle.2.1 223 = .ok (.if_icmp .ne 59, 3) := by decide +kernel
theorem d_Model_settle_226 : decode Y_Model_settle.2.1 226 = .ok (.aload_n 0, 1) := by decide +kernel
theorem d_Model_settle_227 : decode Y_Model_settle.2.1 227 = .ok (.iload 4, 2) := by decide +kernel
theorem d_Model_settle_229 : decode Y_Model_settle.2.1 229 = .ok (.iload 4, 2) := by decide +kernel
theorem d_Model_settle_231 : decode Y_Model_settle.2.1 231 = .ok (.iconst 1, 1) := by decide +kernel
theorem d_Model_settle_232 : decode Y_Model_settle.2.1 232 = .ok (.iadd, 1) := by decide +kernel
theorem d_Model_settle_233 : decode Y_Model_settle.2.1 233 = .ok (.invokevirtual 188, 3) := by decide +kernel
theorem d_Model_settle_236 : decode Y_Model_settle.2.1 236 = .ok (.aload_n 0, 1) := by decide +kernel
theorem d_Model_settle_237 : decode Y_Model_settle.2.1 237 = .ok (.getfield 101, 3) := by decide +kernel
theorem d_Model_settle_240 : decode Y_Model_settle.2.1 240 = .ok (.iload 7, 2) := by decide +kernel
theorem d_Model_settle_242 : decode Y_Model_settle.2.1 242 = .ok (.bipush 26, 2) := by decide +kernel
theorem d_Model_settle_244 : decode Y_Model_settle.2.1 244 = .ok (.iadd, 1) := by decide +kernel
theorem d_Model_settle_245 : decode Y_Model_settle.2.1 245 = .ok (.aload_n 0, 1) := by decide +kernel
theorem d_Model_settle_246 : decode Y_Model_settle.2.1 246 = .ok (.getfield 28, 3) := by decide +kernel
theorem d_Model_settle_249 : decode Y_Model_settle.2.1 249 = .ok (.iconst 4, 1) := by decide +kernel
theorem d_Model_settle_250 : decode Y_Model_settle.2.1 250 = .ok (.iload 8, 2) := by decide +kernel
theorem d_Model_settle_252 : decode Y_Model_settle.2.1 252 = .ok (.imul, 1) := by decide +kernel
theorem d_Model_settle_253 : decode Y_Model_settle.2.1 253 = .ok (.iaload, 1) := by decide +kernel
theorem d_Model_settle_254 : decode Y_Model_settle.2.1 254 = .ok (.iastore, 1) := by decide +kernel
theorem d_Model_settle_255 : decode Y_Model_settle.2.1 255 = .ok (.aload_n 0, 1) := by decide +kernel
theorem d_Model_settle_256 : decode Y_Model_settle.2.1 256 = .ok (.getfield 101, 3) := by decide +kernel
theorem d_Model_settle_259 : decode Y_Model_settle.2.1 259 = .ok (.iload 7, 2) := by decide +kernel
theorem d_Model_settle_261 : decode Y_Model_settle.2.1 261 = .ok (.aload_n 0, 1) := by decide +kernel
theorem d_Model_settle_262 : decode Y_Model_settle.2.1 262 = .ok (.getfield 28, 3) := by decide +kernel
theorem d_Model_settle_265 : decode Y_Model_settle.2.1 265 = .ok (.iconst 4, 1) := by decide +kernel
theorem d_Model_settle_266 : decode Y_Model_settle.2.1 266 = .ok (.iload 8, 2) := by decide +kernel
theorem d_Model_settle_268 : decode Y_Model_settle.2.1 268 = .ok (.imul, 1) := by decide +kernel
theorem d_Model_settle_269 : decode Y_Model_settle.2.1 269 = .ok (.iconst 1, 1) := by decide +kernel
theorem d_Model_settle_270 : decode Y_Model_settle.2.1 270 = .ok (.iadd, 1) := by decide +kernel
theorem d_Model_settle_271 : decode Y_Model_settle.2.1 271 = .ok (.iaload, 1) := by decide +kernel
theorem d_Model_settle_272 : decode Y_Model_settle.2.1 272 = .ok (.iastore, 1) := by decide +kernel
theorem d_Model_settle_273 : decode Y_Model_settle.2.1 273 = .ok (.iinc 3 1, 3) := by decide +kernel
theorem d_Model_settle_276 : decode Y_Model_settle.2.1 276 = .ok (.iconst 1, 1) := by decide +kernel
theorem d_Model_settle_277 : decode Y_Model_settle.2.1 277 = .ok (.istore 6, 2) := by decide +kernel
theorem d_Model_settle_279 : decode Y_Model_settle.2.1 279 = .ok (.goto 6, 3) := by decide +kernel
theorem d_Model_settle_282 : decode Y_Model_settle.2.1 282 = .ok (.iinc 5 1, 3) := by decide +kernel
theorem d_Model_settle_285 : decode Y_Model_settle.2.1 285 = .ok (.goto (-263), 3) := by decide +kernel
theorem d_Model_settle_288 : decode Y_Model_settle.2.1 288 = .ok (.iload 6, 2) := by decide +kernel
theorem d_Model_settle_290 : decode Y_Model_settle.2.1 290 = .ok (.ifCond .eq 6, 3) := by decide +kernel
theorem d_Model_settle_293 : decode Y_Model_settle.2.1 293 = .ok (.goto (-288), 3) := by decide +kernel
theorem d_Model_settle_296 : decode Y_Model_settle.2.1 296 = .ok (.aload_n 0, 1) := by decide +kernel
theorem d_Model_settle_297 : decode Y_Model_settle.2.1 297 = .ok (.getfield 192, 3) := by decide +kernel
theorem d_Model_settle_300 : decode Y_Model_settle.2.1 300 = .ok (.iload_n 1, 1) := by decide +kernel
theorem d_Model_settle_301 : decode Y_Model_settle.2.1 301 = .ok (.isub, 1) := by decide +kernel
theorem d_Model_settle_302 : decode Y_Model_settle.2.1 302 = .ok (.bipush 80, 2) := by decide +kernel
theorem d_Model_settle_304 : decode Y_Model_settle.2.1 304 = .ok (.if_icmp .ne 9, 3) := by decide +kernel
theorem d_Model_settle_307 : decode Y_Model_settle.2.1 307 = .ok (.aload_n 0, 1) := by decide +kernel
theorem d_Model_settle_308 : decode Y_Model_settle.2.1 308 = .ok (.iconst 1, 1) := by decide +kernel
theorem d_Model_settle_309 : decode Y_Model_settle.2.1 309 = .ok (.putfield 195, 3) := by decide +kernel
theorem d_Model_settle_312 : decode Y_Model_settle.2.1 312 = .ok (.return_, 1) := by decide +kernel
theorem d_Model_settle_313 : decode Y_Model_settle.2.1 313 = .ok (.aload_n 0, 1) := by decide +kernel
theorem d_Model_settle_314 : decode Y_Model_settle.2.1 314 = .ok (.iload 4, 2) := by decide +kernel
theorem d_Model_settle_316 : decode Y_Model_settle.2.1 316 = .ok (.aload_n 0, 1) := by decide +kernel
theorem d_Model_settle_317 : decode Y_Model_settle.2.1 317 = .ok (.getfield 192, 3) := by decide +kernel
theorem d_Model_settle_320 : decode Y_Model_settle.2.1 320 = .ok (.invokevirtual 188, 3) := by decide +kernel
theorem d_Model_settle_323 : decode Y_Model_settle.2.1 323 = .ok (.aload_n 0, 1) := by decide +kernel
theorem d_Model_settle_324 : decode Y_Model_settle.2.1 324 = .ok (.dup, 1) := by decide +kernel
theorem d_Model_settle_325 : decode Y_Model_settle.2.1 325 = .ok (.getfield 192, 3) := by decide +kernel
theorem d_Model_settle_328 : decode Y_Model_settle.2.1 328 = .ok (.iconst 1, 1) := by decide +kernel
theorem d_Model_settle_329 : decode Y_Model_settle.2.1 329 = .ok (.iadd, 1) := by decide +kernel
theorem d_Model_settle_330 : decode Y_Model_settle.2.1 330 = .ok (.putfield 192, 3) := by decide +kernel
theorem d_Model_settle_333 : decode Y_Model_settle.2.1 333 = .ok (.iinc 3 (-1), 3) := by decide +kernel
theorem d_Model_settle_336 : decode Y_Model_settle.2.1 336 = .ok (.goto (-331), 3) := by decide +kernel
theorem d_Model_settle_339 : decode Y_Model_settle.2.1 339 = .ok (.return_, 1) := by decide +kernel
section MO
variable {E : gE} {d : Nat} {G G0 : gS} {m n : Nat} {s : mS} {Q : gO → gS → Prop}
/-- wish k of row R goes: it is for any -/
def rDrop (s : mS) (R k : Nat) : mS := rBoth (wA s 27 R (s.2 27 R - 1)) (fun f => shl f (26 * R) k (tn (s.2 27 R) - 1))
/-- a name at wish k of row R is bound -/
def rBind (s : mS) (R k : Nat) : mS := wA (wA s 30 (8 * R + tn (s.2 5 (tn (s.2 29 (26 * R + k))))) (s.2 28 (26 * R + k))) 29 (26 * R + k) (s.2 6 (4 * tn (s.2 29 (26 * R + k))))
/-- an either at wish k of row R: the row behind gets the first -/
def rPart (s : mS) (R k : Nat) : mS := wA (wA (rCopy s R (R + 1)) 29 (26 * R + k + 26) ((rCopy s R (R + 1)).2 6 (4 * tn (s.2 29 (26 * R + k))))) 29 (26 * R + k) ((rCopy s R (R + 1)).2 6 (4 * tn (s.2 29 (26 * R + k)) + 1))
set_option maxHeartbeats 400000 in
set_option maxRecDepth 100000 in
theorem m_W_settle_a (hmn : m < n) {q1 q2 q3 r q7 q8 : Int32} {R k : Nat} (hr : r.toInt = (R : Int)) (bR : R + 1 < 41640) (hO : ¬ s.2 27 R < 0) (bO : tn (s.2 27 R) ≤ 25) (hk : k ≤ tn (s.2 27 R)) (kk : GT E Y_Model_settle d G0 22 [(0, .ref m), (1, .int q1), (2, .int q2), (3, .int (q3)), (4, .int r), (5, .int (nI k)), (6, .int (0))] [] (mW E G m n (rBoth s (fun f => shl f (26 * R) k (tn (s.2 27 R))))) Q) : ∀ (w i : Nat), tn (s.2 27 R) + 1 ≤ i + w → k ≤ i → i ≤ tn (s.2 27 R) → GT E Y_Model_settle d G0 83 [(0, .ref m), (1, .int q1), (2, .int q2), (3, .int q3), (4, .int r), (5, .int (nI k)), (6, .int 0), (7, .int q7), (8, .int q8), (9, .int (nI i))] [] (mW E G m n (rBoth s (fun f => shl f (26 * R) k i))) Q := by
  intro w
  induction w with
  | zero => intro i h1 h2 h3; omega
  | succ w ih =>
    intro i hm hKi hiO
    refine g_iload d_Model_settle_83 rfl ?_
    refine g_aload_n d_Model_settle_85 rfl ?_
    refine w_get (k := 42) fl_Model_94 (by decide) rfl d_Model_settle_86 ?_
    refine g_iload d_Model_settle_89 rfl ?_
    refine w_ald (j := 27) (q := R) (x := s.2 27 R) hmn (by decide) (by decide) hr (by show _ < 41640; omega) rfl d_Model_settle_91 ?_
    refine g_icmp_ge (tgt := 157) d_Model_settle_92 (by decide) (fun c_92 => ?_) (fun c_92 => ?_)
    · refine g_goto (tgt := 285) d_Model_settle_157 (by decide) ?_
      refine g_goto (tgt := 22) d_Model_settle_285 (by decide) ?_
      have e : i = tn (s.2 27 R) := by have := (le_hi (tn_hi hO) (nI_hi (n := i) (by omega))).mp c_92; omega
      rw [← e] at kk
      exact g_weak (lv := [(0, .ref m), (1, .int q1), (2, .int q2), (3, .int q3), (4, .int r), (5, .int (nI k)), (6, .int 0), (7, .int q7), (8, .int q8), (9, .int (nI i))]) (by simp) (by simp) kk
    · have hlt : i < tn (s.2 27 R) := Nat.not_le.mp (fun y => c_92 ((le_hi (tn_hi hO) (nI_hi (n := i) (by omega))).mpr y))
      refine g_aload_n d_Model_settle_95 rfl ?_
      refine w_get (k := 43) fl_Model_98 (by decide) rfl d_Model_settle_96 ?_
      refine g_bipush (v := 26) d_Model_settle_99 (by decide) ?_
      refine g_iload d_Model_settle_101 rfl ?_
      refine g_imul d_Model_settle_103 ?_
      refine g_iload d_Model_settle_104 rfl ?_
      refine g_iadd d_Model_settle_106 ?_
      refine g_aload_n d_Model_settle_107 rfl ?_
      refine w_get (k := 43) fl_Model_98 (by decide) rfl d_Model_settle_108 ?_
      refine g_bipush (v := 26) d_Model_settle_111 (by decide) ?_
      refine g_iload d_Model_settle_113 rfl ?_
      refine g_imul d_Model_settle_115 ?_
      refine g_iload d_Model_settle_116 rfl ?_
      refine g_iadd d_Model_settle_118 ?_
      refine g_iconst (v := 1) d_Model_settle_119 (by decide) ?_
      refine g_iadd d_Model_settle_120 ?_
      refine w_ald (j := 28) (q := 26 * R + i + 1) (x := s.2 28 (26 * R + i + 1)) hmn (by decide) (by decide) (add_hi (add_hi (mul_hi (a := 26) (m := 26) (by decide) hr (by omega)) (nI_hi (n := i) (by omega)) (by omega)) i1 (by omega)) (by show _ < 1082640; omega) (shl_out (f := s.2 28) (b := 26 * R) (j := k) (e := i) (by omega)) d_Model_settle_121 ?_
      refine w_ast (j := 28) (q := 26 * R + i) hmn (by decide) (by decide) (add_hi (mul_hi (a := 26) (m := 26) (by decide) hr (by omega)) (nI_hi (n := i) (by omega)) (by omega)) (by show _ < 1082640; omega) d_Model_settle_122 ?_
      refine g_aload_n d_Model_settle_123 rfl ?_
      refine w_get (k := 44) fl_Model_101 (by decide) rfl d_Model_settle_124 ?_
      refine g_bipush (v := 26) d_Model_settle_127 (by decide) ?_
      refine g_iload d_Model_settle_129 rfl ?_
      refine g_imul d_Model_settle_131 ?_
      refine g_iload d_Model_settle_132 rfl ?_
      refine g_iadd d_Model_settle_134 ?_
      refine g_aload_n d_Model_settle_135 rfl ?_
      refine w_get (k := 44) fl_Model_101 (by decide) rfl d_Model_settle_136 ?_
      refine g_bipush (v := 26) d_Model_settle_139 (by decide) ?_
      refine g_iload d_Model_settle_141 rfl ?_
      refine g_imul d_Model_settle_143 ?_
      refine g_iload d_Model_settle_144 rfl ?_
      refine g_iadd d_Model_settle_146 ?_
      refine g_iconst (v := 1) d_Model_settle_147 (by decide) ?_
      refine g_iadd d_Model_settle_148 ?_
      refine w_ald (j := 29) (q := 26 * R + i + 1) (x := s.2 29 (26 * R + i + 1)) hmn (by decide) (by decide) (add_hi (add_hi (mul_hi (a := 26) (m := 26) (by decide) hr (by omega)) (nI_hi (n := i) (by omega)) (by omega)) i1 (by omega)) (by show _ < 1082640; omega) (shl_out (f := s.2 29) (b := 26 * R) (j := k) (e := i) (by omega)) d_Model_settle_149 ?_
      refine w_ast (j := 29) (q := 26 * R + i) hmn (by decide) (by decide) (add_hi (mul_hi (a := 26) (m := 26) (by decide) hr (by omega)) (nI_hi (n := i) (by omega)) (by omega)) (by show _ < 1082640; omega) d_Model_settle_150 ?_
      refine g_iinc (v := nI i + 1) d_Model_settle_151 rfl (by rfl) (by decide) rfl ?_
      refine g_goto (tgt := 83) d_Model_settle_154 (by decide) ?_
      rw [rBoth_s (F' := fun f => shl f (26 * R) k (i + 1)) (fun f => shl_s hKi), nI_1]
      exact ih (i + 1) (by omega) (by omega) (by omega)
set_option maxHeartbeats 400000 in
set_option maxRecDepth 100000 in
theorem m_W_settle_k (hmn : m < n) {q1 q2 q3 r : Int32} {R k : Nat} (hr : r.toInt = (R : Int)) (bR : R + 1 < 41640) (hO : ¬ s.2 27 R < 0) (bO : tn (s.2 27 R) ≤ 26) (hk : k < tn (s.2 27 R)) (hp : ¬ s.2 29 (26 * R + k) < 0 ∧ tn (s.2 29 (26 * R + k)) < 700) (hkd : ¬ s.2 3 (tn (s.2 29 (26 * R + k))) = 0 ∧ ¬ s.2 3 (tn (s.2 29 (26 * R + k))) = 4 ∧ ¬ s.2 3 (tn (s.2 29 (26 * R + k))) = 3) (kk : GT E Y_Model_settle (d + 1) G0 22 [(0, .ref m), (1, .int q1), (2, .int q2), (3, .int (q3)), (4, .int r), (5, .int (nI (k + 1))), (6, .int (0))] [] (mW E G m n s) Q) : GT E Y_Model_settle (d + 1) G0 22 [(0, .ref m), (1, .int q1), (2, .int q2), (3, .int (q3)), (4, .int r), (5, .int (nI k)), (6, .int (0))] [] (mW E G m n s) Q := by
  refine g_iload d_Model_settle_22 rfl ?_
  refine g_aload_n d_Model_settle_24 rfl ?_
  refine w_get (k := 42) fl_Model_94 (by decide) rfl d_Model_settle_25 ?_
  refine g_iload d_Model_settle_28 rfl ?_
  refine w_ald (j := 27) (q := R) (x := s.2 27 (R)) hmn (by decide) (by decide) hr (by show _ < 41640; omega) rfl d_Model_settle_30 ?_
  refine g_icmp_ge (tgt := 288) d_Model_settle_31 (by decide) (fun c_31 => ?_) (fun c_31 => ?_)
  · exact absurd c_31 (fun y => absurd hk (Nat.not_lt.mpr ((le_hi (tn_hi hO) (nI_hi (n := k) (by omega))).mp y)))
  refine g_iload d_Model_settle_34 rfl ?_
  refine g_if_ne (tgt := 288) d_Model_settle_36 (by decide) (fun c_36 => absurd c_36 (by decide)) (fun c_36 => ?_)
  refine g_bipush (v := 26) d_Model_settle_39 (by decide) ?_
  refine g_iload d_Model_settle_41 rfl ?_
  refine g_imul d_Model_settle_43 ?_
  refine g_iload d_Model_settle_44 rfl ?_
  refine g_iadd d_Model_settle_46 ?_
  refine g_istore d_Model_settle_47 (by decide) rfl ?_
  refine g_aload_n d_Model_settle_49 rfl ?_
  refine w_get (k := 44) fl_Model_101 (by decide) rfl d_Model_settle_50 ?_
  refine g_iload d_Model_settle_53 rfl ?_
  refine w_ald (j := 29) (q := 26 * R + k) (x := s.2 29 (26 * R + k)) hmn (by decide) (by decide) (add_hi (mul_hi (a := 26) (m := 26) (by decide) hr (by omega)) (nI_hi (n := k) (by omega)) (by omega)) (by show _ < 1082640; omega) rfl d_Model_settle_55 ?_
  refine g_istore d_Model_settle_56 (by decide) rfl ?_
  refine g_aload_n d_Model_settle_58 rfl ?_
  refine w_get (k := 6) fl_Model_19 (by decide) rfl d_Model_settle_59 ?_
  refine g_iload d_Model_settle_62 rfl ?_
  refine w_ald (j := 3) (q := tn (s.2 29 (26 * R + k))) (x := s.2 3 (tn (s.2 29 (26 * R + k)))) hmn (by decide) (by decide) (tn_hi hp.1) hp.2 rfl d_Model_settle_64 ?_
  refine g_if_ne (tgt := 160) d_Model_settle_65 (by decide) (fun c_65 => ?_) (fun c_65 => ?_)
  rotate_left
  · exact absurd c_65 hkd.1
  refine g_aload_n d_Model_settle_160 rfl ?_
  refine w_get (k := 6) fl_Model_19 (by decide) rfl d_Model_settle_161 ?_
  refine g_iload d_Model_settle_164 rfl ?_
  refine w_ald (j := 3) (q := tn (s.2 29 (26 * R + k))) (x := s.2 3 (tn (s.2 29 (26 * R + k)))) hmn (by decide) (by decide) (tn_hi hp.1) hp.2 rfl d_Model_settle_166 ?_
  refine g_iconst (v := 4) d_Model_settle_167 (by decide) ?_
  refine g_icmp_ne (tgt := 215) d_Model_settle_168 (by decide) (fun c_168 => ?_) (fun c_168 => ?_)
  rotate_left
  · exact absurd c_168 hkd.2.1
  refine g_aload_n d_Model_settle_215 rfl ?_
  refine w_get (k := 6) fl_Model_19 (by decide) rfl d_Model_settle_216 ?_
  refine g_iload d_Model_settle_219 rfl ?_
  refine w_ald (j := 3) (q := tn (s.2 29 (26 * R + k))) (x := s.2 3 (tn (s.2 29 (26 * R + k)))) hmn (by decide) (by decide) (tn_hi hp.1) hp.2 rfl d_Model_settle_221 ?_
  refine g_iconst (v := 3) d_Model_settle_222 (by decide) ?_
  refine g_icmp_ne (tgt := 282) d_Model_settle_223 (by decide) (fun c_223 => ?_) (fun c_223 => ?_)
  rotate_left
  · exact absurd c_223 hkd.2.2
  refine g_iinc (v := nI k + 1) d_Model_settle_282 rfl (by rfl) (by decide) rfl ?_
  refine g_goto (tgt := 22) d_Model_settle_285 (by decide) ?_
  rw [nI_1]
  exact g_weak (lv := [(0, .ref (m)), (1, .int (q1)), (2, .int (q2)), (3, .int (q3)), (4, .int (r)), (5, .int (nI (k + 1))), (6, .int (0)), (7, .int (((26) * (r)) + (nI k))), (8, .int (s.2 29 (26 * R + k)))]) (by simp) (by simp) kk
set_option maxHeartbeats 400000 in
set_option maxRecDepth 100000 in
theorem m_W_settle_n (hmn : m < n) {q1 q2 q3 r : Int32} {R k : Nat} (hr : r.toInt = (R : Int)) (bR : R + 1 < 41640) (hO : ¬ s.2 27 R < 0) (bO : tn (s.2 27 R) ≤ 26) (hk : k < tn (s.2 27 R)) (hp : ¬ s.2 29 (26 * R + k) < 0 ∧ tn (s.2 29 (26 * R + k)) < 700) (hkd : s.2 3 (tn (s.2 29 (26 * R + k))) = 4) (hw : ¬ s.2 5 (tn (s.2 29 (26 * R + k))) < 0 ∧ tn (s.2 5 (tn (s.2 29 (26 * R + k)))) < 8) (kk : GT E Y_Model_settle (d + 1) G0 22 [(0, .ref m), (1, .int q1), (2, .int q2), (3, .int (q3)), (4, .int r), (5, .int (nI k)), (6, .int (0))] [] (mW E G m n (rBind s R k)) Q) : GT E Y_Model_settle (d + 1) G0 22 [(0, .ref m), (1, .int q1), (2, .int q2), (3, .int (q3)), (4, .int r), (5, .int (nI k)), (6, .int (0))] [] (mW E G m n s) Q := by
  refine g_iload d_Model_settle_22 rfl ?_
  refine g_aload_n d_Model_settle_24 rfl ?_
  refine w_get (k := 42) fl_Model_94 (by decide) rfl d_Model_settle_25 ?_
  refine g_iload d_Model_settle_28 rfl ?_
  refine w_ald (j := 27) (q := R) (x := s.2 27 (R)) hmn (by decide) (by decide) hr (by show _ < 41640; omega) rfl d_Model_settle_30 ?_
  refine g_icmp_ge (tgt := 288) d_Model_settle_31 (by decide) (fun c_31 => ?_) (fun c_31 => ?_)
  · exact absurd c_31 (fun y => absurd hk (Nat.not_lt.mpr ((le_hi (tn_hi hO) (nI_hi (n := k) (by omega))).mp y)))
  refine g_iload d_Model_settle_34 rfl ?_
  refine g_if_ne (tgt := 288) d_Model_settle_36 (by decide) (fun c_36 => absurd c_36 (by decide)) (fun c_36 => ?_)
  refine g_bipush (v := 26) d_Model_settle_39 (by decide) ?_
  refine g_iload d_Model_settle_41 rfl ?_
  refine g_imul d_Model_settle_43 ?_
  refine g_iload d_Model_settle_44 rfl ?_
  refine g_iadd d_Model_settle_46 ?_
  refine g_istore d_Model_settle_47 (by decide) rfl ?_
  refine g_aload_n d_Model_settle_49 rfl ?_
  refine w_get (k := 44) fl_Model_101 (by decide) rfl d_Model_settle_50 ?_
  refine g_iload d_Model_settle_53 rfl ?_
  refine w_ald (j := 29) (q := 26 * R + k) (x := s.2 29 (26 * R + k)) hmn (by decide) (by decide) (add_hi (mul_hi (a := 26) (m := 26) (by decide) hr (by omega)) (nI_hi (n := k) (by omega)) (by omega)) (by show _ < 1082640; omega) rfl d_Model_settle_55 ?_
  refine g_istore d_Model_settle_56 (by decide) rfl ?_
  refine g_aload_n d_Model_settle_58 rfl ?_
  refine w_get (k := 6) fl_Model_19 (by decide) rfl d_Model_settle_59 ?_
  refine g_iload d_Model_settle_62 rfl ?_
  refine w_ald (j := 3) (q := tn (s.2 29 (26 * R + k))) (x := s.2 3 (tn (s.2 29 (26 * R + k)))) hmn (by decide) (by decide) (tn_hi hp.1) hp.2 rfl d_Model_settle_64 ?_
  refine g_if_ne (tgt := 160) d_Model_settle_65 (by decide) (fun c_65 => ?_) (fun c_65 => ?_)
  rotate_left
  · exact absurd c_65 (fun z => absurd (hkd.symm.trans z) (by decide))
  refine g_aload_n d_Model_settle_160 rfl ?_
  refine w_get (k := 6) fl_Model_19 (by decide) rfl d_Model_settle_161 ?_
  refine g_iload d_Model_settle_164 rfl ?_
  refine w_ald (j := 3) (q := tn (s.2 29 (26 * R + k))) (x := s.2 3 (tn (s.2 29 (26 * R + k)))) hmn (by decide) (by decide) (tn_hi hp.1) hp.2 rfl d_Model_settle_166 ?_
  refine g_iconst (v := 4) d_Model_settle_167 (by decide) ?_
  refine g_icmp_ne (tgt := 215) d_Model_settle_168 (by decide) (fun c_168 => ?_) (fun c_168 => ?_)
  · exact absurd c_168 (fun y => y hkd)
  refine g_aload_n d_Model_settle_171 rfl ?_
  refine w_get (k := 45) fl_Model_105 (by decide) rfl d_Model_settle_172 ?_
  refine g_bipush (v := 8) d_Model_settle_175 (by decide) ?_
  refine g_iload d_Model_settle_177 rfl ?_
  refine g_imul d_Model_settle_179 ?_
  refine g_aload_n d_Model_settle_180 rfl ?_
  refine w_get (k := 8) fl_Model_25 (by decide) rfl d_Model_settle_181 ?_
  refine g_iload d_Model_settle_184 rfl ?_
  refine w_ald (j := 5) (q := tn (s.2 29 (26 * R + k))) (x := s.2 5 (tn (s.2 29 (26 * R + k)))) hmn (by decide) (by decide) (tn_hi hp.1) hp.2 rfl d_Model_settle_186 ?_
  refine g_iadd d_Model_settle_187 ?_
  refine g_aload_n d_Model_settle_188 rfl ?_
  refine w_get (k := 43) fl_Model_98 (by decide) rfl d_Model_settle_189 ?_
  refine g_iload d_Model_settle_192 rfl ?_
  refine w_ald (j := 28) (q := 26 * R + k) (x := s.2 28 (26 * R + k)) hmn (by decide) (by decide) (add_hi (mul_hi (a := 26) (m := 26) (by decide) hr (by omega)) (nI_hi (n := k) (by omega)) (by omega)) (by show _ < 1082640; omega) rfl d_Model_settle_194 ?_
  refine w_ast (j := 30) (q := 8 * R + tn (s.2 5 (tn (s.2 29 (26 * R + k))))) hmn (by decide) (by decide) (add_hi (mul_hi (a := 8) i8 hr (by omega)) (tn_hi hw.1) (by omega)) (by show _ < 333120; omega) d_Model_settle_195 ?_
  refine g_aload_n d_Model_settle_196 rfl ?_
  refine w_get (k := 44) fl_Model_101 (by decide) rfl d_Model_settle_197 ?_
  refine g_iload d_Model_settle_200 rfl ?_
  refine g_aload_n d_Model_settle_202 rfl ?_
  refine w_get (k := 9) fl_Model_28 (by decide) rfl d_Model_settle_203 ?_
  refine g_iconst (v := 4) d_Model_settle_206 (by decide) ?_
  refine g_iload d_Model_settle_207 rfl ?_
  refine g_imul d_Model_settle_209 ?_
  refine w_ald (j := 6) (q := 4 * tn (s.2 29 (26 * R + k))) (x := s.2 6 (4 * tn (s.2 29 (26 * R + k)))) hmn (by decide) (by decide) (mul_hi i4 (tn_hi hp.1) (by omega)) (by show _ < 2800; omega) rfl d_Model_settle_210 ?_
  refine w_ast (j := 29) (q := 26 * R + k) hmn (by decide) (by decide) (add_hi (mul_hi (a := 26) (m := 26) (by decide) hr (by omega)) (nI_hi (n := k) (by omega)) (by omega)) (by show _ < 1082640; omega) d_Model_settle_211 ?_
  refine g_goto (tgt := 285) d_Model_settle_212 (by decide) ?_
  refine g_goto (tgt := 22) d_Model_settle_285 (by decide) ?_
  exact g_weak (lv := [(0, .ref (m)), (1, .int (q1)), (2, .int (q2)), (3, .int (q3)), (4, .int (r)), (5, .int (nI k)), (6, .int (0)), (7, .int (((26) * (r)) + (nI k))), (8, .int (s.2 29 (26 * R + k)))]) (by simp) (by simp) kk
set_option maxHeartbeats 400000 in
set_option maxRecDepth 100000 in
theorem m_W_settle_y (hmn : m < n) {q1 q2 q3 r : Int32} {R k : Nat} (hr : r.toInt = (R : Int)) (bR : R + 1 < 41640) (hO : ¬ s.2 27 R < 0) (bO : tn (s.2 27 R) ≤ 26) (hk : k < tn (s.2 27 R)) (hp : ¬ s.2 29 (26 * R + k) < 0 ∧ tn (s.2 29 (26 * R + k)) < 700) (hkd : s.2 3 (tn (s.2 29 (26 * R + k))) = 0) (kk : GT E Y_Model_settle (d + 1) G0 22 [(0, .ref m), (1, .int q1), (2, .int q2), (3, .int (q3)), (4, .int r), (5, .int (nI k)), (6, .int (0))] [] (mW E G m n (rDrop s R k)) Q) : GT E Y_Model_settle (d + 1) G0 22 [(0, .ref m), (1, .int q1), (2, .int q2), (3, .int (q3)), (4, .int r), (5, .int (nI k)), (6, .int (0))] [] (mW E G m n s) Q := by
  refine g_iload d_Model_settle_22 rfl ?_
  refine g_aload_n d_Model_settle_24 rfl ?_
  refine w_get (k := 42) fl_Model_94 (by decide) rfl d_Model_settle_25 ?_
  refine g_iload d_Model_settle_28 rfl ?_
  refine w_ald (j := 27) (q := R) (x := s.2 27 (R)) hmn (by decide) (by decide) hr (by show _ < 41640; omega) rfl d_Model_settle_30 ?_
  refine g_icmp_ge (tgt := 288) d_Model_settle_31 (by decide) (fun c_31 => ?_) (fun c_31 => ?_)
  · exact absurd c_31 (fun y => absurd hk (Nat.not_lt.mpr ((le_hi (tn_hi hO) (nI_hi (n := k) (by omega))).mp y)))
  refine g_iload d_Model_settle_34 rfl ?_
  refine g_if_ne (tgt := 288) d_Model_settle_36 (by decide) (fun c_36 => absurd c_36 (by decide)) (fun c_36 => ?_)
  refine g_bipush (v := 26) d_Model_settle_39 (by decide) ?_
  refine g_iload d_Model_settle_41 rfl ?_
  refine g_imul d_Model_settle_43 ?_
  refine g_iload d_Model_settle_44 rfl ?_
  refine g_iadd d_Model_settle_46 ?_
  refine g_istore d_Model_settle_47 (by decide) rfl ?_
  refine g_aload_n d_Model_settle_49 rfl ?_
  refine w_get (k := 44) fl_Model_101 (by decide) rfl d_Model_settle_50 ?_
  refine g_iload d_Model_settle_53 rfl ?_
  refine w_ald (j := 29) (q := 26 * R + k) (x := s.2 29 (26 * R + k)) hmn (by decide) (by decide) (add_hi (mul_hi (a := 26) (m := 26) (by decide) hr (by omega)) (nI_hi (n := k) (by omega)) (by omega)) (by show _ < 1082640; omega) rfl d_Model_settle_55 ?_
  refine g_istore d_Model_settle_56 (by decide) rfl ?_
  refine g_aload_n d_Model_settle_58 rfl ?_
  refine w_get (k := 6) fl_Model_19 (by decide) rfl d_Model_settle_59 ?_
  refine g_iload d_Model_settle_62 rfl ?_
  refine w_ald (j := 3) (q := tn (s.2 29 (26 * R + k))) (x := s.2 3 (tn (s.2 29 (26 * R + k)))) hmn (by decide) (by decide) (tn_hi hp.1) hp.2 rfl d_Model_settle_64 ?_
  refine g_if_ne (tgt := 160) d_Model_settle_65 (by decide) (fun c_65 => ?_) (fun c_65 => ?_)
  · exact absurd c_65 (fun y => y hkd)
  refine g_aload_n d_Model_settle_68 rfl ?_
  refine w_get (k := 42) fl_Model_94 (by decide) rfl d_Model_settle_69 ?_
  refine g_iload d_Model_settle_72 rfl ?_
  refine g_dup2 d_Model_settle_74 rfl rfl ?_
  refine w_ald (j := 27) (q := R) (x := s.2 27 (R)) hmn (by decide) (by decide) hr (by show _ < 41640; omega) rfl d_Model_settle_75 ?_
  refine g_iconst (v := 1) d_Model_settle_76 (by decide) ?_
  refine g_isub d_Model_settle_77 ?_
  refine w_ast (j := 27) (q := R) hmn (by decide) (by decide) hr (by show _ < 41640; omega) d_Model_settle_78 ?_
  refine g_iload d_Model_settle_79 rfl ?_
  refine g_istore d_Model_settle_81 (by decide) rfl ?_
  have e1 : (wA s 27 R (s.2 27 R - 1)).2 27 R = s.2 27 R - 1 := if_pos rfl
  have hm1 := sub_hi (tn_hi hO) i1 (by omega)
  have e2 := tn_eqk hm1
  have K_ := fun kk => m_W_settle_a (E := E) (d := d + 1) (G0 := G0) (G := G) (Q := Q) (s := wA s 27 R (s.2 27 R - 1)) (q1 := q1) (q2 := q2) (q3 := q3) (r := r) (k := k) (q7 := ((26) * (r)) + (nI k)) (q8 := s.2 29 (26 * R + k)) hmn hr bR (by rw [e1]; exact nlt_hi hm1) (by rw [e1, e2]; omega) (by rw [e1, e2]; omega) kk (tn (s.2 27 R - 1) + 1) k (by rw [e1]; omega) (by omega) (by rw [e1, e2]; omega)
  rw [e1, e2, rBoth_id (fun f => shl_0)] at K_
  exact K_ kk
set_option maxHeartbeats 400000 in
set_option maxRecDepth 100000 in
theorem m_W_settle_e (hmn : m < n) {q1 q2 q3 r : Int32} {R k : Nat} (hr : r.toInt = (R : Int)) (bR : R + 1 < 41640) (hO : ¬ s.2 27 R < 0) (bO : tn (s.2 27 R) ≤ 26) (hk : k < tn (s.2 27 R)) (hp : ¬ s.2 29 (26 * R + k) < 0 ∧ tn (s.2 29 (26 * R + k)) < 700) (hkd : s.2 3 (tn (s.2 29 (26 * R + k))) = 3) (kk : GT E Y_Model_settle (d + 1) G0 22 [(0, .ref m), (1, .int q1), (2, .int q2), (3, .int (q3 + 1)), (4, .int r), (5, .int (nI k)), (6, .int (1))] [] (mW E G m n (rPart s R k)) Q) : GT E Y_Model_settle (d + 1) G0 22 [(0, .ref m), (1, .int q1), (2, .int q2), (3, .int (q3)), (4, .int r), (5, .int (nI k)), (6, .int (0))] [] (mW E G m n s) Q := by
  refine g_iload d_Model_settle_22 rfl ?_
  refine g_aload_n d_Model_settle_24 rfl ?_
  refine w_get (k := 42) fl_Model_94 (by decide) rfl d_Model_settle_25 ?_
  refine g_iload d_Model_settle_28 rfl ?_
  refine w_ald (j := 27) (q := R) (x := s.2 27 (R)) hmn (by decide) (by decide) hr (by show _ < 41640; omega) rfl d_Model_settle_30 ?_
  refine g_icmp_ge (tgt := 288) d_Model_settle_31 (by decide) (fun c_31 => ?_) (fun c_31 => ?_)
  · exact absurd c_31 (fun y => absurd hk (Nat.not_lt.mpr ((le_hi (tn_hi hO) (nI_hi (n := k) (by omega))).mp y)))
  refine g_iload d_Model_settle_34 rfl ?_
  refine g_if_ne (tgt := 288) d_Model_settle_36 (by decide) (fun c_36 => absurd c_36 (by decide)) (fun c_36 => ?_)
  refine g_bipush (v := 26) d_Model_settle_39 (by decide) ?_
  refine g_iload d_Model_settle_41 rfl ?_
  refine g_imul d_Model_settle_43 ?_
  refine g_iload d_Model_settle_44 rfl ?_
  refine g_iadd d_Model_settle_46 ?_
  refine g_istore d_Model_settle_47 (by decide) rfl ?_
  refine g_aload_n d_Model_settle_49 rfl ?_
  refine w_get (k := 44) fl_Model_101 (by decide) rfl d_Model_settle_50 ?_
  refine g_iload d_Model_settle_53 rfl ?_
  refine w_ald (j := 29) (q := 26 * R + k) (x := s.2 29 (26 * R + k)) hmn (by decide) (by decide) (add_hi (mul_hi (a := 26) (m := 26) (by decide) hr (by omega)) (nI_hi (n := k) (by omega)) (by omega)) (by show _ < 1082640; omega) rfl d_Model_settle_55 ?_
  refine g_istore d_Model_settle_56 (by decide) rfl ?_
  refine g_aload_n d_Model_settle_58 rfl ?_
  refine w_get (k := 6) fl_Model_19 (by decide) rfl d_Model_settle_59 ?_
  refine g_iload d_Model_settle_62 rfl ?_
  refine w_ald (j := 3) (q := tn (s.2 29 (26 * R + k))) (x := s.2 3 (tn (s.2 29 (26 * R + k)))) hmn (by decide) (by decide) (tn_hi hp.1) hp.2 rfl d_Model_settle_64 ?_
  refine g_if_ne (tgt := 160) d_Model_settle_65 (by decide) (fun c_65 => ?_) (fun c_65 => ?_)
  rotate_left
  · exact absurd c_65 (fun z => absurd (hkd.symm.trans z) (by decide))
  refine g_aload_n d_Model_settle_160 rfl ?_
  refine w_get (k := 6) fl_Model_19 (by decide) rfl d_Model_settle_161 ?_
  refine g_iload d_Model_settle_164 rfl ?_
  refine w_ald (j := 3) (q := tn (s.2 29 (26 * R + k))) (x := s.2 3 (tn (s.2 29 (26 * R + k)))) hmn (by decide) (by decide) (tn_hi hp.1) hp.2 rfl d_Model_settle_166 ?_
  refine g_iconst (v := 4) d_Model_settle_167 (by decide) ?_
  refine g_icmp_ne (tgt := 215) d_Model_settle_168 (by decide) (fun c_168 => ?_) (fun c_168 => ?_)
  rotate_left
  · exact absurd c_168 (fun z => absurd (hkd.symm.trans z) (by decide))
  refine g_aload_n d_Model_settle_215 rfl ?_
  refine w_get (k := 6) fl_Model_19 (by decide) rfl d_Model_settle_216 ?_
  refine g_iload d_Model_settle_219 rfl ?_
  refine w_ald (j := 3) (q := tn (s.2 29 (26 * R + k))) (x := s.2 3 (tn (s.2 29 (26 * R + k)))) hmn (by decide) (by decide) (tn_hi hp.1) hp.2 rfl d_Model_settle_221 ?_
  refine g_iconst (v := 3) d_Model_settle_222 (by decide) ?_
  refine g_icmp_ne (tgt := 282) d_Model_settle_223 (by decide) (fun c_223 => ?_) (fun c_223 => ?_)
  · exact absurd c_223 (fun y => y hkd)
  refine g_aload_n d_Model_settle_226 rfl ?_
  refine g_iload d_Model_settle_227 rfl ?_
  refine g_iload d_Model_settle_229 rfl ?_
  refine g_iconst (v := 1) d_Model_settle_231 (by decide) ?_
  refine g_iadd d_Model_settle_232 ?_
  refine c_Vr (as := [.int (r), .int ((r) + (1))]) kv_Model_copyRow ml_Model_188 rfl mw_f (m_W_copyRow (s := s) hmn (F := R) (T := R + 1) hr (add_hi hr i1 (by omega)) (by omega) bR (by omega) hO bO) rfl (Nat.le_of_ble_eq_true rfl) rfl d_Model_settle_233 rfl ?_
  refine g_aload_n d_Model_settle_236 rfl ?_
  refine w_get (k := 44) fl_Model_101 (by decide) rfl d_Model_settle_237 ?_
  refine g_iload d_Model_settle_240 rfl ?_
  refine g_bipush (v := 26) d_Model_settle_242 (by decide) ?_
  refine g_iadd d_Model_settle_244 ?_
  refine g_aload_n d_Model_settle_245 rfl ?_
  refine w_get (k := 9) fl_Model_28 (by decide) rfl d_Model_settle_246 ?_
  refine g_iconst (v := 4) d_Model_settle_249 (by decide) ?_
  refine g_iload d_Model_settle_250 rfl ?_
  refine g_imul d_Model_settle_252 ?_
  refine w_ald (j := 6) (q := 4 * tn (s.2 29 (26 * R + k))) (x := (rCopy s R (R + 1)).2 6 (4 * tn (s.2 29 (26 * R + k)))) hmn (by decide) (by decide) (mul_hi i4 (tn_hi hp.1) (by omega)) (by show _ < 2800; omega) rfl d_Model_settle_253 ?_
  refine w_ast (j := 29) (q := 26 * R + k + 26) hmn (by decide) (by decide) (add_hi (n := 26) (add_hi (mul_hi (a := 26) (m := 26) (by decide) hr (by omega)) (nI_hi (n := k) (by omega)) (by omega)) (by decide) (by omega)) (by show _ < 1082640; omega) d_Model_settle_254 ?_
  refine g_aload_n d_Model_settle_255 rfl ?_
  refine w_get (k := 44) fl_Model_101 (by decide) rfl d_Model_settle_256 ?_
  refine g_iload d_Model_settle_259 rfl ?_
  refine g_aload_n d_Model_settle_261 rfl ?_
  refine w_get (k := 9) fl_Model_28 (by decide) rfl d_Model_settle_262 ?_
  refine g_iconst (v := 4) d_Model_settle_265 (by decide) ?_
  refine g_iload d_Model_settle_266 rfl ?_
  refine g_imul d_Model_settle_268 ?_
  refine g_iconst (v := 1) d_Model_settle_269 (by decide) ?_
  refine g_iadd d_Model_settle_270 ?_
  refine w_ald (j := 6) (q := 4 * tn (s.2 29 (26 * R + k)) + 1) (x := (rCopy s R (R + 1)).2 6 (4 * tn (s.2 29 (26 * R + k)) + 1)) hmn (by decide) (by decide) (add_hi (mul_hi i4 (tn_hi hp.1) (by omega)) i1 (by omega)) (by show _ < 2800; omega) rfl d_Model_settle_271 ?_
  refine w_ast (j := 29) (q := 26 * R + k) hmn (by decide) (by decide) (add_hi (mul_hi (a := 26) (m := 26) (by decide) hr (by omega)) (nI_hi (n := k) (by omega)) (by omega)) (by show _ < 1082640; omega) d_Model_settle_272 ?_
  refine g_iinc (v := q3 + 1) d_Model_settle_273 rfl (by rfl) (by decide) rfl ?_
  refine g_iconst (v := 1) d_Model_settle_276 (by decide) ?_
  refine g_istore d_Model_settle_277 (by decide) rfl ?_
  refine g_goto (tgt := 285) d_Model_settle_279 (by decide) ?_
  refine g_goto (tgt := 22) d_Model_settle_285 (by decide) ?_
  exact g_weak (lv := [(0, .ref (m)), (1, .int (q1)), (2, .int (q2)), (3, .int (q3 + 1)), (4, .int (r)), (5, .int (nI k)), (6, .int (1)), (7, .int (((26) * (r)) + (nI k))), (8, .int (s.2 29 (26 * R + k)))]) (by simp) (by simp) kk
end MO
