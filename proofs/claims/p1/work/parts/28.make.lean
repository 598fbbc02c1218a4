/-! The reference: make -/
theorem d_Model_make_0 : decode Y_Model_make.2.1 0 = .ok (.aload_n 0, 1) := by decide +kernel
theorem d_Model_make_1 : decode Y_Model_make.2.1 1 = .ok (.aload_n 0, 1) := by decide +kernel
theorem d_Model_make_2 : decode Y_Model_make.2.1 2 = .ok (.iload_n 1, 1) := by decide +kernel
theorem d_Model_make_3 : decode Y_Model_make.2.1 3 = .ok (.iload_n 2, 1) := by decide +kernel
theorem d_Model_make_4 : decode Y_Model_make.2.1 4 = .ok (.invokevirtual 156, 3) := by decide +kernel
theorem d_Model_make_7 : decode Y_Model_make.2.1 7 = .ok (.ifCond .eq 7, 3) := by decide +kernel
theorem d_Model_make_10 : decode Y_Model_make.2.1 10 = .ok (.iconst 0, 1) := by decide +kernel
theorem d_Model_make_11 : decode Y_Model_make.2.1 11 = .ok (.goto 4, 3) := by decide +kernel
theorem d_Model_make_14 : decode Y_Model_make.2.1 14 = .ok (.iconst 1, 1) := by decide +kernel
theorem d_Model_make_15 : decode Y_Model_make.2.1 15 = .ok (.invokevirtual 153, 3) := by decide +kernel
theorem d_Model_make_18 : decode Y_Model_make.2.1 18 = .ok (.ifCond .eq 5, 3) := by decide +kernel
theorem d_Model_make_21 : decode Y_Model_make.2.1 21 = .ok (.iconst 0, 1) := by decide +kernel
theorem d_Model_make_22 : decode Y_Model_make.2.1 22 = .ok (.ireturn, 1) := by decide +kernel
theorem d_Model_make_23 : decode Y_Model_make.2.1 23 = .ok (.bipush 8, 2) := by decide +kernel
theorem d_Model_make_25 : decode Y_Model_make.2.1 25 = .ok (.iload_n 1, 1) := by decide +kernel
theorem d_Model_make_26 : decode Y_Model_make.2.1 26 = .ok (.imul, 1) := by decide +kernel
theorem d_Model_make_27 : decode Y_Model_make.2.1 27 = .ok (.iload_n 2, 1) := by decide +kernel
theorem d_Model_make_28 : decode Y_Model_make.2.1 28 = .ok (.iadd, 1) := by decide +kernel
theorem d_Model_make_29 : decode Y_Model_make.2.1 29 = .ok (.istore 4, 2) := by decide +kernel
theorem d_Model_make_31 : decode Y_Model_make.2.1 31 = .ok (.aload_n 0, 1) := by decide +kernel
theorem d_Model_make_32 : decode Y_Model_make.2.1 32 = .ok (.getfield 13, 3) := by decide +kernel
theorem d_Model_make_35 : decode Y_Model_make.2.1 35 = .ok (.iload 4, 2) := by decide +kernel
theorem d_Model_make_37 : decode Y_Model_make.2.1 37 = .ok (.iaload, 1) := by decide +kernel
theorem d_Model_make_38 : decode Y_Model_make.2.1 38 = .ok (.istore 5, 2) := by decide +kernel
theorem d_Model_make_40 : decode Y_Model_make.2.1 40 = .ok (.aload_n 0, 1) := by decide +kernel
theorem d_Model_make_41 : decode Y_Model_make.2.1 41 = .ok (.iload_n 3, 1) := by decide +kernel
theorem d_Model_make_42 : decode Y_Model_make.2.1 42 = .ok (.invokevirtual 177, 3) := by decide +kernel
theorem d_Model_make_45 : decode Y_Model_make.2.1 45 = .ok (.istore 6, 2) := by decide +kernel
theorem d_Model_make_47 : decode Y_Model_make.2.1 47 = .ok (.iload 6, 2) := by decide +kernel
theorem d_Model_make_49 : decode Y_Model_make.2.1 49 = .ok (.iload 5, 2) := by decide +kernel
theorem d_Model_make_51 : decode Y_Model_make.2.1 51 = .ok (.if_icmp .lt 19, 3) := by decide +kernel
theorem d_Model_make_54 : decode Y_Model_make.2.1 54 = .ok (.iload 5, 2) := by decide +kernel
theorem d_Model_make_56 : decode Y_Model_make.2.1 56 = .ok (.ifCond .gt 10, 3) := by decide +kernel
theorem d_Model_make_59 : decode Y_Model_make.2.1 59 = .ok (.iload 6, 2) := by decide +kernel
theorem d_Model_make_61 : decode Y_Model_make.2.1 61 = .ok (.bipush 40, 2) := by decide +kernel
theorem d_Model_make_63 : decode Y_Model_make.2.1 63 = .ok (.if_icmp .ge 7, 3) := by decide +kernel
theorem d_Model_make_66 : decode Y_Model_make.2.1 66 = .ok (.iconst 1, 1) := by decide +kernel
theorem d_Model_make_67 : decode Y_Model_make.2.1 67 = .ok (.goto 4, 3) := by decide +kernel
theorem d_Model_make_70 : decode Y_Model_make.2.1 70 = .ok (.iconst 0, 1) := by decide +kernel
theorem d_Model_make_71 : decode Y_Model_make.2.1 71 = .ok (.istore 7, 2) := by decide +kernel
theorem d_Model_make_73 : decode Y_Model_make.2.1 73 = .ok (.iconst 1, 1) := by decide +kernel
theorem d_Model_make_74 : decode Y_Model_make.2.1 74 = .ok (.istore 8, 2) := by decide +kernel
theorem d_Model_make_76 : decode Y_Model_make.2.1 76 = .ok (.iconst 0, 1) := by decide +kernel
theorem d_Model_make_77 : decode Y_Model_make.2.1 77 = .ok (.istore 9, 2) := by decide +kernel
theorem d_Model_make_79 : decode Y_Model_make.2.1 79 = .ok (.iconst 0, 1) := by decide +kernel
theorem d_Model_make_80 : decode Y_Model_make.2.1 80 = .ok (.istore 10, 2) := by decide +kernel
theorem d_Model_make_82 : decode Y_Model_make.2.1 82 = .ok (.iload 10, 2) := by decide +kernel
theorem d_Model_make_84 : decode Y_Model_make.2.1 84 = .ok (.iload 5, 2) := by decide +kernel
theorem d_Model_make_86 : decode Y_Model_make.2.1 86 = .ok (.if_icmp .ge 115, 3) := by decide +kernel
theorem d_Model_make_89 : decode Y_Model_make.2.1 89 = .ok (.iload 7, 2) := by decide +kernel
theorem d_Model_make_91 : decode Y_Model_make.2.1 91 = .ok (.ifCond .eq 110, 3) := by decide +kernel
theorem d_Model_make_94 : decode Y_Model_make.2.1 94 = .ok (.iload_n 3, 1) := by decide +kernel
theorem d_Model_make_95 : decode Y_Model_make.2.1 95 = .ok (.ifCond .eq 19, 3) := by decide +kernel
theorem d_Model_make_98 : decode Y_Model_make.2.1 98 = .ok (.aload_n 0, 1) := by decide +kernel
theorem d_Model_make_99 : decode Y_Model_make.2.1 99 = .ok (.getfield 40, 3) := by decide +kernel
theorem d_Model_make_102 : decode Y_Model_make.2.1 102 = .ok (.iload 6, 2) := by decide +kernel
theorem d_Model_make_104 : decode Y_Model_make.2.1 104 = .ok (.iload 5, 2) := by decide +kernel
theorem d_Model_make_106 : decode Y_Model_make.2.1 106 = .ok (.isub, 1) := by decide +kernel
theorem d_Model_make_107 : decode Y_Model_make.2.1 107 = .ok (.iload 10, 2) := by decide +kernel
theorem d_Model_make_109 : decode Y_Model_make.2.1 109 = .ok (.iadd, 1) := by decide +kernel
theorem d_Model_make_110 : decode Y_Model_make.2.1 110 = .ok (.iaload, 1) := by decide +kernel
theorem d_Model_make_111 : decode Y_Model_make.2.1 111 = .ok (.goto 16, 3) := by decide +kernel
theorem d_Model_make_114 : decode Y_Model_make.2.1 114 = .ok (.aload_n 0, 1) := by decide +kernel
theorem d_Model_make_115 : decode Y_Model_make.2.1 115 = .ok (.getfield 37, 3) := by decide +kernel
theorem d_Model_make_118 : decode Y_Model_make.2.1 118 = .ok (.iload 6, 2) := by decide +kernel
theorem d_Model_make_120 : decode Y_Model_make.2.1 120 = .ok (.iload 5, 2) := by decide +kernel
theorem d_Model_make_122 : decode Y_Model_make.2.1 122 = .ok (.isub, 1) := by decide +kernel
theorem d_Model_make_123 : decode Y_Model_make.2.1 123 = .ok (.iload 10, 2) := by decide +kernel
theorem d_Model_make_125 : decode Y_Model_make.2.1 125 = .ok (.iadd, 1) := by decide +kernel
theorem d_Model_make_126 : decode Y_Model_make.2.1 126 = .ok (.iaload, 1) := by decide +kernel
theorem d_Model_make_127 : decode Y_Model_make.2.1 127 = .ok (.istore 11, 2) := by decide +kernel
theorem d_Model_make_129 : decode Y_Model_make.2.1 129 = .ok (.aload_n 0, 1) := by decide +kernel
theorem d_Model_make_130 : decode Y_Model_make.2.1 130 = .ok (.getfield 22, 3) := by decide +kernel
theorem d_Model_make_133 : decode Y_Model_make.2.1 133 = .ok (.iload 11, 2) := by decide +kernel
theorem d_Model_make_135 : decode Y_Model_make.2.1 135 = .ok (.iaload, 1) := by decide +kernel
theorem d_Model_make_136 : decode Y_Model_make.2.1 136 = .ok (.aload_n 0, 1) := by decide +kernel
theorem d_Model_make_137 : decode Y_Model_make.2.1 137 = .ok (.getfield 16, 3) := by decide +kernel
theorem d_Model_make_140 : decode Y_Model_make.2.1 140 = .ok (.iconst 4, 1) := by decide +kernel
theorem d_Model_make_141 : decode Y_Model_make.2.1 141 = .ok (.iload 4, 2) := by decide +kernel
theorem d_Model_make_143 : decode Y_Model_make.2.1 143 = .ok (.imul, 1) := by decide +kernel
theorem d_Model_make_144 : decode Y_Model_make.2.1 144 = .ok (.iload 10, 2) := by decide +kernel
theorem d_Model_make_146 : decode Y_Model_make.2.1 146 = .ok (.iadd, 1) := by decide +kernel
theorem d_Model_make_147 : decode Y_Model_make.2.1 147 = .ok (.iaload, 1) := by decide +kernel
theorem d_Model_make_148 : decode Y_Model_make.2.1 148 = .ok (.if_icmp .ne 20, 3) := by decide +kernel
theorem d_Model_make_151 : decode Y_Model_make.2.1 151 = .ok (.iload 9, 2) := by decide +kernel
theorem d_Model_make_153 : decode Y_Model_make.2.1 153 = .ok (.aload_n 0, 1) := by decide +kernel
theorem d_Model_make_154 : decode Y_Model_make.2.1 154 = .ok (.getfield 34, 3) := by decide +kernel
theorem d_Model_make_157 : decode Y_Model_make.2.1 157 = .ok (.iload 11, 2) := by decide +kernel
theorem d_Model_make_159 : decode Y_Model_make.2.1 159 = .ok (.iaload, 1) := by decide +kernel
theorem d_Model_make_160 : decode Y_Model_make.2.1 160 = .ok (.iand, 1) := by decide +kernel
theorem d_Model_make_161 : decode Y_Model_make.2.1 161 = .ok (.ifCond .ne 7, 3) := by decide +kernel
theorem d_Model_make_164 : decode Y_Model_make.2.1 164 = .ok (.iconst 1, 1) := by decide +kernel
theorem d_Model_make_165 : decode Y_Model_make.2.1 165 = .ok (.goto 4, 3) := by decide +kernel
theorem d_Model_make_168 : decode Y_Model_make.2.1 168 = .ok (.iconst 0, 1) := by decide +kernel
theorem d_Model_make_169 : decode Y_Model_make.2.1 169 = .ok (.istore 7, 2) := by decide +kernel
theorem d_Model_make_171 : decode Y_Model_make.2.1 171 = .ok (.iload 8, 2) := by decide +kernel
theorem d_Model_make_173 : decode Y_Model_make.2.1 173 = .ok (.aload_n 0, 1) := by decide +kernel
theorem d_Model_make_174 : decode Y_Model_make.2.1 174 = .ok (.getfield 31, 3) := by decide +kernel
theorem d_Model_make_177 : decode Y_Model_make.2.1 177 = .ok (.iload 11, 2) := by decide +kernel
theorem d_Model_make_179 : decode Y_Model_make.2.1 179 = .ok (.iaload, 1) := by decide +kernel
theorem d_Model_make_180 : decode Y_Model_make.2.1 180 = .ok (.iadd, 1) := by decide +kernel
theorem d_Model_make_181 : decode Y_Model_make.2.1 181 = .ok (.istore 8, 2) := by decide +kernel
theorem d_Model_make_183 : decode Y_Model_make.2.1 183 = .ok (.iload 9, 2) := by decide +kernel
theorem d_Model_make_185 : decode Y_Model_make.2.1 185 = .ok (.aload_n 0, 1) := by decide +kernel
theorem d_Model_make_186 : decode Y_Model_make.2.1 186 = .ok (.getfield 34, 3) := by decide +kernel
theorem d_Model_make_189 : decode Y_Model_make.2.1 189 = .ok (.iload 11, 2) := by decide +kernel
theorem d_Model_make_191 : decode Y_Model_make.2.1 191 = .ok (.iaload, 1) := by decide +kernel
theorem d_Model_make_192 : decode Y_Model_make.2.1 192 = .ok (.ior, 1) := by decide +kernel
theorem d_Model_make_193 : decode Y_Model_make.2.1 193 = .ok (.istore 9, 2) := by decide +kernel
theorem d_Model_make_195 : decode Y_Model_make.2.1 195 = .ok (.iinc 10 1, 3) := by decide +kernel
theorem d_Model_make_198 : decode Y_Model_make.2.1 198 = .ok (.goto (-116), 3) := by decide +kernel
theorem d_Model_make_201 : decode Y_Model_make.2.1 201 = .ok (.aload_n 0, 1) := by decide +kernel
theorem d_Model_make_202 : decode Y_Model_make.2.1 202 = .ok (.iload 7, 2) := by decide +kernel
theorem d_Model_make_204 : decode Y_Model_make.2.1 204 = .ok (.ifCond .eq 19, 3) := by decide +kernel
theorem d_Model_make_207 : decode Y_Model_make.2.1 207 = .ok (.iload 8, 2) := by decide +kernel
theorem d_Model_make_209 : decode Y_Model_make.2.1 209 = .ok (.iload_n 3, 1) := by decide +kernel
theorem d_Model_make_210 : decode Y_Model_make.2.1 210 = .ok (.ifCond .eq 8, 3) := by decide +kernel
theorem d_Model_make_213 : decode Y_Model_make.2.1 213 = .ok (.bipush 60, 2) := by decide +kernel
theorem d_Model_make_215 : decode Y_Model_make.2.1 215 = .ok (.goto 5, 3) := by decide +kernel
theorem d_Model_make_218 : decode Y_Model_make.2.1 218 = .ok (.bipush 24, 2) := by decide +kernel
theorem d_Model_make_220 : decode Y_Model_make.2.1 220 = .ok (.if_icmp .le 7, 3) := by decide +kernel
theorem d_Model_make_223 : decode Y_Model_make.2.1 223 = .ok (.iconst 2, 1) := by decide +kernel
theorem d_Model_make_224 : decode Y_Model_make.2.1 224 = .ok (.goto 4, 3) := by decide +kernel
theorem d_Model_make_227 : decode Y_Model_make.2.1 227 = .ok (.iconst 0, 1) := by decide +kernel
theorem d_Model_make_228 : decode Y_Model_make.2.1 228 = .ok (.invokevirtual 153, 3) := by decide +kernel
theorem d_Model_make_231 : decode Y_Model_make.2.1 231 = .ok (.ifCond .eq 5, 3) := by decide +kernel
theorem d_Model_make_234 : decode Y_Model_make.2.1 234 = .ok (.iconst 0, 1) := by decide +kernel
theorem d_Model_make_235 : decode Y_Model_make.2.1 235 = .ok (.ireturn, 1) := by decide +kernel
theorem d_Model_make_236 : decode Y_Model_make.2.1 236 = .ok (.aload_n 0, 1) := by decide +kernel
theorem d_Model_make_237 : decode Y_Model_make.2.1 237 = .ok (.iconst 2, 1) := by decide +kernel
theorem d_Model_make_238 : decode Y_Model_make.2.1 238 = .ok (.iload_n 1, 1) := by decide +kernel
theorem d_Model_make_239 : decode Y_Model_make.2.1 239 = .ok (.iload_n 2, 1) := by decide +kernel
theorem d_Model_make_240 : decode Y_Model_make.2.1 240 = .ok (.iload 8, 2) := by decide +kernel
theorem d_Model_make_242 : decode Y_Model_make.2.1 242 = .ok (.iload 9, 2) := by decide +kernel
theorem d_Model_make_244 : decode Y_Model_make.2.1 244 = .ok (.invokevirtual 169, 3) := by decide +kernel
theorem d_Model_make_247 : decode Y_Model_make.2.1 247 = .ok (.istore 10, 2) := by decide +kernel
theorem d_Model_make_249 : decode Y_Model_make.2.1 249 = .ok (.iconst 0, 1) := by decide +kernel
theorem d_Model_make_250 : decode Y_Model_make.2.1 250 = .ok (.istore 11, 2) := by decide +kernel
theorem d_Model_make_252 : decode Y_Model_make.2.1 252 = .ok (.iload 11, 2) := by decide +kernel
theorem d_Model_make_254 : decode Y_Model_make.2.1 254 = .ok (.iload 5, 2) := by decide +kernel
theorem d_Model_make_256 : decode Y_Model_make.2.1 256 = .ok (.if_icmp .ge 54, 3) := by decide +kernel
theorem d_Model_make_259 : decode Y_Model_make.2.1 259 = .ok (.aload_n 0, 1) := by decide +kernel
theorem d_Model_make_260 : decode Y_Model_make.2.1 260 = .ok (.getfield 28, 3) := by decide +kernel
theorem d_Model_make_263 : decode Y_Model_make.2.1 263 = .ok (.iconst 4, 1) := by decide +kernel
theorem d_Model_make_264 : decode Y_Model_make.2.1 264 = .ok (.iload 10, 2) := by decide +kernel
theorem d_Model_make_266 : decode Y_Model_make.2.1 266 = .ok (.imul, 1) := by decide +kernel
theorem d_Model_make_267 : decode Y_Model_make.2.1 267 = .ok (.iload 11, 2) := by decide +kernel
theorem d_Model_make_269 : decode Y_Model_make.2.1 269 = .ok (.iadd, 1) := by decide +kernel
theorem d_Model_make_270 : decode Y_Model_make.2.1 270 = .ok (.iload_n 3, 1) := by decide +kernel
theorem d_Model_make_271 : decode Y_Model_make.2.1 271 = .ok (.ifCond .eq 19, 3) := by decide +kernel
theorem d_Model_make_274 : decode Y_Model_make.2.1 274 = .ok (.aload_n 0, 1) := by decide +kernel
theorem d_Model_make_275 : decode Y_Model_make.2.1 275 = .ok (.getfield 40, 3) := by decide +kernel
theorem d_Model_make_278 : decode Y_Model_make.2.1 278 = .ok (.iload 6, 2) := by decide +kernel
theorem d_Model_make_280 : decode Y_Model_make.2.1 280 = .ok (.iload 5, 2) := by decide +kernel
theorem d_Model_make_282 : decode Y_Model_make.2.1 282 = .ok (.isub, 1) := by decide +kernel
theorem d_Model_make_283 : decode Y_Model_make.2.1 283 = .ok (.iload 11, 2) := by decide +kernel
theorem d_Model_make_285 : decode Y_Model_make.2.1 285 = .ok (.iadd, 1) := by decide +kernel
theorem d_Model_make_286 : decode Y_Model_make.2.1 286 = .ok (.iaload, 1) := by decide +kernel
theorem d_Model_make_287 : decode Y_Model_make.2.1 287 = .ok (.goto 16, 3) := by decide +kernel
theorem d_Model_make_290 : decode Y_Model_make.2.1 290 = .ok (.aload_n 0, 1) := by decide +kernel
theorem d_Model_make_291 : decode Y_Model_make.2.1 291 = .ok (.getfield 37, 3) := by decide +kernel
theorem d_Model_make_294 : decode Y_Model_make.2.1 294 = .ok (.iload 6, 2) := by decide +kernel
theorem d_Model_make_296 : decode Y_Model_make.2.1 296 = .ok (.iload 5, 2) := by decide +kernel
theorem d_Model_make_298 : decode Y_Model_make.2.1 298 = .ok (.isub, 1) := by decide +kernel
theorem d_Model_make_299 : decode Y_Model_make.2.1 299 = .ok (.iload 11, 2) := by decide +kernel
theorem d_Model_make_301 : decode Y_Model_make.2.1 301 = .ok (.iadd, 1) := by decide +kernel
theorem d_Model_make_302 : decode Y_Model_make.2.1 302 = .ok (.iaload, 1) := by decide +kernel
theorem d_Model_make_303 : decode Y_Model_make.2.1 303 = .ok (.iastore, 1) := by decide +kernel
theorem d_Model_make_304 : decode Y_Model_make.2.1 304 = .ok (.iinc 11 1, 3) := by decide +kernel
theorem d_Model_make_307 : decode Y_Model_make.2.1 307 = .ok (.goto (-55), 3) := by decide +kernel
theorem d_Model_make_310 : decode Y_Model_make.2.1 310 = .ok (.iload_n 3, 1) := by decide +kernel
theorem d_Model_make_311 : decode Y_Model_make.2.1 311 = .ok (.ifCond .eq 17, 3) := by decide +kernel
theorem d_Model_make_314 : decode Y_Model_make.2.1 314 = .ok (.aload_n 0, 1) := by decide +kernel
theorem d_Model_make_315 : decode Y_Model_make.2.1 315 = .ok (.dup, 1) := by decide +kernel
theorem d_Model_make_316 : decode Y_Model_make.2.1 316 = .ok (.getfield 163, 3) := by decide +kernel
theorem d_Model_make_319 : decode Y_Model_make.2.1 319 = .ok (.iload 5, 2) := by decide +kernel
theorem d_Model_make_321 : decode Y_Model_make.2.1 321 = .ok (.isub, 1) := by decide +kernel
theorem d_Model_make_322 : decode Y_Model_make.2.1 322 = .ok (.putfield 163, 3) := by decide +kernel
theorem d_Model_make_325 : decode Y_Model_make.2.1 325 = .ok (.goto 14, 3) := by decide +kernel
theorem d_Model_make_328 : decode Y_Model_make.2.1 328 = .ok (.aload_n 0, 1) := by decide +kernel
theorem d_Model_make_329 : decode Y_Model_make.2.1 329 = .ok (.dup, 1) := by decide +kernel
theorem d_Model_make_330 : decode Y_Model_make.2.1 330 = .ok (.getfield 166, 3) := by decide +kernel
theorem d_Model_make_333 : decode Y_Model_make.2.1 333 = .ok (.iload 5, 2) := by decide +kernel
theorem d_Model_make_335 : decode Y_Model_make.2.1 335 = .ok (.isub, 1) := by decide +kernel
theorem d_Model_make_336 : decode Y_Model_make.2.1 336 = .ok (.putfield 166, 3) := by decide +kernel
theorem d_Model_make_339 : decode Y_Model_make.2.1 339 = .ok (.aload_n 0, 1) := by decide +kernel
theorem d_Model_make_340 : decode Y_Model_make.2.1 340 = .ok (.iload 10, 2) := by decide +kernel
theorem d_Model_make_342 : decode Y_Model_make.2.1 342 = .ok (.iload_n 3, 1) := by decide +kernel
theorem d_Model_make_343 : decode Y_Model_make.2.1 343 = .ok (.invokevirtual 173, 3) := by decide +kernel
theorem d_Model_make_346 : decode Y_Model_make.2.1 346 = .ok (.ireturn, 1) := by decide +kernel
section ME
variable {E : gE} {d : Nat} {G G0 : gS} {m n : Nat} {s : mS} {Q : gO → gS → Prop}
/-- make: good, size and names after k arguments -/
def rMk (s : mS) (v : Int32) (b A : Nat) (g0 : Int32) : Nat → Int32 × Int32 × Int32
  | 0 => (g0, 1, 0)
  | k + 1 => if (rMk s v b A g0 k).1 = 0 then rMk s v b A g0 k else (if s.2 4 (tn (rPl s v (b + k))) = s.2 2 (4 * A + k) ∧ (rMk s v b A g0 k).2.2 &&& s.2 8 (tn (rPl s v (b + k))) = 0 then 1 else 0, (rMk s v b A g0 k).2.1 + s.2 7 (tn (rPl s v (b + k))), (rMk s v b A g0 k).2.2 ||| s.2 8 (tn (rPl s v (b + k))))
theorem rMk_st {v g0 : Int32} {b A k : Nat} (h : (rMk s v b A g0 k).1 = 0) : ∀ j, rMk s v b A g0 (k + j) = rMk s v b A g0 k := by
  intro j
  induction j with
  | zero => rfl
  | succ j ih =>
    show rMk s v b A g0 (k + j + 1) = _
    simp only [rMk]
    rw [ih, if_pos h]
theorem rMk_g {v g0 : Int32} {b A k : Nat} (h : ¬ (rMk s v b A g0 k).1 = 0) : ¬ g0 = 0 := by
  intro e
  have K := rMk_st (s := s) (v := v) (b := b) (A := A) (k := 0) (g0 := g0) e k
  rw [Nat.zero_add] at K
  exact h (by rw [K]; exact e)
set_option maxHeartbeats 400000 in
set_option maxRecDepth 100000 in
theorem m_W_make_l1 (hmn : m < n) {t c v q4 M H g0 : Int32} {A b : Nat} (h4 : q4.toInt = (A : Int)) (hA : A < 128) (hM : ¬ M < 0) (bM : tn M ≤ 4) (hH : ¬ H < 0) (bH : tn H ≤ 40) (hb : ¬ g0 = 0 → tn M ≤ tn H) (hbb : b = tn H - tn M) (hp : ∀ k, k < tn H → ¬ rPl s v k < 0 ∧ tn (rPl s v k) < 700) (kk : GT E Y_Model_make d G0 201 [(0, .ref m), (1, .int t), (2, .int c), (3, .int v), (4, .int q4), (5, .int M), (6, .int H), (7, .int (rMk s v b A g0 (tn M)).1), (8, .int (rMk s v b A g0 (tn M)).2.1), (9, .int (rMk s v b A g0 (tn M)).2.2)] [] (mW E G m n s) Q) : ∀ (w k : Nat), tn M + 1 ≤ k + w → k ≤ tn M → GT E Y_Model_make d G0 82 [(0, .ref m), (1, .int t), (2, .int c), (3, .int v), (4, .int q4), (5, .int M), (6, .int H), (7, .int (rMk s v b A g0 k).1), (8, .int (rMk s v b A g0 k).2.1), (9, .int (rMk s v b A g0 k).2.2), (10, .int (nI k))] [] (mW E G m n s) Q := by
  intro w
  induction w with
  | zero => intro k h1 h2; omega
  | succ w ih =>
    intro k hm hkN
    refine g_iload d_Model_make_82 rfl ?_
    refine g_iload d_Model_make_84 rfl ?_
    refine g_icmp_ge (tgt := 201) d_Model_make_86 (by decide) (fun c_86 => ?_) (fun c_86 => ?_)
    · have e : k = tn M := by have := (le_hi (tn_hi hM) (nI_hi (n := k) (by omega))).mp c_86; omega
      subst e
      exact g_weak (lv := [(0, .ref (m)), (1, .int (t)), (2, .int (c)), (3, .int (v)), (4, .int (q4)), (5, .int (M)), (6, .int (H)), (7, .int ((rMk s v b A g0 (tn M)).1)), (8, .int ((rMk s v b A g0 (tn M)).2.1)), (9, .int ((rMk s v b A g0 (tn M)).2.2)), (10, .int (nI (tn M)))]) (by simp) (by simp) kk
    · have hk : k < tn M := Nat.not_le.mp (fun q => c_86 ((le_hi (tn_hi hM) (nI_hi (n := k) (by omega))).mpr q))
      refine g_iload d_Model_make_89 rfl ?_
      refine g_if_eq (tgt := 201) d_Model_make_91 (by decide) (fun c_91 => ?_) (fun c_91 => ?_)
      · have e := rMk_st (s := s) (v := v) (b := b) (A := A) (g0 := g0) (k := k) c_91 (tn M - k)
        rw [show k + (tn M - k) = tn M by omega] at e
        rw [e] at kk
        exact g_weak (lv := [(0, .ref (m)), (1, .int (t)), (2, .int (c)), (3, .int (v)), (4, .int (q4)), (5, .int (M)), (6, .int (H)), (7, .int ((rMk s v b A g0 k).1)), (8, .int ((rMk s v b A g0 k).2.1)), (9, .int ((rMk s v b A g0 k).2.2)), (10, .int (nI k))]) (by simp) (by simp) kk
      · have hMH := hb (rMk_g c_91)
        refine g_iload_n d_Model_make_94 rfl ?_
        refine g_if_eq (tgt := 114) d_Model_make_95 (by decide) (fun c_95 => ?_) (fun c_95 => ?_)
        · have hq : ¬ s.2 9 (b + k) < 0 ∧ tn (s.2 9 (b + k)) < 700 := by
            have := hp (b + k) (by omega)
            simpa only [rPl, c_95, if_true, if_false] using this
          refine g_aload_n d_Model_make_114 rfl ?_
          refine w_get (k := 12) fl_Model_37 (by decide) rfl d_Model_make_115 ?_
          refine g_iload d_Model_make_118 rfl ?_
          refine g_iload d_Model_make_120 rfl ?_
          refine g_isub d_Model_make_122 ?_
          refine g_iload d_Model_make_123 rfl ?_
          refine g_iadd d_Model_make_125 ?_
          refine w_ald (j := 9) (q := b + k) (x := s.2 9 (b + k)) hmn (by decide) (by decide) (by have := add_hi (sub_hi (tn_hi hH) (tn_hi hM) hMH) (nI_hi (n := k) (by omega)) (by omega); rw [this, hbb]) (by show _ < 40; omega) rfl d_Model_make_126 ?_
          refine g_istore d_Model_make_127 (by decide) rfl ?_
          refine g_aload_n d_Model_make_129 rfl ?_
          refine w_get (k := 7) fl_Model_22 (by decide) rfl d_Model_make_130 ?_
          refine g_iload d_Model_make_133 rfl ?_
          refine w_ald (j := 4) (q := tn (s.2 9 (b + k))) (x := s.2 4 (tn (s.2 9 (b + k)))) hmn (by decide) (by decide) (tn_hi hq.1) hq.2 rfl d_Model_make_135 ?_
          refine g_aload_n d_Model_make_136 rfl ?_
          refine w_get (k := 3) fl_Model_16 (by decide) rfl d_Model_make_137 ?_
          refine g_iconst (v := 4) d_Model_make_140 (by decide) ?_
          refine g_iload d_Model_make_141 rfl ?_
          refine g_imul d_Model_make_143 ?_
          refine g_iload d_Model_make_144 rfl ?_
          refine g_iadd d_Model_make_146 ?_
          refine w_ald (j := 2) (q := 4 * A + k) (x := s.2 2 (4 * A + k)) hmn (by decide) (by decide) (add_hi (mul_hi i4 h4 (by omega)) (nI_hi (n := k) (by omega)) (by omega)) (by show _ < 512; omega) rfl d_Model_make_147 ?_
          refine g_icmp_ne (tgt := 168) d_Model_make_148 (by decide) (fun c_148 => ?_) (fun c_148 => ?_)
          · refine g_iconst (v := 0) d_Model_make_168 (by decide) ?_
            refine g_istore d_Model_make_169 (by decide) rfl ?_
            refine g_iload d_Model_make_171 rfl ?_
            refine g_aload_n d_Model_make_173 rfl ?_
            refine w_get (k := 10) fl_Model_31 (by decide) rfl d_Model_make_174 ?_
            refine g_iload d_Model_make_177 rfl ?_
            refine w_ald (j := 7) (q := tn (s.2 9 (b + k))) (x := s.2 7 (tn (s.2 9 (b + k)))) hmn (by decide) (by decide) (tn_hi hq.1) hq.2 rfl d_Model_make_179 ?_
            refine g_iadd d_Model_make_180 ?_
            refine g_istore d_Model_make_181 (by decide) rfl ?_
            refine g_iload d_Model_make_183 rfl ?_
            refine g_aload_n d_Model_make_185 rfl ?_
            refine w_get (k := 11) fl_Model_34 (by decide) rfl d_Model_make_186 ?_
            refine g_iload d_Model_make_189 rfl ?_
            refine w_ald (j := 8) (q := tn (s.2 9 (b + k))) (x := s.2 8 (tn (s.2 9 (b + k)))) hmn (by decide) (by decide) (tn_hi hq.1) hq.2 rfl d_Model_make_191 ?_
            refine g_ior d_Model_make_192 ?_
            refine g_istore d_Model_make_193 (by decide) rfl ?_
            refine g_iinc (v := nI k + 1) d_Model_make_195 rfl (by rfl) (by decide) rfl ?_
            refine g_goto (tgt := 82) d_Model_make_198 (by decide) ?_
            have e : rMk s v b A g0 (k + 1) = (0, ((rMk s v b A g0 k).2.1) + (s.2 7 (tn (s.2 9 (b + k)))), ((rMk s v b A g0 k).2.2) ||| (s.2 8 (tn (s.2 9 (b + k))))) := (if_neg c_91).trans (by simp only [rPl, if_pos c_95, c_148, not_true_eq_false, not_false_eq_true, and_true, true_and, and_false, false_and, and_self, or_true, true_or, or_false, false_or, or_self, if_true, if_false, ite_true, ite_false])
            rw [nI_1]
            have K := ih (k + 1) (by omega) (by omega)
            rw [e] at K
            dsimp only at K
            exact g_weak (lv := [(0, .ref (m)), (1, .int (t)), (2, .int (c)), (3, .int (v)), (4, .int (q4)), (5, .int (M)), (6, .int (H)), (7, .int (0)), (8, .int (((rMk s v b A g0 k).2.1) + (s.2 7 (tn (s.2 9 (b + k)))))), (9, .int (((rMk s v b A g0 k).2.2) ||| (s.2 8 (tn (s.2 9 (b + k)))))), (10, .int (nI (k + 1))), (11, .int (s.2 9 (b + k)))]) (by simp) (by simp) K
          · refine g_iload d_Model_make_151 rfl ?_
            refine g_aload_n d_Model_make_153 rfl ?_
            refine w_get (k := 11) fl_Model_34 (by decide) rfl d_Model_make_154 ?_
            refine g_iload d_Model_make_157 rfl ?_
            refine w_ald (j := 8) (q := tn (s.2 9 (b + k))) (x := s.2 8 (tn (s.2 9 (b + k)))) hmn (by decide) (by decide) (tn_hi hq.1) hq.2 rfl d_Model_make_159 ?_
            refine g_iand d_Model_make_160 ?_
            refine g_if_ne (tgt := 168) d_Model_make_161 (by decide) (fun c_161 => ?_) (fun c_161 => ?_)
            · refine g_iconst (v := 0) d_Model_make_168 (by decide) ?_
              refine g_istore d_Model_make_169 (by decide) rfl ?_
              refine g_iload d_Model_make_171 rfl ?_
              refine g_aload_n d_Model_make_173 rfl ?_
              refine w_get (k := 10) fl_Model_31 (by decide) rfl d_Model_make_174 ?_
              refine g_iload d_Model_make_177 rfl ?_
              refine w_ald (j := 7) (q := tn (s.2 9 (b + k))) (x := s.2 7 (tn (s.2 9 (b + k)))) hmn (by decide) (by decide) (tn_hi hq.1) hq.2 rfl d_Model_make_179 ?_
              refine g_iadd d_Model_make_180 ?_
              refine g_istore d_Model_make_181 (by decide) rfl ?_
              refine g_iload d_Model_make_183 rfl ?_
              refine g_aload_n d_Model_make_185 rfl ?_
              refine w_get (k := 11) fl_Model_34 (by decide) rfl d_Model_make_186 ?_
              refine g_iload d_Model_make_189 rfl ?_
              refine w_ald (j := 8) (q := tn (s.2 9 (b + k))) (x := s.2 8 (tn (s.2 9 (b + k)))) hmn (by decide) (by decide) (tn_hi hq.1) hq.2 rfl d_Model_make_191 ?_
              refine g_ior d_Model_make_192 ?_
              refine g_istore d_Model_make_193 (by decide) rfl ?_
              refine g_iinc (v := nI k + 1) d_Model_make_195 rfl (by rfl) (by decide) rfl ?_
              refine g_goto (tgt := 82) d_Model_make_198 (by decide) ?_
              have e : rMk s v b A g0 (k + 1) = (0, ((rMk s v b A g0 k).2.1) + (s.2 7 (tn (s.2 9 (b + k)))), ((rMk s v b A g0 k).2.2) ||| (s.2 8 (tn (s.2 9 (b + k))))) := (if_neg c_91).trans (by simp only [rPl, if_pos c_95, c_148, c_161, not_true_eq_false, not_false_eq_true, and_true, true_and, and_false, false_and, and_self, or_true, true_or, or_false, false_or, or_self, if_true, if_false, ite_true, ite_false])
              rw [nI_1]
              have K := ih (k + 1) (by omega) (by omega)
              rw [e] at K
              dsimp only at K
              exact g_weak (lv := [(0, .ref (m)), (1, .int (t)), (2, .int (c)), (3, .int (v)), (4, .int (q4)), (5, .int (M)), (6, .int (H)), (7, .int (0)), (8, .int (((rMk s v b A g0 k).2.1) + (s.2 7 (tn (s.2 9 (b + k)))))), (9, .int (((rMk s v b A g0 k).2.2) ||| (s.2 8 (tn (s.2 9 (b + k)))))), (10, .int (nI (k + 1))), (11, .int (s.2 9 (b + k)))]) (by simp) (by simp) K
            · refine g_iconst (v := 1) d_Model_make_164 (by decide) ?_
              refine g_goto (tgt := 169) d_Model_make_165 (by decide) ?_
              refine g_istore d_Model_make_169 (by decide) rfl ?_
              refine g_iload d_Model_make_171 rfl ?_
              refine g_aload_n d_Model_make_173 rfl ?_
              refine w_get (k := 10) fl_Model_31 (by decide) rfl d_Model_make_174 ?_
              refine g_iload d_Model_make_177 rfl ?_
              refine w_ald (j := 7) (q := tn (s.2 9 (b + k))) (x := s.2 7 (tn (s.2 9 (b + k)))) hmn (by decide) (by decide) (tn_hi hq.1) hq.2 rfl d_Model_make_179 ?_
              refine g_iadd d_Model_make_180 ?_
              refine g_istore d_Model_make_181 (by decide) rfl ?_
              refine g_iload d_Model_make_183 rfl ?_
              refine g_aload_n d_Model_make_185 rfl ?_
              refine w_get (k := 11) fl_Model_34 (by decide) rfl d_Model_make_186 ?_
              refine g_iload d_Model_make_189 rfl ?_
              refine w_ald (j := 8) (q := tn (s.2 9 (b + k))) (x := s.2 8 (tn (s.2 9 (b + k)))) hmn (by decide) (by decide) (tn_hi hq.1) hq.2 rfl d_Model_make_191 ?_
              refine g_ior d_Model_make_192 ?_
              refine g_istore d_Model_make_193 (by decide) rfl ?_
              refine g_iinc (v := nI k + 1) d_Model_make_195 rfl (by rfl) (by decide) rfl ?_
              refine g_goto (tgt := 82) d_Model_make_198 (by decide) ?_
              have e : rMk s v b A g0 (k + 1) = (1, ((rMk s v b A g0 k).2.1) + (s.2 7 (tn (s.2 9 (b + k)))), ((rMk s v b A g0 k).2.2) ||| (s.2 8 (tn (s.2 9 (b + k))))) := (if_neg c_91).trans (by simp only [rPl, if_pos c_95, c_148, c_161, not_true_eq_false, not_false_eq_true, and_true, true_and, and_false, false_and, and_self, or_true, true_or, or_false, false_or, or_self, if_true, if_false, ite_true, ite_false])
              rw [nI_1]
              have K := ih (k + 1) (by omega) (by omega)
              rw [e] at K
              dsimp only at K
              exact g_weak (lv := [(0, .ref (m)), (1, .int (t)), (2, .int (c)), (3, .int (v)), (4, .int (q4)), (5, .int (M)), (6, .int (H)), (7, .int (1)), (8, .int (((rMk s v b A g0 k).2.1) + (s.2 7 (tn (s.2 9 (b + k)))))), (9, .int (((rMk s v b A g0 k).2.2) ||| (s.2 8 (tn (s.2 9 (b + k)))))), (10, .int (nI (k + 1))), (11, .int (s.2 9 (b + k)))]) (by simp) (by simp) K
        · have hq : ¬ s.2 10 (b + k) < 0 ∧ tn (s.2 10 (b + k)) < 700 := by
            have := hp (b + k) (by omega)
            simpa only [rPl, c_95, if_true, if_false] using this
          refine g_aload_n d_Model_make_98 rfl ?_
          refine w_get (k := 13) fl_Model_40 (by decide) rfl d_Model_make_99 ?_
          refine g_iload d_Model_make_102 rfl ?_
          refine g_iload d_Model_make_104 rfl ?_
          refine g_isub d_Model_make_106 ?_
          refine g_iload d_Model_make_107 rfl ?_
          refine g_iadd d_Model_make_109 ?_
          refine w_ald (j := 10) (q := b + k) (x := s.2 10 (b + k)) hmn (by decide) (by decide) (by have := add_hi (sub_hi (tn_hi hH) (tn_hi hM) hMH) (nI_hi (n := k) (by omega)) (by omega); rw [this, hbb]) (by show _ < 40; omega) rfl d_Model_make_110 ?_
          refine g_goto (tgt := 127) d_Model_make_111 (by decide) ?_
          refine g_istore d_Model_make_127 (by decide) rfl ?_
          refine g_aload_n d_Model_make_129 rfl ?_
          refine w_get (k := 7) fl_Model_22 (by decide) rfl d_Model_make_130 ?_
          refine g_iload d_Model_make_133 rfl ?_
          refine w_ald (j := 4) (q := tn (s.2 10 (b + k))) (x := s.2 4 (tn (s.2 10 (b + k)))) hmn (by decide) (by decide) (tn_hi hq.1) hq.2 rfl d_Model_make_135 ?_
          refine g_aload_n d_Model_make_136 rfl ?_
          refine w_get (k := 3) fl_Model_16 (by decide) rfl d_Model_make_137 ?_
          refine g_iconst (v := 4) d_Model_make_140 (by decide) ?_
          refine g_iload d_Model_make_141 rfl ?_
          refine g_imul d_Model_make_143 ?_
          refine g_iload d_Model_make_144 rfl ?_
          refine g_iadd d_Model_make_146 ?_
          refine w_ald (j := 2) (q := 4 * A + k) (x := s.2 2 (4 * A + k)) hmn (by decide) (by decide) (add_hi (mul_hi i4 h4 (by omega)) (nI_hi (n := k) (by omega)) (by omega)) (by show _ < 512; omega) rfl d_Model_make_147 ?_
          refine g_icmp_ne (tgt := 168) d_Model_make_148 (by decide) (fun c_148 => ?_) (fun c_148 => ?_)
          · refine g_iconst (v := 0) d_Model_make_168 (by decide) ?_
            refine g_istore d_Model_make_169 (by decide) rfl ?_
            refine g_iload d_Model_make_171 rfl ?_
            refine g_aload_n d_Model_make_173 rfl ?_
            refine w_get (k := 10) fl_Model_31 (by decide) rfl d_Model_make_174 ?_
            refine g_iload d_Model_make_177 rfl ?_
            refine w_ald (j := 7) (q := tn (s.2 10 (b + k))) (x := s.2 7 (tn (s.2 10 (b + k)))) hmn (by decide) (by decide) (tn_hi hq.1) hq.2 rfl d_Model_make_179 ?_
            refine g_iadd d_Model_make_180 ?_
            refine g_istore d_Model_make_181 (by decide) rfl ?_
            refine g_iload d_Model_make_183 rfl ?_
            refine g_aload_n d_Model_make_185 rfl ?_
            refine w_get (k := 11) fl_Model_34 (by decide) rfl d_Model_make_186 ?_
            refine g_iload d_Model_make_189 rfl ?_
            refine w_ald (j := 8) (q := tn (s.2 10 (b + k))) (x := s.2 8 (tn (s.2 10 (b + k)))) hmn (by decide) (by decide) (tn_hi hq.1) hq.2 rfl d_Model_make_191 ?_
            refine g_ior d_Model_make_192 ?_
            refine g_istore d_Model_make_193 (by decide) rfl ?_
            refine g_iinc (v := nI k + 1) d_Model_make_195 rfl (by rfl) (by decide) rfl ?_
            refine g_goto (tgt := 82) d_Model_make_198 (by decide) ?_
            have e : rMk s v b A g0 (k + 1) = (0, ((rMk s v b A g0 k).2.1) + (s.2 7 (tn (s.2 10 (b + k)))), ((rMk s v b A g0 k).2.2) ||| (s.2 8 (tn (s.2 10 (b + k))))) := (if_neg c_91).trans (by simp only [rPl, if_neg c_95, c_148, not_true_eq_false, not_false_eq_true, and_true, true_and, and_false, false_and, and_self, or_true, true_or, or_false, false_or, or_self, if_true, if_false, ite_true, ite_false])
            rw [nI_1]
            have K := ih (k + 1) (by omega) (by omega)
            rw [e] at K
            dsimp only at K
            exact g_weak (lv := [(0, .ref (m)), (1, .int (t)), (2, .int (c)), (3, .int (v)), (4, .int (q4)), (5, .int (M)), (6, .int (H)), (7, .int (0)), (8, .int (((rMk s v b A g0 k).2.1) + (s.2 7 (tn (s.2 10 (b + k)))))), (9, .int (((rMk s v b A g0 k).2.2) ||| (s.2 8 (tn (s.2 10 (b + k)))))), (10, .int (nI (k + 1))), (11, .int (s.2 10 (b + k)))]) (by simp) (by simp) K
          · refine g_iload d_Model_make_151 rfl ?_
            refine g_aload_n d_Model_make_153 rfl ?_
            refine w_get (k := 11) fl_Model_34 (by decide) rfl d_Model_make_154 ?_
            refine g_iload d_Model_make_157 rfl ?_
            refine w_ald (j := 8) (q := tn (s.2 10 (b + k))) (x := s.2 8 (tn (s.2 10 (b + k)))) hmn (by decide) (by decide) (tn_hi hq.1) hq.2 rfl d_Model_make_159 ?_
            refine g_iand d_Model_make_160 ?_
            refine g_if_ne (tgt := 168) d_Model_make_161 (by decide) (fun c_161 => ?_) (fun c_161 => ?_)
            · refine g_iconst (v := 0) d_Model_make_168 (by decide) ?_
              refine g_istore d_Model_make_169 (by decide) rfl ?_
              refine g_iload d_Model_make_171 rfl ?_
              refine g_aload_n d_Model_make_173 rfl ?_
              refine w_get (k := 10) fl_Model_31 (by decide) rfl d_Model_make_174 ?_
              refine g_iload d_Model_make_177 rfl ?_
              refine w_ald (j := 7) (q := tn (s.2 10 (b + k))) (x := s.2 7 (tn (s.2 10 (b + k)))) hmn (by decide) (by decide) (tn_hi hq.1) hq.2 rfl d_Model_make_179 ?_
              refine g_iadd d_Model_make_180 ?_
              refine g_istore d_Model_make_181 (by decide) rfl ?_
              refine g_iload d_Model_make_183 rfl ?_
              refine g_aload_n d_Model_make_185 rfl ?_
              refine w_get (k := 11) fl_Model_34 (by decide) rfl d_Model_make_186 ?_
              refine g_iload d_Model_make_189 rfl ?_
              refine w_ald (j := 8) (q := tn (s.2 10 (b + k))) (x := s.2 8 (tn (s.2 10 (b + k)))) hmn (by decide) (by decide) (tn_hi hq.1) hq.2 rfl d_Model_make_191 ?_
              refine g_ior d_Model_make_192 ?_
              refine g_istore d_Model_make_193 (by decide) rfl ?_
              refine g_iinc (v := nI k + 1) d_Model_make_195 rfl (by rfl) (by decide) rfl ?_
              refine g_goto (tgt := 82) d_Model_make_198 (by decide) ?_
              have e : rMk s v b A g0 (k + 1) = (0, ((rMk s v b A g0 k).2.1) + (s.2 7 (tn (s.2 10 (b + k)))), ((rMk s v b A g0 k).2.2) ||| (s.2 8 (tn (s.2 10 (b + k))))) := (if_neg c_91).trans (by simp only [rPl, if_neg c_95, c_148, c_161, not_true_eq_false, not_false_eq_true, and_true, true_and, and_false, false_and, and_self, or_true, true_or, or_false, false_or, or_self, if_true, if_false, ite_true, ite_false])
              rw [nI_1]
              have K := ih (k + 1) (by omega) (by omega)
              rw [e] at K
              dsimp only at K
              exact g_weak (lv := [(0, .ref (m)), (1, .int (t)), (2, .int (c)), (3, .int (v)), (4, .int (q4)), (5, .int (M)), (6, .int (H)), (7, .int (0)), (8, .int (((rMk s v b A g0 k).2.1) + (s.2 7 (tn (s.2 10 (b + k)))))), (9, .int (((rMk s v b A g0 k).2.2) ||| (s.2 8 (tn (s.2 10 (b + k)))))), (10, .int (nI (k + 1))), (11, .int (s.2 10 (b + k)))]) (by simp) (by simp) K
            · refine g_iconst (v := 1) d_Model_make_164 (by decide) ?_
              refine g_goto (tgt := 169) d_Model_make_165 (by decide) ?_
              refine g_istore d_Model_make_169 (by decide) rfl ?_
              refine g_iload d_Model_make_171 rfl ?_
              refine g_aload_n d_Model_make_173 rfl ?_
              refine w_get (k := 10) fl_Model_31 (by decide) rfl d_Model_make_174 ?_
              refine g_iload d_Model_make_177 rfl ?_
              refine w_ald (j := 7) (q := tn (s.2 10 (b + k))) (x := s.2 7 (tn (s.2 10 (b + k)))) hmn (by decide) (by decide) (tn_hi hq.1) hq.2 rfl d_Model_make_179 ?_
              refine g_iadd d_Model_make_180 ?_
              refine g_istore d_Model_make_181 (by decide) rfl ?_
              refine g_iload d_Model_make_183 rfl ?_
              refine g_aload_n d_Model_make_185 rfl ?_
              refine w_get (k := 11) fl_Model_34 (by decide) rfl d_Model_make_186 ?_
              refine g_iload d_Model_make_189 rfl ?_
              refine w_ald (j := 8) (q := tn (s.2 10 (b + k))) (x := s.2 8 (tn (s.2 10 (b + k)))) hmn (by decide) (by decide) (tn_hi hq.1) hq.2 rfl d_Model_make_191 ?_
              refine g_ior d_Model_make_192 ?_
              refine g_istore d_Model_make_193 (by decide) rfl ?_
              refine g_iinc (v := nI k + 1) d_Model_make_195 rfl (by rfl) (by decide) rfl ?_
              refine g_goto (tgt := 82) d_Model_make_198 (by decide) ?_
              have e : rMk s v b A g0 (k + 1) = (1, ((rMk s v b A g0 k).2.1) + (s.2 7 (tn (s.2 10 (b + k)))), ((rMk s v b A g0 k).2.2) ||| (s.2 8 (tn (s.2 10 (b + k))))) := (if_neg c_91).trans (by simp only [rPl, if_neg c_95, c_148, c_161, not_true_eq_false, not_false_eq_true, and_true, true_and, and_false, false_and, and_self, or_true, true_or, or_false, false_or, or_self, if_true, if_false, ite_true, ite_false])
              rw [nI_1]
              have K := ih (k + 1) (by omega) (by omega)
              rw [e] at K
              dsimp only at K
              exact g_weak (lv := [(0, .ref (m)), (1, .int (t)), (2, .int (c)), (3, .int (v)), (4, .int (q4)), (5, .int (M)), (6, .int (H)), (7, .int (1)), (8, .int (((rMk s v b A g0 k).2.1) + (s.2 7 (tn (s.2 10 (b + k)))))), (9, .int (((rMk s v b A g0 k).2.2) ||| (s.2 8 (tn (s.2 10 (b + k)))))), (10, .int (nI (k + 1))), (11, .int (s.2 10 (b + k)))]) (by simp) (by simp) K
/-- f, with g from b on, k places -/
def cpy (f : Nat → Int32) (b k : Nat) (g : Nat → Int32) : Nat → Int32 := fun j => if b ≤ j ∧ j < b + k then g (j - b) else f j
theorem cpy_0 {f g : Nat → Int32} {b : Nat} : cpy f b 0 g = f := funext fun j => if_neg (by omega)
theorem cpy_s {f g : Nat → Int32} {b k : Nat} : upd (cpy f b k g) (b + k) (g k) = cpy f b (k + 1) g := by
  funext j
  simp only [upd, cpy]
  by_cases e : j = b + k
  · subst e
    rw [if_pos rfl, if_pos (by omega), Nat.add_sub_cancel_left]
  · rw [if_neg e]
    by_cases h : b ≤ j ∧ j < b + k
    · rw [if_pos h, if_pos (by omega)]
    · rw [if_neg h, if_neg (by omega)]
theorem upA_up {A : Nat → Nat → Int32} {j : Nat} {f g : Nat → Int32} : upA (upA A j f) j g = upA A j g := by
  funext i
  simp only [upA]
  by_cases e : i = j
  · rw [if_pos e, if_pos e]
  · rw [if_neg e, if_neg e, if_neg e]
theorem wC_0 {j b : Nat} {g : Nat → Int32} : wR s j (cpy (s.2 j) b 0 g) = s := by
  have e := wR_0 (s := s) (j := j) (b := b) (x := 0)
  rw [blk_0] at e
  rw [cpy_0]
  exact e
theorem wC_s {j : Nat} {f g : Nat → Int32} {b k : Nat} : wA (wR s j (cpy f b k g)) j (b + k) (g k) = wR s j (cpy f b (k + 1) g) := by
  simp only [wA, wR, upA_at, cpy_s, upA_up]
set_option maxHeartbeats 400000 in
set_option maxRecDepth 100000 in
theorem m_W_make_l2 (hmn : m < n) {t c v q4 M H q7 q8 q9 q10 : Int32} {K b : Nat} (h10 : q10.toInt = (K : Int)) (hK : K < 700) (hM : ¬ M < 0) (bM : tn M ≤ 4) (hH : ¬ H < 0) (bH : tn H ≤ 40) (hMH : tn M ≤ tn H) (hbb : b = tn H - tn M) (kk : GT E Y_Model_make d G0 310 [(0, .ref m), (1, .int t), (2, .int c), (3, .int v), (4, .int q4), (5, .int M), (6, .int H), (7, .int q7), (8, .int q8), (9, .int q9), (10, .int q10)] [] (mW E G m n (wR s 6 (cpy (s.2 6) (4 * K) (tn M) (fun j => rPl s v (b + j))))) Q) : ∀ (w k : Nat), tn M + 1 ≤ k + w → k ≤ tn M → GT E Y_Model_make d G0 252 [(0, .ref m), (1, .int t), (2, .int c), (3, .int v), (4, .int q4), (5, .int M), (6, .int H), (7, .int q7), (8, .int q8), (9, .int q9), (10, .int q10), (11, .int (nI k))] [] (mW E G m n (wR s 6 (cpy (s.2 6) (4 * K) k (fun j => rPl s v (b + j))))) Q := by
  intro w
  induction w with
  | zero => intro k h1 h2; omega
  | succ w ih =>
    intro k hm hkN
    refine g_iload d_Model_make_252 rfl ?_
    refine g_iload d_Model_make_254 rfl ?_
    refine g_icmp_ge (tgt := 310) d_Model_make_256 (by decide) (fun c_256 => ?_) (fun c_256 => ?_)
    · have e : k = tn M := by have := (le_hi (tn_hi hM) (nI_hi (n := k) (by omega))).mp c_256; omega
      subst e
      exact g_weak (lv := [(0, .ref m), (1, .int t), (2, .int c), (3, .int v), (4, .int q4), (5, .int M), (6, .int H), (7, .int q7), (8, .int q8), (9, .int q9), (10, .int q10), (11, .int (nI (tn M)))]) (by simp) (by simp) kk
    · have hk : k < tn M := Nat.not_le.mp (fun q => c_256 ((le_hi (tn_hi hM) (nI_hi (n := k) (by omega))).mpr q))
      refine g_aload_n d_Model_make_259 rfl ?_
      refine w_get (k := 9) fl_Model_28 (by decide) rfl d_Model_make_260 ?_
      refine g_iconst (v := 4) d_Model_make_263 (by decide) ?_
      refine g_iload d_Model_make_264 rfl ?_
      refine g_imul d_Model_make_266 ?_
      refine g_iload d_Model_make_267 rfl ?_
      refine g_iadd d_Model_make_269 ?_
      refine g_iload_n d_Model_make_270 rfl ?_
      refine g_if_eq (tgt := 290) d_Model_make_271 (by decide) (fun c_271 => ?_) (fun c_271 => ?_)
      · refine g_aload_n d_Model_make_290 rfl ?_
        refine w_get (k := 12) fl_Model_37 (by decide) rfl d_Model_make_291 ?_
        refine g_iload d_Model_make_294 rfl ?_
        refine g_iload d_Model_make_296 rfl ?_
        refine g_isub d_Model_make_298 ?_
        refine g_iload d_Model_make_299 rfl ?_
        refine g_iadd d_Model_make_301 ?_
        refine w_ald (j := 9) (q := b + k) (x := s.2 9 (b + k)) hmn (by decide) (by decide) (by have := add_hi (sub_hi (tn_hi hH) (tn_hi hM) hMH) (nI_hi (n := k) (by omega)) (by omega); rw [this, hbb]) (by show _ < 40; omega) rfl d_Model_make_302 ?_
        refine w_ast (j := 6) (q := 4 * K + k) hmn (by decide) (by decide) (add_hi (mul_hi i4 h10 (by omega)) (nI_hi (n := k) (by omega)) (by omega)) (by show _ < 2800; omega) d_Model_make_303 ?_
        refine g_iinc (v := nI k + 1) d_Model_make_304 rfl (by rfl) (by decide) rfl ?_
        refine g_goto (tgt := 252) d_Model_make_307 (by decide) ?_
        have e := wC_s (s := s) (j := 6) (f := s.2 6) (b := 4 * K) (k := k) (g := fun j => rPl s v (b + j))
        simp only [rPl, if_pos c_271] at e ih kk ⊢
        rw [e, nI_1]
        exact ih (k + 1) (by omega) (by omega)
      · refine g_aload_n d_Model_make_274 rfl ?_
        refine w_get (k := 13) fl_Model_40 (by decide) rfl d_Model_make_275 ?_
        refine g_iload d_Model_make_278 rfl ?_
        refine g_iload d_Model_make_280 rfl ?_
        refine g_isub d_Model_make_282 ?_
        refine g_iload d_Model_make_283 rfl ?_
        refine g_iadd d_Model_make_285 ?_
        refine w_ald (j := 10) (q := b + k) (x := s.2 10 (b + k)) hmn (by decide) (by decide) (by have := add_hi (sub_hi (tn_hi hH) (tn_hi hM) hMH) (nI_hi (n := k) (by omega)) (by omega); rw [this, hbb]) (by show _ < 40; omega) rfl d_Model_make_286 ?_
        refine g_goto (tgt := 303) d_Model_make_287 (by decide) ?_
        refine w_ast (j := 6) (q := 4 * K + k) hmn (by decide) (by decide) (add_hi (mul_hi i4 h10 (by omega)) (nI_hi (n := k) (by omega)) (by omega)) (by show _ < 2800; omega) d_Model_make_303 ?_
        refine g_iinc (v := nI k + 1) d_Model_make_304 rfl (by rfl) (by decide) rfl ?_
        refine g_goto (tgt := 252) d_Model_make_307 (by decide) ?_
        have e := wC_s (s := s) (j := 6) (f := s.2 6) (b := 4 * K) (k := k) (g := fun j => rPl s v (b + j))
        simp only [rPl, if_neg c_271] at e ih kk ⊢
        rw [e, nI_1]
        exact ih (k + 1) (by omega) (by omega)
end ME
