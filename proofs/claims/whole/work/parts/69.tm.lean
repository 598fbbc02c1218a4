/-! The reference: tellMissing, its steps -/
theorem d_Model_tellMissing_0 : decode Y_Model_tellMissing.2.1 0 = .ok (.iconst 1, 1) := by decide +kernel
theorem d_Model_tellMissing_1 : decode Y_Model_tellMissing.2.1 1 = .ok (.istore_n 1, 1) := by decide +kernel
theorem d_Model_tellMissing_2 : decode Y_Model_tellMissing.2.1 2 = .ok (.aload_n 0, 1) := by decide +kernel
theorem d_Model_tellMissing_3 : decode Y_Model_tellMissing.2.1 3 = .ok (.getfield 123, 3) := by decide +kernel
theorem d_Model_tellMissing_6 : decode Y_Model_tellMissing.2.1 6 = .ok (.iconst 0, 1) := by decide +kernel
theorem d_Model_tellMissing_7 : decode Y_Model_tellMissing.2.1 7 = .ok (.iconst 0, 1) := by decide +kernel
theorem d_Model_tellMissing_8 : decode Y_Model_tellMissing.2.1 8 = .ok (.iastore, 1) := by decide +kernel
theorem d_Model_tellMissing_9 : decode Y_Model_tellMissing.2.1 9 = .ok (.iload_n 1, 1) := by decide +kernel
theorem d_Model_tellMissing_10 : decode Y_Model_tellMissing.2.1 10 = .ok (.ifCond .le 282, 3) := by decide +kernel
theorem d_Model_tellMissing_13 : decode Y_Model_tellMissing.2.1 13 = .ok (.iinc 1 (-1), 3) := by decide +kernel
theorem d_Model_tellMissing_16 : decode Y_Model_tellMissing.2.1 16 = .ok (.aload_n 0, 1) := by decide +kernel
theorem d_Model_tellMissing_17 : decode Y_Model_tellMissing.2.1 17 = .ok (.getfield 123, 3) := by decide +kernel
theorem d_Model_tellMissing_20 : decode Y_Model_tellMissing.2.1 20 = .ok (.iload_n 1, 1) := by decide +kernel
theorem d_Model_tellMissing_21 : decode Y_Model_tellMissing.2.1 21 = .ok (.iaload, 1) := by decide +kernel
theorem d_Model_tellMissing_22 : decode Y_Model_tellMissing.2.1 22 = .ok (.istore_n 2, 1) := by decide +kernel
theorem d_Model_tellMissing_23 : decode Y_Model_tellMissing.2.1 23 = .ok (.aload_n 0, 1) := by decide +kernel
theorem d_Model_tellMissing_24 : decode Y_Model_tellMissing.2.1 24 = .ok (.getfield 81, 3) := by decide +kernel
theorem d_Model_tellMissing_27 : decode Y_Model_tellMissing.2.1 27 = .ok (.iload_n 2, 1) := by decide +kernel
theorem d_Model_tellMissing_28 : decode Y_Model_tellMissing.2.1 28 = .ok (.iaload, 1) := by decide +kernel
theorem d_Model_tellMissing_29 : decode Y_Model_tellMissing.2.1 29 = .ok (.istore_n 3, 1) := by decide +kernel
theorem d_Model_tellMissing_30 : decode Y_Model_tellMissing.2.1 30 = .ok (.aload_n 0, 1) := by decide +kernel
theorem d_Model_tellMissing_31 : decode Y_Model_tellMissing.2.1 31 = .ok (.getfield 50, 3) := by decide +kernel
theorem d_Model_tellMissing_34 : decode Y_Model_tellMissing.2.1 34 = .ok (.aload_n 0, 1) := by decide +kernel
theorem d_Model_tellMissing_35 : decode Y_Model_tellMissing.2.1 35 = .ok (.getfield 240, 3) := by decide +kernel
theorem d_Model_tellMissing_38 : decode Y_Model_tellMissing.2.1 38 = .ok (.iload_n 3, 1) := by decide +kernel
theorem d_Model_tellMissing_39 : decode Y_Model_tellMissing.2.1 39 = .ok (.ifCond .ne 7, 3) := by decide +kernel
theorem d_Model_tellMissing_42 : decode Y_Model_tellMissing.2.1 42 = .ok (.iconst 2, 1) := by decide +kernel
theorem d_Model_tellMissing_43 : decode Y_Model_tellMissing.2.1 43 = .ok (.goto 13, 3) := by decide +kernel
theorem d_Model_tellMissing_46 : decode Y_Model_tellMissing.2.1 46 = .ok (.iload_n 3, 1) := by decide +kernel
theorem d_Model_tellMissing_47 : decode Y_Model_tellMissing.2.1 47 = .ok (.iconst 1, 1) := by decide +kernel
theorem d_Model_tellMissing_48 : decode Y_Model_tellMissing.2.1 48 = .ok (.if_icmp .ne 7, 3) := by decide +kernel
theorem d_Model_tellMissing_51 : decode Y_Model_tellMissing.2.1 51 = .ok (.iconst 0, 1) := by decide +kernel
theorem d_Model_tellMissing_52 : decode Y_Model_tellMissing.2.1 52 = .ok (.goto 4, 3) := by decide +kernel
theorem d_Model_tellMissing_55 : decode Y_Model_tellMissing.2.1 55 = .ok (.iconst 1, 1) := by decide +kernel
theorem d_Model_tellMissing_56 : decode Y_Model_tellMissing.2.1 56 = .ok (.iastore, 1) := by decide +kernel
theorem d_Model_tellMissing_57 : decode Y_Model_tellMissing.2.1 57 = .ok (.aload_n 0, 1) := by decide +kernel
theorem d_Model_tellMissing_58 : decode Y_Model_tellMissing.2.1 58 = .ok (.getfield 50, 3) := by decide +kernel
theorem d_Model_tellMissing_61 : decode Y_Model_tellMissing.2.1 61 = .ok (.aload_n 0, 1) := by decide +kernel
theorem d_Model_tellMissing_62 : decode Y_Model_tellMissing.2.1 62 = .ok (.getfield 240, 3) := by decide +kernel
theorem d_Model_tellMissing_65 : decode Y_Model_tellMissing.2.1 65 = .ok (.iconst 1, 1) := by decide +kernel
theorem d_Model_tellMissing_66 : decode Y_Model_tellMissing.2.1 66 = .ok (.iadd, 1) := by decide +kernel
theorem d_Model_tellMissing_67 : decode Y_Model_tellMissing.2.1 67 = .ok (.iload_n 3, 1) := by decide +kernel
theorem d_Model_tellMissing_68 : decode Y_Model_tellMissing.2.1 68 = .ok (.ifCond .ne 7, 3) := by decide +kernel
theorem d_Model_tellMissing_71 : decode Y_Model_tellMissing.2.1 71 = .ok (.iconst 0, 1) := by decide +kernel
theorem d_Model_tellMissing_72 : decode Y_Model_tellMissing.2.1 72 = .ok (.goto 20, 3) := by decide +kernel
theorem d_Model_tellMissing_75 : decode Y_Model_tellMissing.2.1 75 = .ok (.iload_n 3, 1) := by decide +kernel
theorem d_Model_tellMissing_76 : decode Y_Model_tellMissing.2.1 76 = .ok (.iconst 1, 1) := by decide +kernel
theorem d_Model_tellMissing_77 : decode Y_Model_tellMissing.2.1 77 = .ok (.if_icmp .ne 12, 3) := by decide +kernel
theorem d_Model_tellMissing_80 : decode Y_Model_tellMissing.2.1 80 = .ok (.aload_n 0, 1) := by decide +kernel
theorem d_Model_tellMissing_81 : decode Y_Model_tellMissing.2.1 81 = .ok (.getfield 84, 3) := by decide +kernel
theorem d_Model_tellMissing_84 : decode Y_Model_tellMissing.2.1 84 = .ok (.iload_n 2, 1) := by decide +kernel
theorem d_Model_tellMissing_85 : decode Y_Model_tellMissing.2.1 85 = .ok (.iaload, 1) := by decide +kernel
theorem d_Model_tellMissing_86 : decode Y_Model_tellMissing.2.1 86 = .ok (.goto 6, 3) := by decide +kernel
theorem d_Model_tellMissing_89 : decode Y_Model_tellMissing.2.1 89 = .ok (.iload_n 3, 1) := by decide +kernel
theorem d_Model_tellMissing_90 : decode Y_Model_tellMissing.2.1 90 = .ok (.iconst 2, 1) := by decide +kernel
theorem d_Model_tellMissing_91 : decode Y_Model_tellMissing.2.1 91 = .ok (.isub, 1) := by decide +kernel
theorem d_Model_tellMissing_92 : decode Y_Model_tellMissing.2.1 92 = .ok (.iastore, 1) := by decide +kernel
theorem d_Model_tellMissing_93 : decode Y_Model_tellMissing.2.1 93 = .ok (.aload_n 0, 1) := by decide +kernel
theorem d_Model_tellMissing_94 : decode Y_Model_tellMissing.2.1 94 = .ok (.dup, 1) := by decide +kernel
theorem d_Model_tellMissing_95 : decode Y_Model_tellMissing.2.1 95 = .ok (.getfield 240, 3) := by decide +kernel
theorem d_Model_tellMissing_98 : decode Y_Model_tellMissing.2.1 98 = .ok (.iconst 2, 1) := by decide +kernel
theorem d_Model_tellMissing_99 : decode Y_Model_tellMissing.2.1 99 = .ok (.iadd, 1) := by decide +kernel
theorem d_Model_tellMissing_100 : decode Y_Model_tellMissing.2.1 100 = .ok (.putfield 240, 3) := by decide +kernel
theorem d_Model_tellMissing_103 : decode Y_Model_tellMissing.2.1 103 = .ok (.iload_n 3, 1) := by decide +kernel
theorem d_Model_tellMissing_104 : decode Y_Model_tellMissing.2.1 104 = .ok (.iconst 1, 1) := by decide +kernel
theorem d_Model_tellMissing_105 : decode Y_Model_tellMissing.2.1 105 = .ok (.if_icmp .le 24, 3) := by decide +kernel
theorem d_Model_tellMissing_108 : decode Y_Model_tellMissing.2.1 108 = .ok (.aload_n 0, 1) := by decide +kernel
theorem d_Model_tellMissing_109 : decode Y_Model_tellMissing.2.1 109 = .ok (.getfield 13, 3) := by decide +kernel
theorem d_Model_tellMissing_112 : decode Y_Model_tellMissing.2.1 112 = .ok (.bipush 8, 2) := by decide +kernel
theorem d_Model_tellMissing_114 : decode Y_Model_tellMissing.2.1 114 = .ok (.aload_n 0, 1) := by decide +kernel
theorem d_Model_tellMissing_115 : decode Y_Model_tellMissing.2.1 115 = .ok (.getfield 74, 3) := by decide +kernel
theorem d_Model_tellMissing_118 : decode Y_Model_tellMissing.2.1 118 = .ok (.iload_n 2, 1) := by decide +kernel
theorem d_Model_tellMissing_119 : decode Y_Model_tellMissing.2.1 119 = .ok (.iaload, 1) := by decide +kernel
theorem d_Model_tellMissing_120 : decode Y_Model_tellMissing.2.1 120 = .ok (.imul, 1) := by decide +kernel
theorem d_Model_tellMissing_121 : decode Y_Model_tellMissing.2.1 121 = .ok (.iload_n 3, 1) := by decide +kernel
theorem d_Model_tellMissing_122 : decode Y_Model_tellMissing.2.1 122 = .ok (.iadd, 1) := by decide +kernel
theorem d_Model_tellMissing_123 : decode Y_Model_tellMissing.2.1 123 = .ok (.iconst 2, 1) := by decide +kernel
theorem d_Model_tellMissing_124 : decode Y_Model_tellMissing.2.1 124 = .ok (.isub, 1) := by decide +kernel
theorem d_Model_tellMissing_125 : decode Y_Model_tellMissing.2.1 125 = .ok (.iaload, 1) := by decide +kernel
theorem d_Model_tellMissing_126 : decode Y_Model_tellMissing.2.1 126 = .ok (.goto 4, 3) := by decide +kernel
theorem d_Model_tellMissing_129 : decode Y_Model_tellMissing.2.1 129 = .ok (.iconst 0, 1) := by decide +kernel
theorem d_Model_tellMissing_130 : decode Y_Model_tellMissing.2.1 130 = .ok (.istore 4, 2) := by decide +kernel
theorem d_Model_tellMissing_132 : decode Y_Model_tellMissing.2.1 132 = .ok (.iload 4, 2) := by decide +kernel
theorem d_Model_tellMissing_134 : decode Y_Model_tellMissing.2.1 134 = .ok (.iconst 1, 1) := by decide +kernel
theorem d_Model_tellMissing_135 : decode Y_Model_tellMissing.2.1 135 = .ok (.isub, 1) := by decide +kernel
theorem d_Model_tellMissing_136 : decode Y_Model_tellMissing.2.1 136 = .ok (.istore 5, 2) := by decide +kernel
theorem d_Model_tellMissing_138 : decode Y_Model_tellMissing.2.1 138 = .ok (.iload 5, 2) := by decide +kernel
theorem d_Model_tellMissing_140 : decode Y_Model_tellMissing.2.1 140 = .ok (.ifCond .lt 28, 3) := by decide +kernel
theorem d_Model_tellMissing_143 : decode Y_Model_tellMissing.2.1 143 = .ok (.aload_n 0, 1) := by decide +kernel
theorem d_Model_tellMissing_144 : decode Y_Model_tellMissing.2.1 144 = .ok (.getfield 123, 3) := by decide +kernel
theorem d_Model_tellMissing_147 : decode Y_Model_tellMissing.2.1 147 = .ok (.iload_n 1, 1) := by decide +kernel
theorem d_Model_tellMissing_148 : decode Y_Model_tellMissing.2.1 148 = .ok (.bipush (-2), 2) := by decide +kernel
theorem d_Model_tellMissing_150 : decode Y_Model_tellMissing.2.1 150 = .ok (.bipush 8, 2) := by decide +kernel
theorem d_Model_tellMissing_152 : decode Y_Model_tellMissing.2.1 152 = .ok (.iload_n 2, 1) := by decide +kernel
theorem d_Model_tellMissing_153 : decode Y_Model_tellMissing.2.1 153 = .ok (.imul, 1) := by decide +kernel
theorem d_Model_tellMissing_154 : decode Y_Model_tellMissing.2.1 154 = .ok (.iload 5, 2) := by decide +kernel
theorem d_Model_tellMissing_156 : decode Y_Model_tellMissing.2.1 156 = .ok (.iadd, 1) := by decide +kernel
theorem d_Model_tellMissing_157 : decode Y_Model_tellMissing.2.1 157 = .ok (.isub, 1) := by decide +kernel
theorem d_Model_tellMissing_158 : decode Y_Model_tellMissing.2.1 158 = .ok (.iastore, 1) := by decide +kernel
theorem d_Model_tellMissing_159 : decode Y_Model_tellMissing.2.1 159 = .ok (.iinc 1 1, 3) := by decide +kernel
theorem d_Model_tellMissing_162 : decode Y_Model_tellMissing.2.1 162 = .ok (.iinc 5 (-1), 3) := by decide +kernel
theorem d_Model_tellMissing_165 : decode Y_Model_tellMissing.2.1 165 = .ok (.goto (-27), 3) := by decide +kernel
theorem d_Model_tellMissing_168 : decode Y_Model_tellMissing.2.1 168 = .ok (.iload_n 1, 1) := by decide +kernel
theorem d_Model_tellMissing_169 : decode Y_Model_tellMissing.2.1 169 = .ok (.ifCond .le 120, 3) := by decide +kernel
theorem d_Model_tellMissing_172 : decode Y_Model_tellMissing.2.1 172 = .ok (.aload_n 0, 1) := by decide +kernel
theorem d_Model_tellMissing_173 : decode Y_Model_tellMissing.2.1 173 = .ok (.getfield 123, 3) := by decide +kernel
theorem d_Model_tellMissing_176 : decode Y_Model_tellMissing.2.1 176 = .ok (.iload_n 1, 1) := by decide +kernel
theorem d_Model_tellMissing_177 : decode Y_Model_tellMissing.2.1 177 = .ok (.iconst 1, 1) := by decide +kernel
theorem d_Model_tellMissing_178 : decode Y_Model_tellMissing.2.1 178 = .ok (.isub, 1) := by decide +kernel
theorem d_Model_tellMissing_179 : decode Y_Model_tellMissing.2.1 179 = .ok (.iaload, 1) := by decide +kernel
theorem d_Model_tellMissing_180 : decode Y_Model_tellMissing.2.1 180 = .ok (.ifCond .ge 109, 3) := by decide +kernel
theorem d_Model_tellMissing_183 : decode Y_Model_tellMissing.2.1 183 = .ok (.aload_n 0, 1) := by decide +kernel
theorem d_Model_tellMissing_184 : decode Y_Model_tellMissing.2.1 184 = .ok (.getfield 123, 3) := by decide +kernel
theorem d_Model_tellMissing_187 : decode Y_Model_tellMissing.2.1 187 = .ok (.iload_n 1, 1) := by decide +kernel
theorem d_Model_tellMissing_188 : decode Y_Model_tellMissing.2.1 188 = .ok (.iconst 1, 1) := by decide +kernel
theorem d_Model_tellMissing_189 : decode Y_Model_tellMissing.2.1 189 = .ok (.isub, 1) := by decide +kernel
theorem d_Model_tellMissing_190 : decode Y_Model_tellMissing.2.1 190 = .ok (.iaload, 1) := by decide +kernel
theorem d_Model_tellMissing_191 : decode Y_Model_tellMissing.2.1 191 = .ok (.ineg, 1) := by decide +kernel
theorem d_Model_tellMissing_192 : decode Y_Model_tellMissing.2.1 192 = .ok (.iconst 2, 1) := by decide +kernel
theorem d_Model_tellMissing_193 : decode Y_Model_tellMissing.2.1 193 = .ok (.isub, 1) := by decide +kernel
theorem d_Model_tellMissing_194 : decode Y_Model_tellMissing.2.1 194 = .ok (.istore 5, 2) := by decide +kernel
theorem d_Model_tellMissing_196 : decode Y_Model_tellMissing.2.1 196 = .ok (.iload 5, 2) := by decide +kernel
theorem d_Model_tellMissing_198 : decode Y_Model_tellMissing.2.1 198 = .ok (.bipush 8, 2) := by decide +kernel
theorem d_Model_tellMissing_200 : decode Y_Model_tellMissing.2.1 200 = .ok (.idiv, 1) := by decide +kernel
theorem d_Model_tellMissing_201 : decode Y_Model_tellMissing.2.1 201 = .ok (.istore 6, 2) := by decide +kernel
theorem d_Model_tellMissing_203 : decode Y_Model_tellMissing.2.1 203 = .ok (.aload_n 0, 1) := by decide +kernel
theorem d_Model_tellMissing_204 : decode Y_Model_tellMissing.2.1 204 = .ok (.getfield 78, 3) := by decide +kernel
theorem d_Model_tellMissing_207 : decode Y_Model_tellMissing.2.1 207 = .ok (.bipush 32, 2) := by decide +kernel
theorem d_Model_tellMissing_209 : decode Y_Model_tellMissing.2.1 209 = .ok (.iload 6, 2) := by decide +kernel
theorem d_Model_tellMissing_211 : decode Y_Model_tellMissing.2.1 211 = .ok (.imul, 1) := by decide +kernel
theorem d_Model_tellMissing_212 : decode Y_Model_tellMissing.2.1 212 = .ok (.iconst 4, 1) := by decide +kernel
theorem d_Model_tellMissing_213 : decode Y_Model_tellMissing.2.1 213 = .ok (.aload_n 0, 1) := by decide +kernel
theorem d_Model_tellMissing_214 : decode Y_Model_tellMissing.2.1 214 = .ok (.getfield 81, 3) := by decide +kernel
theorem d_Model_tellMissing_217 : decode Y_Model_tellMissing.2.1 217 = .ok (.iload 6, 2) := by decide +kernel
theorem d_Model_tellMissing_219 : decode Y_Model_tellMissing.2.1 219 = .ok (.iaload, 1) := by decide +kernel
theorem d_Model_tellMissing_220 : decode Y_Model_tellMissing.2.1 220 = .ok (.iconst 2, 1) := by decide +kernel
theorem d_Model_tellMissing_221 : decode Y_Model_tellMissing.2.1 221 = .ok (.isub, 1) := by decide +kernel
theorem d_Model_tellMissing_222 : decode Y_Model_tellMissing.2.1 222 = .ok (.imul, 1) := by decide +kernel
theorem d_Model_tellMissing_223 : decode Y_Model_tellMissing.2.1 223 = .ok (.iadd, 1) := by decide +kernel
theorem d_Model_tellMissing_224 : decode Y_Model_tellMissing.2.1 224 = .ok (.iload 5, 2) := by decide +kernel
theorem d_Model_tellMissing_226 : decode Y_Model_tellMissing.2.1 226 = .ok (.bipush 8, 2) := by decide +kernel
theorem d_Model_tellMissing_228 : decode Y_Model_tellMissing.2.1 228 = .ok (.irem, 1) := by decide +kernel
theorem d_Model_tellMissing_229 : decode Y_Model_tellMissing.2.1 229 = .ok (.iadd, 1) := by decide +kernel
theorem d_Model_tellMissing_230 : decode Y_Model_tellMissing.2.1 230 = .ok (.iaload, 1) := by decide +kernel
theorem d_Model_tellMissing_231 : decode Y_Model_tellMissing.2.1 231 = .ok (.istore 7, 2) := by decide +kernel
theorem d_Model_tellMissing_233 : decode Y_Model_tellMissing.2.1 233 = .ok (.iload 7, 2) := by decide +kernel
theorem d_Model_tellMissing_235 : decode Y_Model_tellMissing.2.1 235 = .ok (.ifCond .le 16, 3) := by decide +kernel
theorem d_Model_tellMissing_238 : decode Y_Model_tellMissing.2.1 238 = .ok (.aload_n 0, 1) := by decide +kernel
theorem d_Model_tellMissing_239 : decode Y_Model_tellMissing.2.1 239 = .ok (.getfield 123, 3) := by decide +kernel
theorem d_Model_tellMissing_242 : decode Y_Model_tellMissing.2.1 242 = .ok (.iload_n 1, 1) := by decide +kernel
theorem d_Model_tellMissing_243 : decode Y_Model_tellMissing.2.1 243 = .ok (.iconst 1, 1) := by decide +kernel
theorem d_Model_tellMissing_244 : decode Y_Model_tellMissing.2.1 244 = .ok (.isub, 1) := by decide +kernel
theorem d_Model_tellMissing_245 : decode Y_Model_tellMissing.2.1 245 = .ok (.iload 7, 2) := by decide +kernel
theorem d_Model_tellMissing_247 : decode Y_Model_tellMissing.2.1 247 = .ok (.iastore, 1) := by decide +kernel
theorem d_Model_tellMissing_248 : decode Y_Model_tellMissing.2.1 248 = .ok (.goto 38, 3) := by decide +kernel
theorem d_Model_tellMissing_251 : decode Y_Model_tellMissing.2.1 251 = .ok (.aload_n 0, 1) := by decide +kernel
theorem d_Model_tellMissing_252 : decode Y_Model_tellMissing.2.1 252 = .ok (.getfield 50, 3) := by decide +kernel
theorem d_Model_tellMissing_255 : decode Y_Model_tellMissing.2.1 255 = .ok (.aload_n 0, 1) := by decide +kernel
theorem d_Model_tellMissing_256 : decode Y_Model_tellMissing.2.1 256 = .ok (.getfield 240, 3) := by decide +kernel
theorem d_Model_tellMissing_259 : decode Y_Model_tellMissing.2.1 259 = .ok (.iconst 2, 1) := by decide +kernel
theorem d_Model_tellMissing_260 : decode Y_Model_tellMissing.2.1 260 = .ok (.iastore, 1) := by decide +kernel
theorem d_Model_tellMissing_261 : decode Y_Model_tellMissing.2.1 261 = .ok (.aload_n 0, 1) := by decide +kernel
theorem d_Model_tellMissing_262 : decode Y_Model_tellMissing.2.1 262 = .ok (.getfield 50, 3) := by decide +kernel
theorem d_Model_tellMissing_265 : decode Y_Model_tellMissing.2.1 265 = .ok (.aload_n 0, 1) := by decide +kernel
theorem d_Model_tellMissing_266 : decode Y_Model_tellMissing.2.1 266 = .ok (.getfield 240, 3) := by decide +kernel
theorem d_Model_tellMissing_269 : decode Y_Model_tellMissing.2.1 269 = .ok (.iconst 1, 1) := by decide +kernel
theorem d_Model_tellMissing_270 : decode Y_Model_tellMissing.2.1 270 = .ok (.iadd, 1) := by decide +kernel
theorem d_Model_tellMissing_271 : decode Y_Model_tellMissing.2.1 271 = .ok (.iconst 0, 1) := by decide +kernel
theorem d_Model_tellMissing_272 : decode Y_Model_tellMissing.2.1 272 = .ok (.iastore, 1) := by decide +kernel
theorem d_Model_tellMissing_273 : decode Y_Model_tellMissing.2.1 273 = .ok (.aload_n 0, 1) := by decide +kernel
theorem d_Model_tellMissing_274 : decode Y_Model_tellMissing.2.1 274 = .ok (.dup, 1) := by decide +kernel
theorem d_Model_tellMissing_275 : decode Y_Model_tellMissing.2.1 275 = .ok (.getfield 240, 3) := by decide +kernel
theorem d_Model_tellMissing_278 : decode Y_Model_tellMissing.2.1 278 = .ok (.iconst 2, 1) := by decide +kernel
theorem d_Model_tellMissing_279 : decode Y_Model_tellMissing.2.1 279 = .ok (.iadd, 1) := by decide +kernel
theorem d_Model_tellMissing_280 : decode Y_Model_tellMissing.2.1 280 = .ok (.putfield 240, 3) := by decide +kernel
theorem d_Model_tellMissing_283 : decode Y_Model_tellMissing.2.1 283 = .ok (.iinc 1 (-1), 3) := by decide +kernel
theorem d_Model_tellMissing_286 : decode Y_Model_tellMissing.2.1 286 = .ok (.goto (-118), 3) := by decide +kernel
theorem d_Model_tellMissing_289 : decode Y_Model_tellMissing.2.1 289 = .ok (.goto (-280), 3) := by decide +kernel
theorem d_Model_tellMissing_292 : decode Y_Model_tellMissing.2.1 292 = .ok (.return_, 1) := by decide +kernel
section MT
variable {E : gE} {d : Nat} {G G0 : gS} {m n : Nat} {s : mS} {Q : gO → gS → Prop}
/-- a pair is told -/
def rTl (s : mS) (c : Nat) (x y : Int32) : mS := wF (wA (wA s 13 c x) 13 (c + 1) y) 25 (s.1 25 + 2)
set_option maxHeartbeats 400000 in
set_option maxRecDepth 100000 in
theorem m_W_tm_i (hmn : m < n) (kk : GT E Y_Model_tellMissing d (mW E G m n s) 9 [(0, .ref m), (1, .int (1))] [] (mW E G m n (wA s 36 0 0)) Q) : GM E Y_Model_tellMissing d [.ref m] (mW E G m n s) Q := by
  refine g_entry (by decide) (by simp [Value.category]) (Nat.le_of_ble_eq_true rfl) ?_
  refine g_iconst (v := 1) d_Model_tellMissing_0 (by decide) ?_
  refine g_istore_n d_Model_tellMissing_1 (by decide) rfl ?_
  refine g_aload_n d_Model_tellMissing_2 rfl ?_
  refine w_get (k := 53) fl_Model_123 (by decide) rfl d_Model_tellMissing_3 ?_
  refine g_iconst (v := 0) d_Model_tellMissing_6 (by decide) ?_
  refine g_iconst (v := 0) d_Model_tellMissing_7 (by decide) ?_
  refine w_ast (j := 36) (q := 0) hmn (by decide) (by decide) (by decide) (by decide) d_Model_tellMissing_8 ?_
  exact kk
set_option maxHeartbeats 400000 in
set_option maxRecDepth 100000 in
theorem m_W_tm_e (hmn : m < n) {x : Int32} (hx : x ≤ 0) (kk : Q (.inl none) (mW E G m n s)) : GT E Y_Model_tellMissing d G0 9 [(0, .ref m), (1, .int (x))] [] (mW E G m n s) Q := by
  refine g_iload_n d_Model_tellMissing_9 rfl ?_
  refine g_if_le (tgt := 292) d_Model_tellMissing_10 (by decide) (fun c_10 => ?_) (fun c_10 => ?_)
  rotate_left
  · exact absurd c_10 (fun y => y hx)
  refine g_vret rfl d_Model_tellMissing_292 ?_
  exact kk
set_option maxHeartbeats 400000 in
set_option maxRecDepth 100000 in
theorem m_W_tm_0 (hmn : m < n) {M c p : Nat} (bM : M < 2400) (h36 : s.2 36 M = nI p) (bp : p < 2200) (h25 : s.1 25 = nI c) (bc : c + 1 < 9000) (hb : s.2 23 p = 0) (kk : GT E Y_Model_tellMissing d G0 168 [(0, .ref m), (1, .int (nI M))] [] (mW E G m n (rTl s c 2 0)) Q) : GT E Y_Model_tellMissing d G0 9 [(0, .ref m), (1, .int (nI (M + 1)))] [] (mW E G m n s) Q := by
  refine g_iload_n d_Model_tellMissing_9 rfl ?_
  refine g_if_le (tgt := 292) d_Model_tellMissing_10 (by decide) (fun c_10 => ?_) (fun c_10 => ?_)
  · exact absurd c_10 (fun y => absurd ((le_hi (nI_hi (n := M + 1) (by omega)) (show (0 : Int32).toInt = ((0 : Nat) : Int) by decide)).mp y) (by omega))
  refine g_iinc (v := nI (M + 1) + (-1)) d_Model_tellMissing_13 rfl (by rfl) (by decide) rfl ?_
  refine g_aload_n d_Model_tellMissing_16 rfl ?_
  refine w_get (k := 53) fl_Model_123 (by decide) rfl d_Model_tellMissing_17 ?_
  refine g_iload_n d_Model_tellMissing_20 rfl ?_
  refine w_ald (j := 36) (q := M) (x := nI p) hmn (by decide) (by decide) (by rw [nI_m1 (by omega) (by omega)]; exact nI_hi (by omega)) (by show _ < 2400; omega) h36 d_Model_tellMissing_21 ?_
  refine g_istore_n d_Model_tellMissing_22 (by decide) rfl ?_
  refine g_aload_n d_Model_tellMissing_23 rfl ?_
  refine w_get (k := 38) fl_Model_81 (by decide) rfl d_Model_tellMissing_24 ?_
  refine g_iload_n d_Model_tellMissing_27 rfl ?_
  refine w_ald (j := 23) (q := p) (x := s.2 23 p) hmn (by decide) (by decide) (nI_hi (by omega)) (by show _ < 2200; omega) rfl d_Model_tellMissing_28 ?_
  refine g_istore_n d_Model_tellMissing_29 (by decide) rfl ?_
  refine g_aload_n d_Model_tellMissing_30 rfl ?_
  refine w_get (k := 27) fl_Model_50 (by decide) rfl d_Model_tellMissing_31 ?_
  refine g_aload_n d_Model_tellMissing_34 rfl ?_
  refine w_get (k := 25) (x := .int (s.1 25)) fl_Model_240 (by decide) rfl d_Model_tellMissing_35 ?_
  refine g_iload_n d_Model_tellMissing_38 rfl ?_
  refine g_if_ne (tgt := 46) d_Model_tellMissing_39 (by decide) (fun c_39 => ?_) (fun c_39 => ?_)
  · exact absurd c_39 (fun y => y hb)
  refine g_iconst (v := 2) d_Model_tellMissing_42 (by decide) ?_
  refine g_goto (tgt := 56) d_Model_tellMissing_43 (by decide) ?_
  refine w_ast (j := 13) (q := c) hmn (by decide) (by decide) (by rw [h25]; exact nI_hi (by omega)) (by show _ < 9000; omega) d_Model_tellMissing_56 ?_
  refine g_aload_n d_Model_tellMissing_57 rfl ?_
  refine w_get (k := 27) fl_Model_50 (by decide) rfl d_Model_tellMissing_58 ?_
  refine g_aload_n d_Model_tellMissing_61 rfl ?_
  refine w_get (k := 25) (x := .int (s.1 25)) fl_Model_240 (by decide) rfl d_Model_tellMissing_62 ?_
  refine g_iconst (v := 1) d_Model_tellMissing_65 (by decide) ?_
  refine g_iadd d_Model_tellMissing_66 ?_
  refine g_iload_n d_Model_tellMissing_67 rfl ?_
  refine g_if_ne (tgt := 75) d_Model_tellMissing_68 (by decide) (fun c_68 => ?_) (fun c_68 => ?_)
  · exact absurd c_68 (fun y => y hb)
  refine g_iconst (v := 0) d_Model_tellMissing_71 (by decide) ?_
  refine g_goto (tgt := 92) d_Model_tellMissing_72 (by decide) ?_
  refine w_ast (j := 13) (q := c + 1) hmn (by decide) (by decide) (add_hi (by rw [h25]; exact nI_hi (n := c) (by omega)) i1 (by omega)) (by show _ < 9000; omega) d_Model_tellMissing_92 ?_
  refine g_aload_n d_Model_tellMissing_93 rfl ?_
  refine g_dup d_Model_tellMissing_94 rfl ?_
  refine w_get (k := 25) (x := .int (s.1 25)) fl_Model_240 (by decide) rfl d_Model_tellMissing_95 ?_
  refine g_iconst (v := 2) d_Model_tellMissing_98 (by decide) ?_
  refine g_iadd d_Model_tellMissing_99 ?_
  refine w_put (k := 25) fl_Model_240 (by decide) rfl rfl rfl rfl (Nat.le_of_ble_eq_true rfl) d_Model_tellMissing_100 ?_
  refine g_iload_n d_Model_tellMissing_103 rfl ?_
  refine g_iconst (v := 1) d_Model_tellMissing_104 (by decide) ?_
  refine g_icmp_le (tgt := 129) d_Model_tellMissing_105 (by decide) (fun c_105 => ?_) (fun c_105 => ?_)
  rotate_left
  · exact absurd c_105 (fun y => y (by rw [hb]; decide))
  refine g_iconst (v := 0) d_Model_tellMissing_129 (by decide) ?_
  refine g_istore d_Model_tellMissing_130 (by decide) rfl ?_
  refine g_iload d_Model_tellMissing_132 rfl ?_
  refine g_iconst (v := 1) d_Model_tellMissing_134 (by decide) ?_
  refine g_isub d_Model_tellMissing_135 ?_
  refine g_istore d_Model_tellMissing_136 (by decide) rfl ?_
  refine g_iload d_Model_tellMissing_138 rfl ?_
  refine g_if_lt (tgt := 168) d_Model_tellMissing_140 (by decide) (fun c_140 => ?_) (fun c_140 => ?_)
  rotate_left
  · exact absurd c_140 (fun y => y (by decide))
  rw [nI_m1 (by omega) (by omega)]
  exact g_weak (lv := [(0, .ref (m)), (1, .int (nI M)), (2, .int (nI p)), (3, .int (s.2 23 p)), (4, .int (0)), (5, .int ((0) - (1)))]) (by simp) (by simp) (kk)
set_option maxHeartbeats 400000 in
set_option maxRecDepth 100000 in
theorem m_W_tm_1 (hmn : m < n) {M c p : Nat} (bM : M < 2400) (h36 : s.2 36 M = nI p) (bp : p < 2200) (h25 : s.1 25 = nI c) (bc : c + 1 < 9000) (hb : s.2 23 p = 1) (kk : GT E Y_Model_tellMissing d G0 168 [(0, .ref m), (1, .int (nI M))] [] (mW E G m n (rTl s c 0 (s.2 24 p))) Q) : GT E Y_Model_tellMissing d G0 9 [(0, .ref m), (1, .int (nI (M + 1)))] [] (mW E G m n s) Q := by
  refine g_iload_n d_Model_tellMissing_9 rfl ?_
  refine g_if_le (tgt := 292) d_Model_tellMissing_10 (by decide) (fun c_10 => ?_) (fun c_10 => ?_)
  · exact absurd c_10 (fun y => absurd ((le_hi (nI_hi (n := M + 1) (by omega)) (show (0 : Int32).toInt = ((0 : Nat) : Int) by decide)).mp y) (by omega))
  refine g_iinc (v := nI (M + 1) + (-1)) d_Model_tellMissing_13 rfl (by rfl) (by decide) rfl ?_
  refine g_aload_n d_Model_tellMissing_16 rfl ?_
  refine w_get (k := 53) fl_Model_123 (by decide) rfl d_Model_tellMissing_17 ?_
  refine g_iload_n d_Model_tellMissing_20 rfl ?_
  refine w_ald (j := 36) (q := M) (x := nI p) hmn (by decide) (by decide) (by rw [nI_m1 (by omega) (by omega)]; exact nI_hi (by omega)) (by show _ < 2400; omega) h36 d_Model_tellMissing_21 ?_
  refine g_istore_n d_Model_tellMissing_22 (by decide) rfl ?_
  refine g_aload_n d_Model_tellMissing_23 rfl ?_
  refine w_get (k := 38) fl_Model_81 (by decide) rfl d_Model_tellMissing_24 ?_
  refine g_iload_n d_Model_tellMissing_27 rfl ?_
  refine w_ald (j := 23) (q := p) (x := s.2 23 p) hmn (by decide) (by decide) (nI_hi (by omega)) (by show _ < 2200; omega) rfl d_Model_tellMissing_28 ?_
  refine g_istore_n d_Model_tellMissing_29 (by decide) rfl ?_
  refine g_aload_n d_Model_tellMissing_30 rfl ?_
  refine w_get (k := 27) fl_Model_50 (by decide) rfl d_Model_tellMissing_31 ?_
  refine g_aload_n d_Model_tellMissing_34 rfl ?_
  refine w_get (k := 25) (x := .int (s.1 25)) fl_Model_240 (by decide) rfl d_Model_tellMissing_35 ?_
  refine g_iload_n d_Model_tellMissing_38 rfl ?_
  refine g_if_ne (tgt := 46) d_Model_tellMissing_39 (by decide) (fun c_39 => ?_) (fun c_39 => ?_)
  rotate_left
  · exact absurd c_39 (fun y => absurd (hb.symm.trans y) (by decide))
  refine g_iload_n d_Model_tellMissing_46 rfl ?_
  refine g_iconst (v := 1) d_Model_tellMissing_47 (by decide) ?_
  refine g_icmp_ne (tgt := 55) d_Model_tellMissing_48 (by decide) (fun c_48 => ?_) (fun c_48 => ?_)
  · exact absurd c_48 (fun y => y hb)
  refine g_iconst (v := 0) d_Model_tellMissing_51 (by decide) ?_
  refine g_goto (tgt := 56) d_Model_tellMissing_52 (by decide) ?_
  refine w_ast (j := 13) (q := c) hmn (by decide) (by decide) (by rw [h25]; exact nI_hi (by omega)) (by show _ < 9000; omega) d_Model_tellMissing_56 ?_
  refine g_aload_n d_Model_tellMissing_57 rfl ?_
  refine w_get (k := 27) fl_Model_50 (by decide) rfl d_Model_tellMissing_58 ?_
  refine g_aload_n d_Model_tellMissing_61 rfl ?_
  refine w_get (k := 25) (x := .int (s.1 25)) fl_Model_240 (by decide) rfl d_Model_tellMissing_62 ?_
  refine g_iconst (v := 1) d_Model_tellMissing_65 (by decide) ?_
  refine g_iadd d_Model_tellMissing_66 ?_
  refine g_iload_n d_Model_tellMissing_67 rfl ?_
  refine g_if_ne (tgt := 75) d_Model_tellMissing_68 (by decide) (fun c_68 => ?_) (fun c_68 => ?_)
  rotate_left
  · exact absurd c_68 (fun y => absurd (hb.symm.trans y) (by decide))
  refine g_iload_n d_Model_tellMissing_75 rfl ?_
  refine g_iconst (v := 1) d_Model_tellMissing_76 (by decide) ?_
  refine g_icmp_ne (tgt := 89) d_Model_tellMissing_77 (by decide) (fun c_77 => ?_) (fun c_77 => ?_)
  · exact absurd c_77 (fun y => y hb)
  refine g_aload_n d_Model_tellMissing_80 rfl ?_
  refine w_get (k := 39) fl_Model_84 (by decide) rfl d_Model_tellMissing_81 ?_
  refine g_iload_n d_Model_tellMissing_84 rfl ?_
  refine w_ald (j := 24) (q := p) (x := s.2 24 p) hmn (by decide) (by decide) (nI_hi (by omega)) (by show _ < 2200; omega) rfl d_Model_tellMissing_85 ?_
  refine g_goto (tgt := 92) d_Model_tellMissing_86 (by decide) ?_
  refine w_ast (j := 13) (q := c + 1) hmn (by decide) (by decide) (add_hi (by rw [h25]; exact nI_hi (n := c) (by omega)) i1 (by omega)) (by show _ < 9000; omega) d_Model_tellMissing_92 ?_
  refine g_aload_n d_Model_tellMissing_93 rfl ?_
  refine g_dup d_Model_tellMissing_94 rfl ?_
  refine w_get (k := 25) (x := .int (s.1 25)) fl_Model_240 (by decide) rfl d_Model_tellMissing_95 ?_
  refine g_iconst (v := 2) d_Model_tellMissing_98 (by decide) ?_
  refine g_iadd d_Model_tellMissing_99 ?_
  refine w_put (k := 25) fl_Model_240 (by decide) rfl rfl rfl rfl (Nat.le_of_ble_eq_true rfl) d_Model_tellMissing_100 ?_
  refine g_iload_n d_Model_tellMissing_103 rfl ?_
  refine g_iconst (v := 1) d_Model_tellMissing_104 (by decide) ?_
  refine g_icmp_le (tgt := 129) d_Model_tellMissing_105 (by decide) (fun c_105 => ?_) (fun c_105 => ?_)
  rotate_left
  · exact absurd c_105 (fun y => y (by rw [hb]; decide))
  refine g_iconst (v := 0) d_Model_tellMissing_129 (by decide) ?_
  refine g_istore d_Model_tellMissing_130 (by decide) rfl ?_
  refine g_iload d_Model_tellMissing_132 rfl ?_
  refine g_iconst (v := 1) d_Model_tellMissing_134 (by decide) ?_
  refine g_isub d_Model_tellMissing_135 ?_
  refine g_istore d_Model_tellMissing_136 (by decide) rfl ?_
  refine g_iload d_Model_tellMissing_138 rfl ?_
  refine g_if_lt (tgt := 168) d_Model_tellMissing_140 (by decide) (fun c_140 => ?_) (fun c_140 => ?_)
  rotate_left
  · exact absurd c_140 (fun y => y (by decide))
  rw [nI_m1 (by omega) (by omega)]
  exact g_weak (lv := [(0, .ref (m)), (1, .int (nI M)), (2, .int (nI p)), (3, .int (s.2 23 p)), (4, .int (0)), (5, .int ((0) - (1)))]) (by simp) (by simp) (kk)
theorem nI_ne {a b : Nat} (h : a ≠ b) (ha : a < 2 ^ 31) (hb : b < 2 ^ 31) : ¬ nI a = nI b := fun y => h (by have := congrArg tn y; rwa [tnI ha, tnI hb] at this)
set_option maxHeartbeats 400000 in
set_option maxRecDepth 100000 in
theorem m_W_tm_2 (hmn : m < n) {M c p : Nat} (bM : M < 2400) (h36 : s.2 36 M = nI p) (bp : p < 2200) (h25 : s.1 25 = nI c) (bc : c + 1 < 9000) {w t a : Nat} (hb : s.2 23 p = nI (2 + w)) (bw : w < 8) (h21 : s.2 21 p = nI t) (bt : t < 16) (ha : s.2 1 (8 * t + w) = nI a) (ba : a ≤ 4) (kk : GT E Y_Model_tellMissing d G0 138 [(0, .ref m), (1, .int (nI M)), (2, .int (nI p)), (3, .int (nI (2 + w))), (4, .int (nI a)), (5, .int (nI a - 1))] [] (mW E G m n (rTl s c 1 (nI w))) Q) : GT E Y_Model_tellMissing d G0 9 [(0, .ref m), (1, .int (nI (M + 1)))] [] (mW E G m n s) Q := by
  refine g_iload_n d_Model_tellMissing_9 rfl ?_
  refine g_if_le (tgt := 292) d_Model_tellMissing_10 (by decide) (fun c_10 => ?_) (fun c_10 => ?_)
  · exact absurd c_10 (fun y => absurd ((le_hi (nI_hi (n := M + 1) (by omega)) (show (0 : Int32).toInt = ((0 : Nat) : Int) by decide)).mp y) (by omega))
  refine g_iinc (v := nI (M + 1) + (-1)) d_Model_tellMissing_13 rfl (by rfl) (by decide) rfl ?_
  refine g_aload_n d_Model_tellMissing_16 rfl ?_
  refine w_get (k := 53) fl_Model_123 (by decide) rfl d_Model_tellMissing_17 ?_
  refine g_iload_n d_Model_tellMissing_20 rfl ?_
  refine w_ald (j := 36) (q := M) (x := nI p) hmn (by decide) (by decide) (by rw [nI_m1 (by omega) (by omega)]; exact nI_hi (by omega)) (by show _ < 2400; omega) h36 d_Model_tellMissing_21 ?_
  refine g_istore_n d_Model_tellMissing_22 (by decide) rfl ?_
  refine g_aload_n d_Model_tellMissing_23 rfl ?_
  refine w_get (k := 38) fl_Model_81 (by decide) rfl d_Model_tellMissing_24 ?_
  refine g_iload_n d_Model_tellMissing_27 rfl ?_
  refine w_ald (j := 23) (q := p) (x := s.2 23 p) hmn (by decide) (by decide) (nI_hi (by omega)) (by show _ < 2200; omega) rfl d_Model_tellMissing_28 ?_
  refine g_istore_n d_Model_tellMissing_29 (by decide) rfl ?_
  refine g_aload_n d_Model_tellMissing_30 rfl ?_
  refine w_get (k := 27) fl_Model_50 (by decide) rfl d_Model_tellMissing_31 ?_
  refine g_aload_n d_Model_tellMissing_34 rfl ?_
  refine w_get (k := 25) (x := .int (s.1 25)) fl_Model_240 (by decide) rfl d_Model_tellMissing_35 ?_
  refine g_iload_n d_Model_tellMissing_38 rfl ?_
  refine g_if_ne (tgt := 46) d_Model_tellMissing_39 (by decide) (fun c_39 => ?_) (fun c_39 => ?_)
  rotate_left
  · exact absurd c_39 (by rw [hb]; exact nI_ne (a := 2 + w) (b := 0) (by omega) (by omega) (by omega))
  refine g_iload_n d_Model_tellMissing_46 rfl ?_
  refine g_iconst (v := 1) d_Model_tellMissing_47 (by decide) ?_
  refine g_icmp_ne (tgt := 55) d_Model_tellMissing_48 (by decide) (fun c_48 => ?_) (fun c_48 => ?_)
  rotate_left
  · exact absurd c_48 (by rw [hb]; exact nI_ne (a := 2 + w) (b := 1) (by omega) (by omega) (by omega))
  refine g_iconst (v := 1) d_Model_tellMissing_55 (by decide) ?_
  refine w_ast (j := 13) (q := c) hmn (by decide) (by decide) (by rw [h25]; exact nI_hi (by omega)) (by show _ < 9000; omega) d_Model_tellMissing_56 ?_
  refine g_aload_n d_Model_tellMissing_57 rfl ?_
  refine w_get (k := 27) fl_Model_50 (by decide) rfl d_Model_tellMissing_58 ?_
  refine g_aload_n d_Model_tellMissing_61 rfl ?_
  refine w_get (k := 25) (x := .int (s.1 25)) fl_Model_240 (by decide) rfl d_Model_tellMissing_62 ?_
  refine g_iconst (v := 1) d_Model_tellMissing_65 (by decide) ?_
  refine g_iadd d_Model_tellMissing_66 ?_
  refine g_iload_n d_Model_tellMissing_67 rfl ?_
  refine g_if_ne (tgt := 75) d_Model_tellMissing_68 (by decide) (fun c_68 => ?_) (fun c_68 => ?_)
  rotate_left
  · exact absurd c_68 (by rw [hb]; exact nI_ne (a := 2 + w) (b := 0) (by omega) (by omega) (by omega))
  refine g_iload_n d_Model_tellMissing_75 rfl ?_
  refine g_iconst (v := 1) d_Model_tellMissing_76 (by decide) ?_
  refine g_icmp_ne (tgt := 89) d_Model_tellMissing_77 (by decide) (fun c_77 => ?_) (fun c_77 => ?_)
  rotate_left
  · exact absurd c_77 (by rw [hb]; exact nI_ne (a := 2 + w) (b := 1) (by omega) (by omega) (by omega))
  refine g_iload_n d_Model_tellMissing_89 rfl ?_
  refine g_iconst (v := 2) d_Model_tellMissing_90 (by decide) ?_
  refine g_isub d_Model_tellMissing_91 ?_
  refine w_ast (j := 13) (q := c + 1) hmn (by decide) (by decide) (add_hi (by rw [h25]; exact nI_hi (n := c) (by omega)) i1 (by omega)) (by show _ < 9000; omega) d_Model_tellMissing_92 ?_
  refine g_aload_n d_Model_tellMissing_93 rfl ?_
  refine g_dup d_Model_tellMissing_94 rfl ?_
  refine w_get (k := 25) (x := .int (s.1 25)) fl_Model_240 (by decide) rfl d_Model_tellMissing_95 ?_
  refine g_iconst (v := 2) d_Model_tellMissing_98 (by decide) ?_
  refine g_iadd d_Model_tellMissing_99 ?_
  refine w_put (k := 25) fl_Model_240 (by decide) rfl rfl rfl rfl (Nat.le_of_ble_eq_true rfl) d_Model_tellMissing_100 ?_
  refine g_iload_n d_Model_tellMissing_103 rfl ?_
  refine g_iconst (v := 1) d_Model_tellMissing_104 (by decide) ?_
  refine g_icmp_le (tgt := 129) d_Model_tellMissing_105 (by decide) (fun c_105 => ?_) (fun c_105 => ?_)
  · exact absurd c_105 (fun y => by rw [hb] at y; have := (le_hi (nI_hi (n := 2 + w) (by omega)) i1).mp y; omega)
  refine g_aload_n d_Model_tellMissing_108 rfl ?_
  refine w_get (k := 2) fl_Model_13 (by decide) rfl d_Model_tellMissing_109 ?_
  refine g_bipush (v := 8) d_Model_tellMissing_112 (by decide) ?_
  refine g_aload_n d_Model_tellMissing_114 rfl ?_
  refine w_get (k := 36) fl_Model_74 (by decide) rfl d_Model_tellMissing_115 ?_
  refine g_iload_n d_Model_tellMissing_118 rfl ?_
  refine w_ald (j := 21) (q := p) (x := nI t) hmn (by decide) (by decide) (nI_hi (by omega)) (by show _ < 2200; omega) h21 d_Model_tellMissing_119 ?_
  refine g_imul d_Model_tellMissing_120 ?_
  refine g_iload_n d_Model_tellMissing_121 rfl ?_
  refine g_iadd d_Model_tellMissing_122 ?_
  refine g_iconst (v := 2) d_Model_tellMissing_123 (by decide) ?_
  refine g_isub d_Model_tellMissing_124 ?_
  refine w_ald (j := 1) (q := 8 * t + w) (x := nI a) hmn (by decide) (by decide) (by have := sub_hi (add_hi (mul_hi i8 (nI_hi (n := t) (by omega)) (by omega)) (nI_hi (n := 2 + w) (by omega)) (by omega)) (show (2 : Int32).toInt = ((2 : Nat) : Int) by decide) (by omega); rw [show 8 * t + (2 + w) - 2 = 8 * t + w by omega] at this; rw [hb]; exact this) (by show _ < 128; omega) ha d_Model_tellMissing_125 ?_
  refine g_goto (tgt := 130) d_Model_tellMissing_126 (by decide) ?_
  refine g_istore d_Model_tellMissing_130 (by decide) rfl ?_
  refine g_iload d_Model_tellMissing_132 rfl ?_
  refine g_iconst (v := 1) d_Model_tellMissing_134 (by decide) ?_
  refine g_isub d_Model_tellMissing_135 ?_
  refine g_istore d_Model_tellMissing_136 (by decide) rfl ?_
  have e2_ : s.2 23 p - 2 = nI w := by rw [hb]; exact i_nI (by have := sub_hi (nI_hi (n := 2 + w) (by omega)) (show (2 : Int32).toInt = ((2 : Nat) : Int) by decide) (by omega); rw [show 2 + w - 2 = w by omega] at this; exact this)
  have K_ := kk
  rw [← hb] at K_
  rw [nI_m1 (by omega) (by omega), show (M + 1 - 1) = M by omega, e2_]
  exact K_
set_option maxHeartbeats 400000 in
set_option maxRecDepth 100000 in
theorem m_W_tm_s (hmn : m < n) {M p k : Nat} {q3 q4 : Int32} (bM : M < 2400) (bk : k < 4) (kk : GT E Y_Model_tellMissing d G0 138 [(0, .ref m), (1, .int (nI (M + 1))), (2, .int (nI p)), (3, .int (q3)), (4, .int (q4)), (5, .int (nI k + (-1)))] [] (mW E G m n (wA s 36 M (-2 - (8 * nI p + nI k)))) Q) : GT E Y_Model_tellMissing d G0 138 [(0, .ref m), (1, .int (nI M)), (2, .int (nI p)), (3, .int (q3)), (4, .int (q4)), (5, .int (nI k))] [] (mW E G m n s) Q := by
  refine g_iload d_Model_tellMissing_138 rfl ?_
  refine g_if_lt (tgt := 168) d_Model_tellMissing_140 (by decide) (fun c_140 => ?_) (fun c_140 => ?_)
  · exact absurd c_140 (fun y => absurd y (nI_pos (by omega)))
  refine g_aload_n d_Model_tellMissing_143 rfl ?_
  refine w_get (k := 53) fl_Model_123 (by decide) rfl d_Model_tellMissing_144 ?_
  refine g_iload_n d_Model_tellMissing_147 rfl ?_
  refine g_bipush (v := (-2)) d_Model_tellMissing_148 (by decide) ?_
  refine g_bipush (v := 8) d_Model_tellMissing_150 (by decide) ?_
  refine g_iload_n d_Model_tellMissing_152 rfl ?_
  refine g_imul d_Model_tellMissing_153 ?_
  refine g_iload d_Model_tellMissing_154 rfl ?_
  refine g_iadd d_Model_tellMissing_156 ?_
  refine g_isub d_Model_tellMissing_157 ?_
  refine w_ast (j := 36) (q := M) hmn (by decide) (by decide) (nI_hi (by omega)) (by show _ < 2400; omega) d_Model_tellMissing_158 ?_
  refine g_iinc (v := nI M + 1) d_Model_tellMissing_159 rfl (by rfl) (by decide) rfl ?_
  refine g_iinc (v := nI k + (-1)) d_Model_tellMissing_162 rfl (by rfl) (by decide) rfl ?_
  refine g_goto (tgt := 138) d_Model_tellMissing_165 (by decide) ?_
  rw [nI_1]
  exact kk
set_option maxHeartbeats 400000 in
set_option maxRecDepth 100000 in
theorem m_W_tm_t (hmn : m < n) {x p q3 q4 q5 : Int32} (h : q5 < 0) (kk : GT E Y_Model_tellMissing d G0 168 [(0, .ref m), (1, .int (x))] [] (mW E G m n s) Q) : GT E Y_Model_tellMissing d G0 138 [(0, .ref m), (1, .int x), (2, .int p), (3, .int q3), (4, .int q4), (5, .int q5)] [] (mW E G m n s) Q := by
  refine g_iload d_Model_tellMissing_138 rfl ?_
  refine g_if_lt (tgt := 168) d_Model_tellMissing_140 (by decide) (fun c_140 => ?_) (fun c_140 => ?_)
  rotate_left
  · exact absurd c_140 (fun y => y h)
  exact g_weak (lv := [(0, .ref (m)), (1, .int (x)), (2, .int (p)), (3, .int (q3)), (4, .int (q4)), (5, .int (q5))]) (by simp) (by simp) (kk)
set_option maxHeartbeats 400000 in
set_option maxRecDepth 100000 in
theorem m_W_tm_a (hmn : m < n) {x : Int32} (h : x ≤ 0) (kk : GT E Y_Model_tellMissing d G0 9 [(0, .ref m), (1, .int (x))] [] (mW E G m n s) Q) : GT E Y_Model_tellMissing d G0 168 [(0, .ref m), (1, .int (x))] [] (mW E G m n s) Q := by
  refine g_iload_n d_Model_tellMissing_168 rfl ?_
  refine g_if_le (tgt := 289) d_Model_tellMissing_169 (by decide) (fun c_169 => ?_) (fun c_169 => ?_)
  rotate_left
  · exact absurd c_169 (fun y => y h)
  refine g_goto (tgt := 9) d_Model_tellMissing_289 (by decide) ?_
  exact kk
set_option maxHeartbeats 400000 in
set_option maxRecDepth 100000 in
theorem m_W_tm_b (hmn : m < n) {M : Nat} (bM : M < 2400) (h : ¬ s.2 36 M < 0) (kk : GT E Y_Model_tellMissing d G0 9 [(0, .ref m), (1, .int (nI (M + 1)))] [] (mW E G m n s) Q) : GT E Y_Model_tellMissing d G0 168 [(0, .ref m), (1, .int (nI (M + 1)))] [] (mW E G m n s) Q := by
  refine g_iload_n d_Model_tellMissing_168 rfl ?_
  refine g_if_le (tgt := 289) d_Model_tellMissing_169 (by decide) (fun c_169 => ?_) (fun c_169 => ?_)
  · exact absurd c_169 (fun y => absurd ((le_hi (nI_hi (n := M + 1) (by omega)) (show (0 : Int32).toInt = ((0 : Nat) : Int) by decide)).mp y) (by omega))
  refine g_aload_n d_Model_tellMissing_172 rfl ?_
  refine w_get (k := 53) fl_Model_123 (by decide) rfl d_Model_tellMissing_173 ?_
  refine g_iload_n d_Model_tellMissing_176 rfl ?_
  refine g_iconst (v := 1) d_Model_tellMissing_177 (by decide) ?_
  refine g_isub d_Model_tellMissing_178 ?_
  refine w_ald (j := 36) (q := M) (x := s.2 36 (M)) hmn (by decide) (by decide) (by rw [i_nI (sub_hi (nI_hi (n := M + 1) (by omega)) i1 (by omega))]; exact nI_hi (by omega)) (by show _ < 2400; omega) rfl d_Model_tellMissing_179 ?_
  refine g_if_ge (tgt := 289) d_Model_tellMissing_180 (by decide) (fun c_180 => ?_) (fun c_180 => ?_)
  rotate_left
  · exact absurd c_180 (fun y => y (Int32.not_lt.mp h))
  refine g_goto (tgt := 9) d_Model_tellMissing_289 (by decide) ?_
  exact kk
theorem tm_code {o k : Nat} (bo : o < 2200) (bk : k < 4) : (-2 - (8 * nI o + nI k)) < 0 ∧ -(-2 - (8 * nI o + nI k)) - 2 = nI (8 * o + k) := by
  have e : 8 * nI o + nI k = nI (8 * o + k) := i_nI (add_hi (mul_hi i8 (nI_hi (by omega)) (by omega)) (nI_hi (by omega)) (by omega))
  have h := nI_hi (n := 8 * o + k) (by omega)
  have e2 : (-2 : Int32).toInt = -2 := by decide
  have e3 : (2 : Int32).toInt = 2 := by decide
  have hs : (-2 - nI (8 * o + k)).toInt = -2 - ((8 * o + k : Nat) : Int) := by
    rw [Int32.toInt_sub, e2, h, Int.bmod_def]
    omega
  rw [e]
  refine ⟨?_, ?_⟩
  · rw [i_lt, hs, show (0 : Int32).toInt = 0 by decide]
    omega
  · rw [i_eq, Int32.toInt_sub, Int32.toInt_neg, hs, e3, h, Int.bmod_def, Int.bmod_def]
    omega
theorem tm_dm {o k : Nat} (bo : o < 2200) (bk : k < 4) : nI (8 * o + k) / 8 = nI o ∧ nI (8 * o + k) - nI (8 * o + k) / 8 * 8 = nI k := by
  have h := nI_hi (n := 8 * o + k) (by omega)
  have h8 : (8 : Int32).toInt = 8 := by decide
  have hd : nI (8 * o + k) / 8 = nI o := by
    rw [i_eq, Int32.toInt_div_of_ne_right _ _ (by decide), h, h8, nI_hi (by omega)]
    have : (((8 * o + k : Nat) : Int)).tdiv 8 = (o : Int) := by
      rw [Int.tdiv_eq_ediv_of_nonneg (by omega)]
      omega
    exact this
  refine ⟨hd, ?_⟩
  rw [hd]
  have := sub_hi h (mul_hi (nI_hi (n := o) (by omega)) i8 (by omega)) (by omega)
  rw [show 8 * o + k - o * 8 = k by omega] at this
  exact i_nI this
set_option maxHeartbeats 400000 in
set_option maxRecDepth 100000 in
theorem m_W_tm_c (hmn : m < n) {M o k w : Nat} (bM : M < 2400) (h36 : s.2 36 M = -2 - (8 * nI o + nI k)) (bo : o < 2200) (bk : k < 4) (hw : s.2 23 o = nI (2 + w)) (bw : w < 8) (hz : ¬ s.2 22 (32 * o + 4 * w + k) ≤ 0) (kk : GT E Y_Model_tellMissing d G0 168 [(0, .ref m), (1, .int (nI (M + 1)))] [] (mW E G m n (wA s 36 M (s.2 22 (32 * o + 4 * w + k)))) Q) : GT E Y_Model_tellMissing d G0 168 [(0, .ref m), (1, .int (nI (M + 1)))] [] (mW E G m n s) Q := by
  refine g_iload_n d_Model_tellMissing_168 rfl ?_
  refine g_if_le (tgt := 289) d_Model_tellMissing_169 (by decide) (fun c_169 => ?_) (fun c_169 => ?_)
  · exact absurd c_169 (fun y => absurd ((le_hi (nI_hi (n := M + 1) (by omega)) (show (0 : Int32).toInt = ((0 : Nat) : Int) by decide)).mp y) (by omega))
  refine g_aload_n d_Model_tellMissing_172 rfl ?_
  refine w_get (k := 53) fl_Model_123 (by decide) rfl d_Model_tellMissing_173 ?_
  refine g_iload_n d_Model_tellMissing_176 rfl ?_
  refine g_iconst (v := 1) d_Model_tellMissing_177 (by decide) ?_
  refine g_isub d_Model_tellMissing_178 ?_
  refine w_ald (j := 36) (q := M) (x := -2 - (8 * nI o + nI k)) hmn (by decide) (by decide) (by rw [i_nI (sub_hi (nI_hi (n := M + 1) (by omega)) i1 (by omega))]; exact nI_hi (by omega)) (by show _ < 2400; omega) h36 d_Model_tellMissing_179 ?_
  refine g_if_ge (tgt := 289) d_Model_tellMissing_180 (by decide) (fun c_180 => ?_) (fun c_180 => ?_)
  · exact absurd c_180 (fun y => absurd (tm_code bo bk).1 (Int32.not_lt.mpr y))
  refine g_aload_n d_Model_tellMissing_183 rfl ?_
  refine w_get (k := 53) fl_Model_123 (by decide) rfl d_Model_tellMissing_184 ?_
  refine g_iload_n d_Model_tellMissing_187 rfl ?_
  refine g_iconst (v := 1) d_Model_tellMissing_188 (by decide) ?_
  refine g_isub d_Model_tellMissing_189 ?_
  refine w_ald (j := 36) (q := M) (x := -2 - (8 * nI o + nI k)) hmn (by decide) (by decide) (by rw [i_nI (sub_hi (nI_hi (n := M + 1) (by omega)) i1 (by omega))]; exact nI_hi (by omega)) (by show _ < 2400; omega) h36 d_Model_tellMissing_190 ?_
  refine g_ineg d_Model_tellMissing_191 ?_
  refine g_iconst (v := 2) d_Model_tellMissing_192 (by decide) ?_
  refine g_isub d_Model_tellMissing_193 ?_
  rw [(tm_code bo bk).2]
  refine g_istore d_Model_tellMissing_194 (by decide) rfl ?_
  refine g_iload d_Model_tellMissing_196 rfl ?_
  refine g_bipush (v := 8) d_Model_tellMissing_198 (by decide) ?_
  refine g_idiv d_Model_tellMissing_200 (by decide) ?_
  rw [(tm_dm bo bk).1]
  refine g_istore d_Model_tellMissing_201 (by decide) rfl ?_
  refine g_aload_n d_Model_tellMissing_203 rfl ?_
  refine w_get (k := 37) fl_Model_78 (by decide) rfl d_Model_tellMissing_204 ?_
  refine g_bipush (v := 32) d_Model_tellMissing_207 (by decide) ?_
  refine g_iload d_Model_tellMissing_209 rfl ?_
  refine g_imul d_Model_tellMissing_211 ?_
  refine g_iconst (v := 4) d_Model_tellMissing_212 (by decide) ?_
  refine g_aload_n d_Model_tellMissing_213 rfl ?_
  refine w_get (k := 38) fl_Model_81 (by decide) rfl d_Model_tellMissing_214 ?_
  refine g_iload d_Model_tellMissing_217 rfl ?_
  refine w_ald (j := 23) (q := o) (x := nI (2 + w)) hmn (by decide) (by decide) (nI_hi (by omega)) (by show _ < 2200; omega) hw d_Model_tellMissing_219 ?_
  refine g_iconst (v := 2) d_Model_tellMissing_220 (by decide) ?_
  refine g_isub d_Model_tellMissing_221 ?_
  refine g_imul d_Model_tellMissing_222 ?_
  refine g_iadd d_Model_tellMissing_223 ?_
  refine g_iload d_Model_tellMissing_224 rfl ?_
  refine g_bipush (v := 8) d_Model_tellMissing_226 (by decide) ?_
  refine g_irem d_Model_tellMissing_228 (by decide) ?_
  rw [(tm_dm bo bk).2]
  refine g_iadd d_Model_tellMissing_229 ?_
  refine w_ald (j := 22) (q := 32 * o + 4 * w + k) (x := s.2 22 (32 * o + 4 * w + k)) hmn (by decide) (by decide) (by have e_ := sub_hi (nI_hi (n := 2 + w) (by omega)) (show (2 : Int32).toInt = ((2 : Nat) : Int) by decide) (by omega); rw [show 2 + w - 2 = w by omega] at e_; exact add_hi (add_hi (mul_hi (a := 32) (m := 32) (by decide) (nI_hi (n := o) (by omega)) (by omega)) (mul_hi i4 e_ (by omega)) (by omega)) (nI_hi (n := k) (by omega)) (by omega)) (by show _ < 70400; omega) rfl d_Model_tellMissing_230 ?_
  refine g_istore d_Model_tellMissing_231 (by decide) rfl ?_
  refine g_iload d_Model_tellMissing_233 rfl ?_
  refine g_if_le (tgt := 251) d_Model_tellMissing_235 (by decide) (fun c_235 => ?_) (fun c_235 => ?_)
  · exact absurd c_235 hz
  refine g_aload_n d_Model_tellMissing_238 rfl ?_
  refine w_get (k := 53) fl_Model_123 (by decide) rfl d_Model_tellMissing_239 ?_
  refine g_iload_n d_Model_tellMissing_242 rfl ?_
  refine g_iconst (v := 1) d_Model_tellMissing_243 (by decide) ?_
  refine g_isub d_Model_tellMissing_244 ?_
  refine g_iload d_Model_tellMissing_245 rfl ?_
  refine w_ast (j := 36) (q := M) hmn (by decide) (by decide) (by rw [i_nI (sub_hi (nI_hi (n := M + 1) (by omega)) i1 (by omega))]; exact nI_hi (by omega)) (by show _ < 2400; omega) d_Model_tellMissing_247 ?_
  refine g_goto (tgt := 286) d_Model_tellMissing_248 (by decide) ?_
  refine g_goto (tgt := 168) d_Model_tellMissing_286 (by decide) ?_
  exact g_weak (lv := [(0, .ref (m)), (1, .int (nI (M + 1))), (5, .int (nI (8 * o + k))), (6, .int (nI o)), (7, .int (s.2 22 (32 * o + 4 * w + k)))]) (by simp) (by simp) (kk)
set_option maxHeartbeats 400000 in
set_option maxRecDepth 100000 in
theorem m_W_tm_d (hmn : m < n) {M o k w : Nat} (bM : M < 2400) (h36 : s.2 36 M = -2 - (8 * nI o + nI k)) (bo : o < 2200) (bk : k < 4) (hw : s.2 23 o = nI (2 + w)) (bw : w < 8) {c : Nat} (h25 : s.1 25 = nI c) (bc : c + 1 < 9000) (hz : s.2 22 (32 * o + 4 * w + k) ≤ 0) (kk : GT E Y_Model_tellMissing d G0 168 [(0, .ref m), (1, .int (nI M))] [] (mW E G m n (rTl s c 2 0)) Q) : GT E Y_Model_tellMissing d G0 168 [(0, .ref m), (1, .int (nI (M + 1)))] [] (mW E G m n s) Q := by
  refine g_iload_n d_Model_tellMissing_168 rfl ?_
  refine g_if_le (tgt := 289) d_Model_tellMissing_169 (by decide) (fun c_169 => ?_) (fun c_169 => ?_)
  · exact absurd c_169 (fun y => absurd ((le_hi (nI_hi (n := M + 1) (by omega)) (show (0 : Int32).toInt = ((0 : Nat) : Int) by decide)).mp y) (by omega))
  refine g_aload_n d_Model_tellMissing_172 rfl ?_
  refine w_get (k := 53) fl_Model_123 (by decide) rfl d_Model_tellMissing_173 ?_
  refine g_iload_n d_Model_tellMissing_176 rfl ?_
  refine g_iconst (v := 1) d_Model_tellMissing_177 (by decide) ?_
  refine g_isub d_Model_tellMissing_178 ?_
  refine w_ald (j := 36) (q := M) (x := -2 - (8 * nI o + nI k)) hmn (by decide) (by decide) (by rw [i_nI (sub_hi (nI_hi (n := M + 1) (by omega)) i1 (by omega))]; exact nI_hi (by omega)) (by show _ < 2400; omega) h36 d_Model_tellMissing_179 ?_
  refine g_if_ge (tgt := 289) d_Model_tellMissing_180 (by decide) (fun c_180 => ?_) (fun c_180 => ?_)
  · exact absurd c_180 (fun y => absurd (tm_code bo bk).1 (Int32.not_lt.mpr y))
  refine g_aload_n d_Model_tellMissing_183 rfl ?_
  refine w_get (k := 53) fl_Model_123 (by decide) rfl d_Model_tellMissing_184 ?_
  refine g_iload_n d_Model_tellMissing_187 rfl ?_
  refine g_iconst (v := 1) d_Model_tellMissing_188 (by decide) ?_
  refine g_isub d_Model_tellMissing_189 ?_
  refine w_ald (j := 36) (q := M) (x := -2 - (8 * nI o + nI k)) hmn (by decide) (by decide) (by rw [i_nI (sub_hi (nI_hi (n := M + 1) (by omega)) i1 (by omega))]; exact nI_hi (by omega)) (by show _ < 2400; omega) h36 d_Model_tellMissing_190 ?_
  refine g_ineg d_Model_tellMissing_191 ?_
  refine g_iconst (v := 2) d_Model_tellMissing_192 (by decide) ?_
  refine g_isub d_Model_tellMissing_193 ?_
  rw [(tm_code bo bk).2]
  refine g_istore d_Model_tellMissing_194 (by decide) rfl ?_
  refine g_iload d_Model_tellMissing_196 rfl ?_
  refine g_bipush (v := 8) d_Model_tellMissing_198 (by decide) ?_
  refine g_idiv d_Model_tellMissing_200 (by decide) ?_
  rw [(tm_dm bo bk).1]
  refine g_istore d_Model_tellMissing_201 (by decide) rfl ?_
  refine g_aload_n d_Model_tellMissing_203 rfl ?_
  refine w_get (k := 37) fl_Model_78 (by decide) rfl d_Model_tellMissing_204 ?_
  refine g_bipush (v := 32) d_Model_tellMissing_207 (by decide) ?_
  refine g_iload d_Model_tellMissing_209 rfl ?_
  refine g_imul d_Model_tellMissing_211 ?_
  refine g_iconst (v := 4) d_Model_tellMissing_212 (by decide) ?_
  refine g_aload_n d_Model_tellMissing_213 rfl ?_
  refine w_get (k := 38) fl_Model_81 (by decide) rfl d_Model_tellMissing_214 ?_
  refine g_iload d_Model_tellMissing_217 rfl ?_
  refine w_ald (j := 23) (q := o) (x := nI (2 + w)) hmn (by decide) (by decide) (nI_hi (by omega)) (by show _ < 2200; omega) hw d_Model_tellMissing_219 ?_
  refine g_iconst (v := 2) d_Model_tellMissing_220 (by decide) ?_
  refine g_isub d_Model_tellMissing_221 ?_
  refine g_imul d_Model_tellMissing_222 ?_
  refine g_iadd d_Model_tellMissing_223 ?_
  refine g_iload d_Model_tellMissing_224 rfl ?_
  refine g_bipush (v := 8) d_Model_tellMissing_226 (by decide) ?_
  refine g_irem d_Model_tellMissing_228 (by decide) ?_
  rw [(tm_dm bo bk).2]
  refine g_iadd d_Model_tellMissing_229 ?_
  refine w_ald (j := 22) (q := 32 * o + 4 * w + k) (x := s.2 22 (32 * o + 4 * w + k)) hmn (by decide) (by decide) (by have e_ := sub_hi (nI_hi (n := 2 + w) (by omega)) (show (2 : Int32).toInt = ((2 : Nat) : Int) by decide) (by omega); rw [show 2 + w - 2 = w by omega] at e_; exact add_hi (add_hi (mul_hi (a := 32) (m := 32) (by decide) (nI_hi (n := o) (by omega)) (by omega)) (mul_hi i4 e_ (by omega)) (by omega)) (nI_hi (n := k) (by omega)) (by omega)) (by show _ < 70400; omega) rfl d_Model_tellMissing_230 ?_
  refine g_istore d_Model_tellMissing_231 (by decide) rfl ?_
  refine g_iload d_Model_tellMissing_233 rfl ?_
  refine g_if_le (tgt := 251) d_Model_tellMissing_235 (by decide) (fun c_235 => ?_) (fun c_235 => ?_)
  rotate_left
  · exact absurd c_235 (fun y => y hz)
  refine g_aload_n d_Model_tellMissing_251 rfl ?_
  refine w_get (k := 27) fl_Model_50 (by decide) rfl d_Model_tellMissing_252 ?_
  refine g_aload_n d_Model_tellMissing_255 rfl ?_
  refine w_get (k := 25) (x := .int (s.1 25)) fl_Model_240 (by decide) rfl d_Model_tellMissing_256 ?_
  refine g_iconst (v := 2) d_Model_tellMissing_259 (by decide) ?_
  refine w_ast (j := 13) (q := c) hmn (by decide) (by decide) (by rw [h25]; exact nI_hi (by omega)) (by show _ < 9000; omega) d_Model_tellMissing_260 ?_
  refine g_aload_n d_Model_tellMissing_261 rfl ?_
  refine w_get (k := 27) fl_Model_50 (by decide) rfl d_Model_tellMissing_262 ?_
  refine g_aload_n d_Model_tellMissing_265 rfl ?_
  refine w_get (k := 25) (x := .int (s.1 25)) fl_Model_240 (by decide) rfl d_Model_tellMissing_266 ?_
  refine g_iconst (v := 1) d_Model_tellMissing_269 (by decide) ?_
  refine g_iadd d_Model_tellMissing_270 ?_
  refine g_iconst (v := 0) d_Model_tellMissing_271 (by decide) ?_
  refine w_ast (j := 13) (q := c + 1) hmn (by decide) (by decide) (add_hi (by rw [h25]; exact nI_hi (n := c) (by omega)) i1 (by omega)) (by show _ < 9000; omega) d_Model_tellMissing_272 ?_
  refine g_aload_n d_Model_tellMissing_273 rfl ?_
  refine g_dup d_Model_tellMissing_274 rfl ?_
  refine w_get (k := 25) (x := .int (s.1 25)) fl_Model_240 (by decide) rfl d_Model_tellMissing_275 ?_
  refine g_iconst (v := 2) d_Model_tellMissing_278 (by decide) ?_
  refine g_iadd d_Model_tellMissing_279 ?_
  refine w_put (k := 25) fl_Model_240 (by decide) rfl rfl rfl rfl (Nat.le_of_ble_eq_true rfl) d_Model_tellMissing_280 ?_
  refine g_iinc (v := nI (M + 1) + (-1)) d_Model_tellMissing_283 rfl (by rfl) (by decide) rfl ?_
  refine g_goto (tgt := 168) d_Model_tellMissing_286 (by decide) ?_
  rw [nI_m1 (by omega) (by omega)]
  exact g_weak (lv := [(0, .ref (m)), (1, .int (nI M)), (5, .int (nI (8 * o + k))), (6, .int (nI o)), (7, .int (s.2 22 (32 * o + 4 * w + k)))]) (by simp) (by simp) (kk)
end MT
