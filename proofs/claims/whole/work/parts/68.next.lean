/-! The reference: answersNext -/
theorem d_Model_answersNext_0 : decode Y_Model_answersNext.2.1 0 = .ok (.aload_n 0, 1) := by decide +kernel
theorem d_Model_answersNext_1 : decode Y_Model_answersNext.2.1 1 = .ok (.getfield 108, 3) := by decide +kernel
theorem d_Model_answersNext_4 : decode Y_Model_answersNext.2.1 4 = .ok (.iload_n 1, 1) := by decide +kernel
theorem d_Model_answersNext_5 : decode Y_Model_answersNext.2.1 5 = .ok (.iaload, 1) := by decide +kernel
theorem d_Model_answersNext_6 : decode Y_Model_answersNext.2.1 6 = .ok (.istore_n 2, 1) := by decide +kernel
theorem d_Model_answersNext_7 : decode Y_Model_answersNext.2.1 7 = .ok (.aload_n 0, 1) := by decide +kernel
theorem d_Model_answersNext_8 : decode Y_Model_answersNext.2.1 8 = .ok (.getfield 111, 3) := by decide +kernel
theorem d_Model_answersNext_11 : decode Y_Model_answersNext.2.1 11 = .ok (.iload_n 1, 1) := by decide +kernel
theorem d_Model_answersNext_12 : decode Y_Model_answersNext.2.1 12 = .ok (.iaload, 1) := by decide +kernel
theorem d_Model_answersNext_13 : decode Y_Model_answersNext.2.1 13 = .ok (.istore_n 3, 1) := by decide +kernel
theorem d_Model_answersNext_14 : decode Y_Model_answersNext.2.1 14 = .ok (.aload_n 0, 1) := by decide +kernel
theorem d_Model_answersNext_15 : decode Y_Model_answersNext.2.1 15 = .ok (.getfield 120, 3) := by decide +kernel
theorem d_Model_answersNext_18 : decode Y_Model_answersNext.2.1 18 = .ok (.iload_n 1, 1) := by decide +kernel
theorem d_Model_answersNext_19 : decode Y_Model_answersNext.2.1 19 = .ok (.iaload, 1) := by decide +kernel
theorem d_Model_answersNext_20 : decode Y_Model_answersNext.2.1 20 = .ok (.istore 4, 2) := by decide +kernel
theorem d_Model_answersNext_22 : decode Y_Model_answersNext.2.1 22 = .ok (.aload_n 0, 1) := by decide +kernel
theorem d_Model_answersNext_23 : decode Y_Model_answersNext.2.1 23 = .ok (.getfield 117, 3) := by decide +kernel
theorem d_Model_answersNext_26 : decode Y_Model_answersNext.2.1 26 = .ok (.iload_n 1, 1) := by decide +kernel
theorem d_Model_answersNext_27 : decode Y_Model_answersNext.2.1 27 = .ok (.dup2, 1) := by decide +kernel
theorem d_Model_answersNext_28 : decode Y_Model_answersNext.2.1 28 = .ok (.iaload, 1) := by decide +kernel
theorem d_Model_answersNext_29 : decode Y_Model_answersNext.2.1 29 = .ok (.iconst 1, 1) := by decide +kernel
theorem d_Model_answersNext_30 : decode Y_Model_answersNext.2.1 30 = .ok (.iadd, 1) := by decide +kernel
theorem d_Model_answersNext_31 : decode Y_Model_answersNext.2.1 31 = .ok (.iastore, 1) := by decide +kernel
theorem d_Model_answersNext_32 : decode Y_Model_answersNext.2.1 32 = .ok (.aload_n 0, 1) := by decide +kernel
theorem d_Model_answersNext_33 : decode Y_Model_answersNext.2.1 33 = .ok (.getfield 117, 3) := by decide +kernel
theorem d_Model_answersNext_36 : decode Y_Model_answersNext.2.1 36 = .ok (.iload_n 1, 1) := by decide +kernel
theorem d_Model_answersNext_37 : decode Y_Model_answersNext.2.1 37 = .ok (.iaload, 1) := by decide +kernel
theorem d_Model_answersNext_38 : decode Y_Model_answersNext.2.1 38 = .ok (.istore 5, 2) := by decide +kernel
theorem d_Model_answersNext_40 : decode Y_Model_answersNext.2.1 40 = .ok (.aload_n 0, 1) := by decide +kernel
theorem d_Model_answersNext_41 : decode Y_Model_answersNext.2.1 41 = .ok (.getfield 56, 3) := by decide +kernel
theorem d_Model_answersNext_44 : decode Y_Model_answersNext.2.1 44 = .ok (.aload_n 0, 1) := by decide +kernel
theorem d_Model_answersNext_45 : decode Y_Model_answersNext.2.1 45 = .ok (.getfield 114, 3) := by decide +kernel
theorem d_Model_answersNext_48 : decode Y_Model_answersNext.2.1 48 = .ok (.iload_n 1, 1) := by decide +kernel
theorem d_Model_answersNext_49 : decode Y_Model_answersNext.2.1 49 = .ok (.iaload, 1) := by decide +kernel
theorem d_Model_answersNext_50 : decode Y_Model_answersNext.2.1 50 = .ok (.iaload, 1) := by decide +kernel
theorem d_Model_answersNext_51 : decode Y_Model_answersNext.2.1 51 = .ok (.istore 6, 2) := by decide +kernel
theorem d_Model_answersNext_53 : decode Y_Model_answersNext.2.1 53 = .ok (.iload 5, 2) := by decide +kernel
theorem d_Model_answersNext_55 : decode Y_Model_answersNext.2.1 55 = .ok (.iload 6, 2) := by decide +kernel
theorem d_Model_answersNext_57 : decode Y_Model_answersNext.2.1 57 = .ok (.if_icmp .ne 13, 3) := by decide +kernel
theorem d_Model_answersNext_60 : decode Y_Model_answersNext.2.1 60 = .ok (.aload_n 0, 1) := by decide +kernel
theorem d_Model_answersNext_61 : decode Y_Model_answersNext.2.1 61 = .ok (.getfield 81, 3) := by decide +kernel
theorem d_Model_answersNext_64 : decode Y_Model_answersNext.2.1 64 = .ok (.iload 4, 2) := by decide +kernel
theorem d_Model_answersNext_66 : decode Y_Model_answersNext.2.1 66 = .ok (.iconst 0, 1) := by decide +kernel
theorem d_Model_answersNext_67 : decode Y_Model_answersNext.2.1 67 = .ok (.iastore, 1) := by decide +kernel
theorem d_Model_answersNext_68 : decode Y_Model_answersNext.2.1 68 = .ok (.iconst 0, 1) := by decide +kernel
theorem d_Model_answersNext_69 : decode Y_Model_answersNext.2.1 69 = .ok (.ireturn, 1) := by decide +kernel
theorem d_Model_answersNext_70 : decode Y_Model_answersNext.2.1 70 = .ok (.aload_n 0, 1) := by decide +kernel
theorem d_Model_answersNext_71 : decode Y_Model_answersNext.2.1 71 = .ok (.iload_n 2, 1) := by decide +kernel
theorem d_Model_answersNext_72 : decode Y_Model_answersNext.2.1 72 = .ok (.iload_n 3, 1) := by decide +kernel
theorem d_Model_answersNext_73 : decode Y_Model_answersNext.2.1 73 = .ok (.iadd, 1) := by decide +kernel
theorem d_Model_answersNext_74 : decode Y_Model_answersNext.2.1 74 = .ok (.putfield 192, 3) := by decide +kernel
theorem d_Model_answersNext_77 : decode Y_Model_answersNext.2.1 77 = .ok (.aload_n 0, 1) := by decide +kernel
theorem d_Model_answersNext_78 : decode Y_Model_answersNext.2.1 78 = .ok (.getfield 7, 3) := by decide +kernel
theorem d_Model_answersNext_81 : decode Y_Model_answersNext.2.1 81 = .ok (.aload_n 0, 1) := by decide +kernel
theorem d_Model_answersNext_82 : decode Y_Model_answersNext.2.1 82 = .ok (.getfield 74, 3) := by decide +kernel
theorem d_Model_answersNext_85 : decode Y_Model_answersNext.2.1 85 = .ok (.iload 4, 2) := by decide +kernel
theorem d_Model_answersNext_87 : decode Y_Model_answersNext.2.1 87 = .ok (.iaload, 1) := by decide +kernel
theorem d_Model_answersNext_88 : decode Y_Model_answersNext.2.1 88 = .ok (.iaload, 1) := by decide +kernel
theorem d_Model_answersNext_89 : decode Y_Model_answersNext.2.1 89 = .ok (.iconst 1, 1) := by decide +kernel
theorem d_Model_answersNext_90 : decode Y_Model_answersNext.2.1 90 = .ok (.if_icmp .le 7, 3) := by decide +kernel
theorem d_Model_answersNext_93 : decode Y_Model_answersNext.2.1 93 = .ok (.iconst 1, 1) := by decide +kernel
theorem d_Model_answersNext_94 : decode Y_Model_answersNext.2.1 94 = .ok (.goto 4, 3) := by decide +kernel
theorem d_Model_answersNext_97 : decode Y_Model_answersNext.2.1 97 = .ok (.iconst 0, 1) := by decide +kernel
theorem d_Model_answersNext_98 : decode Y_Model_answersNext.2.1 98 = .ok (.istore 7, 2) := by decide +kernel
theorem d_Model_answersNext_100 : decode Y_Model_answersNext.2.1 100 = .ok (.iload 7, 2) := by decide +kernel
theorem d_Model_answersNext_102 : decode Y_Model_answersNext.2.1 102 = .ok (.ifCond .eq 28, 3) := by decide +kernel
theorem d_Model_answersNext_105 : decode Y_Model_answersNext.2.1 105 = .ok (.aload_n 0, 1) := by decide +kernel
theorem d_Model_answersNext_106 : decode Y_Model_answersNext.2.1 106 = .ok (.getfield 81, 3) := by decide +kernel
theorem d_Model_answersNext_109 : decode Y_Model_answersNext.2.1 109 = .ok (.iload 4, 2) := by decide +kernel
theorem d_Model_answersNext_111 : decode Y_Model_answersNext.2.1 111 = .ok (.iconst 2, 1) := by decide +kernel
theorem d_Model_answersNext_112 : decode Y_Model_answersNext.2.1 112 = .ok (.iload 5, 2) := by decide +kernel
theorem d_Model_answersNext_114 : decode Y_Model_answersNext.2.1 114 = .ok (.iadd, 1) := by decide +kernel
theorem d_Model_answersNext_115 : decode Y_Model_answersNext.2.1 115 = .ok (.iastore, 1) := by decide +kernel
theorem d_Model_answersNext_116 : decode Y_Model_answersNext.2.1 116 = .ok (.aload_n 0, 1) := by decide +kernel
theorem d_Model_answersNext_117 : decode Y_Model_answersNext.2.1 117 = .ok (.iload_n 2, 1) := by decide +kernel
theorem d_Model_answersNext_118 : decode Y_Model_answersNext.2.1 118 = .ok (.iload_n 3, 1) := by decide +kernel
theorem d_Model_answersNext_119 : decode Y_Model_answersNext.2.1 119 = .ok (.iload 4, 2) := by decide +kernel
theorem d_Model_answersNext_121 : decode Y_Model_answersNext.2.1 121 = .ok (.iconst 1, 1) := by decide +kernel
theorem d_Model_answersNext_122 : decode Y_Model_answersNext.2.1 122 = .ok (.iload 5, 2) := by decide +kernel
theorem d_Model_answersNext_124 : decode Y_Model_answersNext.2.1 124 = .ok (.iconst 1, 1) := by decide +kernel
theorem d_Model_answersNext_125 : decode Y_Model_answersNext.2.1 125 = .ok (.invokevirtual 264, 3) := by decide +kernel
theorem d_Model_answersNext_128 : decode Y_Model_answersNext.2.1 128 = .ok (.iconst 1, 1) := by decide +kernel
theorem d_Model_answersNext_129 : decode Y_Model_answersNext.2.1 129 = .ok (.ireturn, 1) := by decide +kernel
theorem d_Model_answersNext_130 : decode Y_Model_answersNext.2.1 130 = .ok (.iload 5, 2) := by decide +kernel
theorem d_Model_answersNext_132 : decode Y_Model_answersNext.2.1 132 = .ok (.iload 6, 2) := by decide +kernel
theorem d_Model_answersNext_134 : decode Y_Model_answersNext.2.1 134 = .ok (.iconst 1, 1) := by decide +kernel
theorem d_Model_answersNext_135 : decode Y_Model_answersNext.2.1 135 = .ok (.isub, 1) := by decide +kernel
theorem d_Model_answersNext_136 : decode Y_Model_answersNext.2.1 136 = .ok (.if_icmp .ge 7, 3) := by decide +kernel
theorem d_Model_answersNext_139 : decode Y_Model_answersNext.2.1 139 = .ok (.iconst 1, 1) := by decide +kernel
theorem d_Model_answersNext_140 : decode Y_Model_answersNext.2.1 140 = .ok (.goto 4, 3) := by decide +kernel
theorem d_Model_answersNext_143 : decode Y_Model_answersNext.2.1 143 = .ok (.iconst 0, 1) := by decide +kernel
theorem d_Model_answersNext_144 : decode Y_Model_answersNext.2.1 144 = .ok (.istore 8, 2) := by decide +kernel
theorem d_Model_answersNext_146 : decode Y_Model_answersNext.2.1 146 = .ok (.aload_n 0, 1) := by decide +kernel
theorem d_Model_answersNext_147 : decode Y_Model_answersNext.2.1 147 = .ok (.getfield 84, 3) := by decide +kernel
theorem d_Model_answersNext_150 : decode Y_Model_answersNext.2.1 150 = .ok (.iload 4, 2) := by decide +kernel
theorem d_Model_answersNext_152 : decode Y_Model_answersNext.2.1 152 = .ok (.iload 8, 2) := by decide +kernel
theorem d_Model_answersNext_154 : decode Y_Model_answersNext.2.1 154 = .ok (.ifCond .eq 40, 3) := by decide +kernel
theorem d_Model_answersNext_157 : decode Y_Model_answersNext.2.1 157 = .ok (.aload_n 0, 1) := by decide +kernel
theorem d_Model_answersNext_158 : decode Y_Model_answersNext.2.1 158 = .ok (.iload_n 2, 1) := by decide +kernel
theorem d_Model_answersNext_159 : decode Y_Model_answersNext.2.1 159 = .ok (.iload_n 3, 1) := by decide +kernel
theorem d_Model_answersNext_160 : decode Y_Model_answersNext.2.1 160 = .ok (.iload 4, 2) := by decide +kernel
theorem d_Model_answersNext_162 : decode Y_Model_answersNext.2.1 162 = .ok (.iload 5, 2) := by decide +kernel
theorem d_Model_answersNext_164 : decode Y_Model_answersNext.2.1 164 = .ok (.ifCond .ne 7, 3) := by decide +kernel
theorem d_Model_answersNext_167 : decode Y_Model_answersNext.2.1 167 = .ok (.iconst 0, 1) := by decide +kernel
theorem d_Model_answersNext_168 : decode Y_Model_answersNext.2.1 168 = .ok (.goto 10, 3) := by decide +kernel
theorem d_Model_answersNext_171 : decode Y_Model_answersNext.2.1 171 = .ok (.aload_n 0, 1) := by decide +kernel
theorem d_Model_answersNext_172 : decode Y_Model_answersNext.2.1 172 = .ok (.getfield 84, 3) := by decide +kernel
theorem d_Model_answersNext_175 : decode Y_Model_answersNext.2.1 175 = .ok (.iload 4, 2) := by decide +kernel
theorem d_Model_answersNext_177 : decode Y_Model_answersNext.2.1 177 = .ok (.iaload, 1) := by decide +kernel
theorem d_Model_answersNext_178 : decode Y_Model_answersNext.2.1 178 = .ok (.iload 5, 2) := by decide +kernel
theorem d_Model_answersNext_180 : decode Y_Model_answersNext.2.1 180 = .ok (.ifCond .ne 7, 3) := by decide +kernel
theorem d_Model_answersNext_183 : decode Y_Model_answersNext.2.1 183 = .ok (.iconst 1, 1) := by decide +kernel
theorem d_Model_answersNext_184 : decode Y_Model_answersNext.2.1 184 = .ok (.goto 4, 3) := by decide +kernel
theorem d_Model_answersNext_187 : decode Y_Model_answersNext.2.1 187 = .ok (.iconst 0, 1) := by decide +kernel
theorem d_Model_answersNext_188 : decode Y_Model_answersNext.2.1 188 = .ok (.invokevirtual 217, 3) := by decide +kernel
theorem d_Model_answersNext_191 : decode Y_Model_answersNext.2.1 191 = .ok (.goto 11, 3) := by decide +kernel
theorem d_Model_answersNext_194 : decode Y_Model_answersNext.2.1 194 = .ok (.aload_n 0, 1) := by decide +kernel
theorem d_Model_answersNext_195 : decode Y_Model_answersNext.2.1 195 = .ok (.iload_n 2, 1) := by decide +kernel
theorem d_Model_answersNext_196 : decode Y_Model_answersNext.2.1 196 = .ok (.iload_n 3, 1) := by decide +kernel
theorem d_Model_answersNext_197 : decode Y_Model_answersNext.2.1 197 = .ok (.iload 4, 2) := by decide +kernel
theorem d_Model_answersNext_199 : decode Y_Model_answersNext.2.1 199 = .ok (.invokevirtual 268, 3) := by decide +kernel
theorem d_Model_answersNext_202 : decode Y_Model_answersNext.2.1 202 = .ok (.iastore, 1) := by decide +kernel
theorem d_Model_answersNext_203 : decode Y_Model_answersNext.2.1 203 = .ok (.aload_n 0, 1) := by decide +kernel
theorem d_Model_answersNext_204 : decode Y_Model_answersNext.2.1 204 = .ok (.getfield 81, 3) := by decide +kernel
theorem d_Model_answersNext_207 : decode Y_Model_answersNext.2.1 207 = .ok (.iload 4, 2) := by decide +kernel
theorem d_Model_answersNext_209 : decode Y_Model_answersNext.2.1 209 = .ok (.iconst 1, 1) := by decide +kernel
theorem d_Model_answersNext_210 : decode Y_Model_answersNext.2.1 210 = .ok (.iastore, 1) := by decide +kernel
theorem d_Model_answersNext_211 : decode Y_Model_answersNext.2.1 211 = .ok (.aload_n 0, 1) := by decide +kernel
theorem d_Model_answersNext_212 : decode Y_Model_answersNext.2.1 212 = .ok (.iload_n 2, 1) := by decide +kernel
theorem d_Model_answersNext_213 : decode Y_Model_answersNext.2.1 213 = .ok (.iload_n 3, 1) := by decide +kernel
theorem d_Model_answersNext_214 : decode Y_Model_answersNext.2.1 214 = .ok (.iload 4, 2) := by decide +kernel
theorem d_Model_answersNext_216 : decode Y_Model_answersNext.2.1 216 = .ok (.iconst 0, 1) := by decide +kernel
theorem d_Model_answersNext_217 : decode Y_Model_answersNext.2.1 217 = .ok (.aload_n 0, 1) := by decide +kernel
theorem d_Model_answersNext_218 : decode Y_Model_answersNext.2.1 218 = .ok (.getfield 84, 3) := by decide +kernel
theorem d_Model_answersNext_221 : decode Y_Model_answersNext.2.1 221 = .ok (.iload 4, 2) := by decide +kernel
theorem d_Model_answersNext_223 : decode Y_Model_answersNext.2.1 223 = .ok (.iaload, 1) := by decide +kernel
theorem d_Model_answersNext_224 : decode Y_Model_answersNext.2.1 224 = .ok (.iload 8, 2) := by decide +kernel
theorem d_Model_answersNext_226 : decode Y_Model_answersNext.2.1 226 = .ok (.invokevirtual 264, 3) := by decide +kernel
theorem d_Model_answersNext_229 : decode Y_Model_answersNext.2.1 229 = .ok (.iconst 1, 1) := by decide +kernel
theorem d_Model_answersNext_230 : decode Y_Model_answersNext.2.1 230 = .ok (.ireturn, 1) := by decide +kernel
section MS
variable {E : gE} {d : Nat} {G G0 : gS} {m n : Nat} {s : mS} {Q : gO → gS → Prop}
set_option maxHeartbeats 400000 in
set_option maxRecDepth 100000 in
theorem m_W_next_z (hmn : m < n) {dd : Int32} {D A K p q : Nat} (hD : dd.toInt = (D : Int)) (bD : D < 520) (h31 : (s.2 31 D).toInt = (A : Int)) (h32 : (s.2 32 D).toInt = (K : Int)) (h35 : (s.2 35 D).toInt = (p : Int)) (bp : p < 2200) (h33 : (s.2 33 D).toInt = (q : Int)) (bq : q < 1001) (he : s.2 34 D + 1 = s.2 15 q) : GM E Y_Model_answersNext (d + 1) [.ref m, .int dd] (mW E G m n s) (rIs (some (.int 0)) (mW E G m n (wA (wA s 34 D (s.2 34 D + 1)) 23 p 0))) := by
  refine g_entry (by decide) (by simp [Value.category]) (Nat.le_of_ble_eq_true rfl) ?_
  refine g_aload_n d_Model_answersNext_0 rfl ?_
  refine w_get (k := 48) fl_Model_108 (by decide) rfl d_Model_answersNext_1 ?_
  refine g_iload_n d_Model_answersNext_4 rfl ?_
  refine w_ald (j := 31) (q := D) (x := s.2 31 (D)) hmn (by decide) (by decide) hD (by show _ < 520; omega) rfl d_Model_answersNext_5 ?_
  refine g_istore_n d_Model_answersNext_6 (by decide) rfl ?_
  refine g_aload_n d_Model_answersNext_7 rfl ?_
  refine w_get (k := 49) fl_Model_111 (by decide) rfl d_Model_answersNext_8 ?_
  refine g_iload_n d_Model_answersNext_11 rfl ?_
  refine w_ald (j := 32) (q := D) (x := s.2 32 (D)) hmn (by decide) (by decide) hD (by show _ < 520; omega) rfl d_Model_answersNext_12 ?_
  refine g_istore_n d_Model_answersNext_13 (by decide) rfl ?_
  refine g_aload_n d_Model_answersNext_14 rfl ?_
  refine w_get (k := 52) fl_Model_120 (by decide) rfl d_Model_answersNext_15 ?_
  refine g_iload_n d_Model_answersNext_18 rfl ?_
  refine w_ald (j := 35) (q := D) (x := s.2 35 (D)) hmn (by decide) (by decide) hD (by show _ < 520; omega) rfl d_Model_answersNext_19 ?_
  refine g_istore d_Model_answersNext_20 (by decide) rfl ?_
  refine g_aload_n d_Model_answersNext_22 rfl ?_
  refine w_get (k := 51) fl_Model_117 (by decide) rfl d_Model_answersNext_23 ?_
  refine g_iload_n d_Model_answersNext_26 rfl ?_
  refine g_dup2 d_Model_answersNext_27 rfl rfl ?_
  refine w_ald (j := 34) (q := D) (x := s.2 34 (D)) hmn (by decide) (by decide) hD (by show _ < 520; omega) rfl d_Model_answersNext_28 ?_
  refine g_iconst (v := 1) d_Model_answersNext_29 (by decide) ?_
  refine g_iadd d_Model_answersNext_30 ?_
  refine w_ast (j := 34) (q := D) hmn (by decide) (by decide) hD (by show _ < 520; omega) d_Model_answersNext_31 ?_
  refine g_aload_n d_Model_answersNext_32 rfl ?_
  refine w_get (k := 51) fl_Model_117 (by decide) rfl d_Model_answersNext_33 ?_
  refine g_iload_n d_Model_answersNext_36 rfl ?_
  refine w_ald (j := 34) (q := D) (x := s.2 34 D + 1) hmn (by decide) (by decide) hD (by show _ < 520; omega) up_at d_Model_answersNext_37 ?_
  refine g_istore d_Model_answersNext_38 (by decide) rfl ?_
  refine g_aload_n d_Model_answersNext_40 rfl ?_
  refine w_get (k := 29) fl_Model_56 (by decide) rfl d_Model_answersNext_41 ?_
  refine g_aload_n d_Model_answersNext_44 rfl ?_
  refine w_get (k := 50) fl_Model_114 (by decide) rfl d_Model_answersNext_45 ?_
  refine g_iload_n d_Model_answersNext_48 rfl ?_
  refine w_ald (j := 33) (q := D) (x := s.2 33 D) hmn (by decide) (by decide) hD (by show _ < 520; omega) rfl d_Model_answersNext_49 ?_
  refine w_ald (j := 15) (q := q) (x := s.2 15 q) hmn (by decide) (by decide) h33 (by show _ < 1001; omega) rfl d_Model_answersNext_50 ?_
  refine g_istore d_Model_answersNext_51 (by decide) rfl ?_
  refine g_iload d_Model_answersNext_53 rfl ?_
  refine g_iload d_Model_answersNext_55 rfl ?_
  refine g_icmp_ne (tgt := 70) d_Model_answersNext_57 (by decide) (fun c_57 => ?_) (fun c_57 => ?_)
  · exact absurd c_57 (fun y => y he)
  refine g_aload_n d_Model_answersNext_60 rfl ?_
  refine w_get (k := 38) fl_Model_81 (by decide) rfl d_Model_answersNext_61 ?_
  refine g_iload d_Model_answersNext_64 rfl ?_
  refine g_iconst (v := 0) d_Model_answersNext_66 (by decide) ?_
  refine w_ast (j := 23) (q := p) hmn (by decide) (by decide) h35 (by show _ < 2200; omega) d_Model_answersNext_67 ?_
  refine g_iconst (v := 0) d_Model_answersNext_68 (by decide) ?_
  refine g_zret rfl rfl d_Model_answersNext_69 ?_
  exact ⟨rfl, rfl⟩
set_option maxHeartbeats 400000 in
set_option maxRecDepth 100000 in
theorem m_W_next_m (hmn : m < n) {dd : Int32} {D A K p q : Nat} (hD : dd.toInt = (D : Int)) (bD : D < 520) (h31 : (s.2 31 D).toInt = (A : Int)) (h32 : (s.2 32 D).toInt = (K : Int)) (h35 : (s.2 35 D).toInt = (p : Int)) (bp : p < 2200) (h33 : (s.2 33 D).toInt = (q : Int)) (bq : q < 1001) (hT : ¬ s.2 21 p < 0 ∧ tn (s.2 21 p) < 16) (he : ¬ s.2 34 D + 1 = s.2 15 q) (hm : ¬ s.2 0 (tn (s.2 21 p)) ≤ 1) (kk : GT E Y_Model_answersNext (d + 1) (mW E G m n s) 125 [(0, .ref m), (1, .int dd), (2, .int (s.2 31 D)), (3, .int (s.2 32 D)), (4, .int (s.2 35 D)), (5, .int (s.2 34 D + 1)), (6, .int (s.2 15 q)), (7, .int (1))] [.int 1, .int (s.2 34 D + 1), .int 1, .int (s.2 35 D), .int (s.2 32 D), .int (s.2 31 D), .ref m] (mW E G m n (wA (wF (wA s 34 D (s.2 34 D + 1)) 46 (s.2 31 D + s.2 32 D)) 23 p (2 + (s.2 34 D + 1)))) Q) : GM E Y_Model_answersNext (d + 1) [.ref m, .int dd] (mW E G m n s) Q := by
  refine g_entry (by decide) (by simp [Value.category]) (Nat.le_of_ble_eq_true rfl) ?_
  refine g_aload_n d_Model_answersNext_0 rfl ?_
  refine w_get (k := 48) fl_Model_108 (by decide) rfl d_Model_answersNext_1 ?_
  refine g_iload_n d_Model_answersNext_4 rfl ?_
  refine w_ald (j := 31) (q := D) (x := s.2 31 (D)) hmn (by decide) (by decide) hD (by show _ < 520; omega) rfl d_Model_answersNext_5 ?_
  refine g_istore_n d_Model_answersNext_6 (by decide) rfl ?_
  refine g_aload_n d_Model_answersNext_7 rfl ?_
  refine w_get (k := 49) fl_Model_111 (by decide) rfl d_Model_answersNext_8 ?_
  refine g_iload_n d_Model_answersNext_11 rfl ?_
  refine w_ald (j := 32) (q := D) (x := s.2 32 (D)) hmn (by decide) (by decide) hD (by show _ < 520; omega) rfl d_Model_answersNext_12 ?_
  refine g_istore_n d_Model_answersNext_13 (by decide) rfl ?_
  refine g_aload_n d_Model_answersNext_14 rfl ?_
  refine w_get (k := 52) fl_Model_120 (by decide) rfl d_Model_answersNext_15 ?_
  refine g_iload_n d_Model_answersNext_18 rfl ?_
  refine w_ald (j := 35) (q := D) (x := s.2 35 (D)) hmn (by decide) (by decide) hD (by show _ < 520; omega) rfl d_Model_answersNext_19 ?_
  refine g_istore d_Model_answersNext_20 (by decide) rfl ?_
  refine g_aload_n d_Model_answersNext_22 rfl ?_
  refine w_get (k := 51) fl_Model_117 (by decide) rfl d_Model_answersNext_23 ?_
  refine g_iload_n d_Model_answersNext_26 rfl ?_
  refine g_dup2 d_Model_answersNext_27 rfl rfl ?_
  refine w_ald (j := 34) (q := D) (x := s.2 34 (D)) hmn (by decide) (by decide) hD (by show _ < 520; omega) rfl d_Model_answersNext_28 ?_
  refine g_iconst (v := 1) d_Model_answersNext_29 (by decide) ?_
  refine g_iadd d_Model_answersNext_30 ?_
  refine w_ast (j := 34) (q := D) hmn (by decide) (by decide) hD (by show _ < 520; omega) d_Model_answersNext_31 ?_
  refine g_aload_n d_Model_answersNext_32 rfl ?_
  refine w_get (k := 51) fl_Model_117 (by decide) rfl d_Model_answersNext_33 ?_
  refine g_iload_n d_Model_answersNext_36 rfl ?_
  refine w_ald (j := 34) (q := D) (x := s.2 34 D + 1) hmn (by decide) (by decide) hD (by show _ < 520; omega) up_at d_Model_answersNext_37 ?_
  refine g_istore d_Model_answersNext_38 (by decide) rfl ?_
  refine g_aload_n d_Model_answersNext_40 rfl ?_
  refine w_get (k := 29) fl_Model_56 (by decide) rfl d_Model_answersNext_41 ?_
  refine g_aload_n d_Model_answersNext_44 rfl ?_
  refine w_get (k := 50) fl_Model_114 (by decide) rfl d_Model_answersNext_45 ?_
  refine g_iload_n d_Model_answersNext_48 rfl ?_
  refine w_ald (j := 33) (q := D) (x := s.2 33 D) hmn (by decide) (by decide) hD (by show _ < 520; omega) rfl d_Model_answersNext_49 ?_
  refine w_ald (j := 15) (q := q) (x := s.2 15 q) hmn (by decide) (by decide) h33 (by show _ < 1001; omega) rfl d_Model_answersNext_50 ?_
  refine g_istore d_Model_answersNext_51 (by decide) rfl ?_
  refine g_iload d_Model_answersNext_53 rfl ?_
  refine g_iload d_Model_answersNext_55 rfl ?_
  refine g_icmp_ne (tgt := 70) d_Model_answersNext_57 (by decide) (fun c_57 => ?_) (fun c_57 => ?_)
  rotate_left
  · exact absurd c_57 he
  refine g_aload_n d_Model_answersNext_70 rfl ?_
  refine g_iload_n d_Model_answersNext_71 rfl ?_
  refine g_iload_n d_Model_answersNext_72 rfl ?_
  refine g_iadd d_Model_answersNext_73 ?_
  refine w_put (k := 46) fl_Model_192 (by decide) rfl rfl rfl rfl (Nat.le_of_ble_eq_true rfl) d_Model_answersNext_74 ?_
  refine g_aload_n d_Model_answersNext_77 rfl ?_
  refine w_get (k := 1) fl_Model_7 (by decide) rfl d_Model_answersNext_78 ?_
  refine g_aload_n d_Model_answersNext_81 rfl ?_
  refine w_get (k := 36) fl_Model_74 (by decide) rfl d_Model_answersNext_82 ?_
  refine g_iload d_Model_answersNext_85 rfl ?_
  refine w_ald (j := 21) (q := p) (x := s.2 21 p) hmn (by decide) (by decide) h35 (by show _ < 2200; omega) rfl d_Model_answersNext_87 ?_
  refine w_ald (j := 0) (q := tn (s.2 21 p)) (x := s.2 0 (tn (s.2 21 p))) hmn (by decide) (by decide) (tn_hi hT.1) (by show _ < 16; exact hT.2) rfl d_Model_answersNext_88 ?_
  refine g_iconst (v := 1) d_Model_answersNext_89 (by decide) ?_
  refine g_icmp_le (tgt := 97) d_Model_answersNext_90 (by decide) (fun c_90 => ?_) (fun c_90 => ?_)
  · exact absurd c_90 hm
  refine g_iconst (v := 1) d_Model_answersNext_93 (by decide) ?_
  refine g_goto (tgt := 98) d_Model_answersNext_94 (by decide) ?_
  refine g_istore d_Model_answersNext_98 (by decide) rfl ?_
  refine g_iload d_Model_answersNext_100 rfl ?_
  refine g_if_eq (tgt := 130) d_Model_answersNext_102 (by decide) (fun c_102 => absurd c_102 (by decide)) (fun c_102 => ?_)
  refine g_aload_n d_Model_answersNext_105 rfl ?_
  refine w_get (k := 38) fl_Model_81 (by decide) rfl d_Model_answersNext_106 ?_
  refine g_iload d_Model_answersNext_109 rfl ?_
  refine g_iconst (v := 2) d_Model_answersNext_111 (by decide) ?_
  refine g_iload d_Model_answersNext_112 rfl ?_
  refine g_iadd d_Model_answersNext_114 ?_
  refine w_ast (j := 23) (q := p) hmn (by decide) (by decide) h35 (by show _ < 2200; omega) d_Model_answersNext_115 ?_
  refine g_aload_n d_Model_answersNext_116 rfl ?_
  refine g_iload_n d_Model_answersNext_117 rfl ?_
  refine g_iload_n d_Model_answersNext_118 rfl ?_
  refine g_iload d_Model_answersNext_119 rfl ?_
  refine g_iconst (v := 1) d_Model_answersNext_121 (by decide) ?_
  refine g_iload d_Model_answersNext_122 rfl ?_
  refine g_iconst (v := 1) d_Model_answersNext_124 (by decide) ?_
  exact kk
set_option maxHeartbeats 400000 in
set_option maxRecDepth 100000 in
theorem m_W_next_a (hmn : m < n) {dd : Int32} {D A K p q : Nat} (hD : dd.toInt = (D : Int)) (bD : D < 520) (h31 : (s.2 31 D).toInt = (A : Int)) (h32 : (s.2 32 D).toInt = (K : Int)) (h35 : (s.2 35 D).toInt = (p : Int)) (bp : p < 2200) (h33 : (s.2 33 D).toInt = (q : Int)) (bq : q < 1001) (hT : ¬ s.2 21 p < 0 ∧ tn (s.2 21 p) < 16) (hR : ∀ R, R < A + K → ¬ s.2 27 R < 0 ∧ tn (s.2 27 R) ≤ 26) (hW : ∀ R, R < A + K → ∀ j, j < tn (s.2 27 R) → ¬ s.2 29 (26 * R + j) < 0 ∧ tn (s.2 29 (26 * R + j)) < 700) (bA : A + K ≤ 41640) (he : ¬ s.2 34 D + 1 = s.2 15 q) (hm : s.2 0 (tn (s.2 21 p)) ≤ 1) (hi : ¬ s.2 15 q - 1 ≤ s.2 34 D + 1) (hz : s.2 34 D + 1 = 0) (kk : GT E Y_Model_answersNext (d + 2) (mW E G m n s) 226 [(0, .ref m), (1, .int dd), (2, .int (s.2 31 D)), (3, .int (s.2 32 D)), (4, .int (s.2 35 D)), (5, .int (s.2 34 D + 1)), (6, .int (s.2 15 q)), (7, .int (0)), (8, .int (1))] [.int 1, .int (rAb (wF (wA s 34 D (s.2 34 D + 1)) 46 (s.2 31 D + s.2 32 D)) A (s.2 35 D) (0) 1 K).1, .int 0, .int (s.2 35 D), .int (s.2 32 D), .int (s.2 31 D), .ref m] (mW E G m n (wA (wA (wA (wF (wA s 34 D (s.2 34 D + 1)) 46 (s.2 31 D + s.2 32 D)) 39 0 (rAb (wF (wA s 34 D (s.2 34 D + 1)) 46 (s.2 31 D + s.2 32 D)) A (s.2 35 D) (0) 1 K).2) 24 p (rAb (wF (wA s 34 D (s.2 34 D + 1)) 46 (s.2 31 D + s.2 32 D)) A (s.2 35 D) (0) 1 K).1) 23 p 1)) Q) : GM E Y_Model_answersNext (d + 2) [.ref m, .int dd] (mW E G m n s) Q := by
  refine g_entry (by decide) (by simp [Value.category]) (Nat.le_of_ble_eq_true rfl) ?_
  refine g_aload_n d_Model_answersNext_0 rfl ?_
  refine w_get (k := 48) fl_Model_108 (by decide) rfl d_Model_answersNext_1 ?_
  refine g_iload_n d_Model_answersNext_4 rfl ?_
  refine w_ald (j := 31) (q := D) (x := s.2 31 (D)) hmn (by decide) (by decide) hD (by show _ < 520; omega) rfl d_Model_answersNext_5 ?_
  refine g_istore_n d_Model_answersNext_6 (by decide) rfl ?_
  refine g_aload_n d_Model_answersNext_7 rfl ?_
  refine w_get (k := 49) fl_Model_111 (by decide) rfl d_Model_answersNext_8 ?_
  refine g_iload_n d_Model_answersNext_11 rfl ?_
  refine w_ald (j := 32) (q := D) (x := s.2 32 (D)) hmn (by decide) (by decide) hD (by show _ < 520; omega) rfl d_Model_answersNext_12 ?_
  refine g_istore_n d_Model_answersNext_13 (by decide) rfl ?_
  refine g_aload_n d_Model_answersNext_14 rfl ?_
  refine w_get (k := 52) fl_Model_120 (by decide) rfl d_Model_answersNext_15 ?_
  refine g_iload_n d_Model_answersNext_18 rfl ?_
  refine w_ald (j := 35) (q := D) (x := s.2 35 (D)) hmn (by decide) (by decide) hD (by show _ < 520; omega) rfl d_Model_answersNext_19 ?_
  refine g_istore d_Model_answersNext_20 (by decide) rfl ?_
  refine g_aload_n d_Model_answersNext_22 rfl ?_
  refine w_get (k := 51) fl_Model_117 (by decide) rfl d_Model_answersNext_23 ?_
  refine g_iload_n d_Model_answersNext_26 rfl ?_
  refine g_dup2 d_Model_answersNext_27 rfl rfl ?_
  refine w_ald (j := 34) (q := D) (x := s.2 34 (D)) hmn (by decide) (by decide) hD (by show _ < 520; omega) rfl d_Model_answersNext_28 ?_
  refine g_iconst (v := 1) d_Model_answersNext_29 (by decide) ?_
  refine g_iadd d_Model_answersNext_30 ?_
  refine w_ast (j := 34) (q := D) hmn (by decide) (by decide) hD (by show _ < 520; omega) d_Model_answersNext_31 ?_
  refine g_aload_n d_Model_answersNext_32 rfl ?_
  refine w_get (k := 51) fl_Model_117 (by decide) rfl d_Model_answersNext_33 ?_
  refine g_iload_n d_Model_answersNext_36 rfl ?_
  refine w_ald (j := 34) (q := D) (x := s.2 34 D + 1) hmn (by decide) (by decide) hD (by show _ < 520; omega) up_at d_Model_answersNext_37 ?_
  refine g_istore d_Model_answersNext_38 (by decide) rfl ?_
  refine g_aload_n d_Model_answersNext_40 rfl ?_
  refine w_get (k := 29) fl_Model_56 (by decide) rfl d_Model_answersNext_41 ?_
  refine g_aload_n d_Model_answersNext_44 rfl ?_
  refine w_get (k := 50) fl_Model_114 (by decide) rfl d_Model_answersNext_45 ?_
  refine g_iload_n d_Model_answersNext_48 rfl ?_
  refine w_ald (j := 33) (q := D) (x := s.2 33 D) hmn (by decide) (by decide) hD (by show _ < 520; omega) rfl d_Model_answersNext_49 ?_
  refine w_ald (j := 15) (q := q) (x := s.2 15 q) hmn (by decide) (by decide) h33 (by show _ < 1001; omega) rfl d_Model_answersNext_50 ?_
  refine g_istore d_Model_answersNext_51 (by decide) rfl ?_
  refine g_iload d_Model_answersNext_53 rfl ?_
  refine g_iload d_Model_answersNext_55 rfl ?_
  refine g_icmp_ne (tgt := 70) d_Model_answersNext_57 (by decide) (fun c_57 => ?_) (fun c_57 => ?_)
  rotate_left
  · exact absurd c_57 he
  refine g_aload_n d_Model_answersNext_70 rfl ?_
  refine g_iload_n d_Model_answersNext_71 rfl ?_
  refine g_iload_n d_Model_answersNext_72 rfl ?_
  refine g_iadd d_Model_answersNext_73 ?_
  refine w_put (k := 46) fl_Model_192 (by decide) rfl rfl rfl rfl (Nat.le_of_ble_eq_true rfl) d_Model_answersNext_74 ?_
  refine g_aload_n d_Model_answersNext_77 rfl ?_
  refine w_get (k := 1) fl_Model_7 (by decide) rfl d_Model_answersNext_78 ?_
  refine g_aload_n d_Model_answersNext_81 rfl ?_
  refine w_get (k := 36) fl_Model_74 (by decide) rfl d_Model_answersNext_82 ?_
  refine g_iload d_Model_answersNext_85 rfl ?_
  refine w_ald (j := 21) (q := p) (x := s.2 21 p) hmn (by decide) (by decide) h35 (by show _ < 2200; omega) rfl d_Model_answersNext_87 ?_
  refine w_ald (j := 0) (q := tn (s.2 21 p)) (x := s.2 0 (tn (s.2 21 p))) hmn (by decide) (by decide) (tn_hi hT.1) (by show _ < 16; exact hT.2) rfl d_Model_answersNext_88 ?_
  refine g_iconst (v := 1) d_Model_answersNext_89 (by decide) ?_
  refine g_icmp_le (tgt := 97) d_Model_answersNext_90 (by decide) (fun c_90 => ?_) (fun c_90 => ?_)
  rotate_left
  · exact absurd c_90 (fun y => y hm)
  refine g_iconst (v := 0) d_Model_answersNext_97 (by decide) ?_
  refine g_istore d_Model_answersNext_98 (by decide) rfl ?_
  refine g_iload d_Model_answersNext_100 rfl ?_
  refine g_if_eq (tgt := 130) d_Model_answersNext_102 (by decide) (fun c_102 => ?_) (fun c_102 => absurd c_102 (by decide))
  refine g_iload d_Model_answersNext_130 rfl ?_
  refine g_iload d_Model_answersNext_132 rfl ?_
  refine g_iconst (v := 1) d_Model_answersNext_134 (by decide) ?_
  refine g_isub d_Model_answersNext_135 ?_
  refine g_icmp_ge (tgt := 143) d_Model_answersNext_136 (by decide) (fun c_136 => ?_) (fun c_136 => ?_)
  · exact absurd c_136 hi
  refine g_iconst (v := 1) d_Model_answersNext_139 (by decide) ?_
  refine g_goto (tgt := 144) d_Model_answersNext_140 (by decide) ?_
  refine g_istore d_Model_answersNext_144 (by decide) rfl ?_
  refine g_aload_n d_Model_answersNext_146 rfl ?_
  refine w_get (k := 39) fl_Model_84 (by decide) rfl d_Model_answersNext_147 ?_
  refine g_iload d_Model_answersNext_150 rfl ?_
  refine g_iload d_Model_answersNext_152 rfl ?_
  refine g_if_eq (tgt := 194) d_Model_answersNext_154 (by decide) (fun c_154 => absurd c_154 (by decide)) (fun c_154 => ?_)
  refine g_aload_n d_Model_answersNext_157 rfl ?_
  refine g_iload_n d_Model_answersNext_158 rfl ?_
  refine g_iload_n d_Model_answersNext_159 rfl ?_
  refine g_iload d_Model_answersNext_160 rfl ?_
  refine g_iload d_Model_answersNext_162 rfl ?_
  refine g_if_ne (tgt := 171) d_Model_answersNext_164 (by decide) (fun c_164 => ?_) (fun c_164 => ?_)
  · exact absurd c_164 (fun y => y hz)
  refine g_iconst (v := 0) d_Model_answersNext_167 (by decide) ?_
  refine g_goto (tgt := 178) d_Model_answersNext_168 (by decide) ?_
  refine g_iload d_Model_answersNext_178 rfl ?_
  refine g_if_ne (tgt := 187) d_Model_answersNext_180 (by decide) (fun c_180 => ?_) (fun c_180 => ?_)
  · exact absurd c_180 (fun y => y hz)
  refine g_iconst (v := 1) d_Model_answersNext_183 (by decide) ?_
  refine g_goto (tgt := 188) d_Model_answersNext_184 (by decide) ?_
  refine c_Vr (as := [.int (s.2 31 (D)), .int (s.2 32 (D)), .int (s.2 35 (D)), .int (0), .int (1)]) kv_Model_above ml_Model_217 rfl mw_f (m_W_above (s := (wF (wA s 34 D (s.2 34 D + 1)) 46 (s.2 31 D + s.2 32 D))) hmn (f := s.2 31 D) (q := s.2 32 D) (p := s.2 35 D) (y := 0) (al := 1) (A := A) (K := K) h31 h32 hR hW bA) rfl (Nat.le_of_ble_eq_true rfl) rfl d_Model_answersNext_188 rfl ?_
  refine g_goto (tgt := 202) d_Model_answersNext_191 (by decide) ?_
  refine w_ast (j := 24) (q := p) hmn (by decide) (by decide) h35 (by show _ < 2200; omega) d_Model_answersNext_202 ?_
  refine g_aload_n d_Model_answersNext_203 rfl ?_
  refine w_get (k := 38) fl_Model_81 (by decide) rfl d_Model_answersNext_204 ?_
  refine g_iload d_Model_answersNext_207 rfl ?_
  refine g_iconst (v := 1) d_Model_answersNext_209 (by decide) ?_
  refine w_ast (j := 23) (q := p) hmn (by decide) (by decide) h35 (by show _ < 2200; omega) d_Model_answersNext_210 ?_
  refine g_aload_n d_Model_answersNext_211 rfl ?_
  refine g_iload_n d_Model_answersNext_212 rfl ?_
  refine g_iload_n d_Model_answersNext_213 rfl ?_
  refine g_iload d_Model_answersNext_214 rfl ?_
  refine g_iconst (v := 0) d_Model_answersNext_216 (by decide) ?_
  refine g_aload_n d_Model_answersNext_217 rfl ?_
  refine w_get (k := 39) fl_Model_84 (by decide) rfl d_Model_answersNext_218 ?_
  refine g_iload d_Model_answersNext_221 rfl ?_
  refine w_ald (j := 24) (q := p) (x := (rAb (wF (wA s 34 D (s.2 34 D + 1)) 46 (s.2 31 D + s.2 32 D)) A (s.2 35 D) (0) 1 K).1) hmn (by decide) (by decide) h35 (by show _ < 2200; omega) up_at d_Model_answersNext_223 ?_
  refine g_iload d_Model_answersNext_224 rfl ?_
  exact kk
set_option maxHeartbeats 400000 in
set_option maxRecDepth 100000 in
theorem m_W_next_b (hmn : m < n) {dd : Int32} {D A K p q : Nat} (hD : dd.toInt = (D : Int)) (bD : D < 520) (h31 : (s.2 31 D).toInt = (A : Int)) (h32 : (s.2 32 D).toInt = (K : Int)) (h35 : (s.2 35 D).toInt = (p : Int)) (bp : p < 2200) (h33 : (s.2 33 D).toInt = (q : Int)) (bq : q < 1001) (hT : ¬ s.2 21 p < 0 ∧ tn (s.2 21 p) < 16) (hR : ∀ R, R < A + K → ¬ s.2 27 R < 0 ∧ tn (s.2 27 R) ≤ 26) (hW : ∀ R, R < A + K → ∀ j, j < tn (s.2 27 R) → ¬ s.2 29 (26 * R + j) < 0 ∧ tn (s.2 29 (26 * R + j)) < 700) (bA : A + K ≤ 41640) (he : ¬ s.2 34 D + 1 = s.2 15 q) (hm : s.2 0 (tn (s.2 21 p)) ≤ 1) (hi : ¬ s.2 15 q - 1 ≤ s.2 34 D + 1) (hz : ¬ s.2 34 D + 1 = 0) (kk : GT E Y_Model_answersNext (d + 2) (mW E G m n s) 226 [(0, .ref m), (1, .int dd), (2, .int (s.2 31 D)), (3, .int (s.2 32 D)), (4, .int (s.2 35 D)), (5, .int (s.2 34 D + 1)), (6, .int (s.2 15 q)), (7, .int (0)), (8, .int (1))] [.int 1, .int (rAb (wF (wA s 34 D (s.2 34 D + 1)) 46 (s.2 31 D + s.2 32 D)) A (s.2 35 D) (s.2 24 p) 0 K).1, .int 0, .int (s.2 35 D), .int (s.2 32 D), .int (s.2 31 D), .ref m] (mW E G m n (wA (wA (wA (wF (wA s 34 D (s.2 34 D + 1)) 46 (s.2 31 D + s.2 32 D)) 39 0 (rAb (wF (wA s 34 D (s.2 34 D + 1)) 46 (s.2 31 D + s.2 32 D)) A (s.2 35 D) (s.2 24 p) 0 K).2) 24 p (rAb (wF (wA s 34 D (s.2 34 D + 1)) 46 (s.2 31 D + s.2 32 D)) A (s.2 35 D) (s.2 24 p) 0 K).1) 23 p 1)) Q) : GM E Y_Model_answersNext (d + 2) [.ref m, .int dd] (mW E G m n s) Q := by
  refine g_entry (by decide) (by simp [Value.category]) (Nat.le_of_ble_eq_true rfl) ?_
  refine g_aload_n d_Model_answersNext_0 rfl ?_
  refine w_get (k := 48) fl_Model_108 (by decide) rfl d_Model_answersNext_1 ?_
  refine g_iload_n d_Model_answersNext_4 rfl ?_
  refine w_ald (j := 31) (q := D) (x := s.2 31 (D)) hmn (by decide) (by decide) hD (by show _ < 520; omega) rfl d_Model_answersNext_5 ?_
  refine g_istore_n d_Model_answersNext_6 (by decide) rfl ?_
  refine g_aload_n d_Model_answersNext_7 rfl ?_
  refine w_get (k := 49) fl_Model_111 (by decide) rfl d_Model_answersNext_8 ?_
  refine g_iload_n d_Model_answersNext_11 rfl ?_
  refine w_ald (j := 32) (q := D) (x := s.2 32 (D)) hmn (by decide) (by decide) hD (by show _ < 520; omega) rfl d_Model_answersNext_12 ?_
  refine g_istore_n d_Model_answersNext_13 (by decide) rfl ?_
  refine g_aload_n d_Model_answersNext_14 rfl ?_
  refine w_get (k := 52) fl_Model_120 (by decide) rfl d_Model_answersNext_15 ?_
  refine g_iload_n d_Model_answersNext_18 rfl ?_
  refine w_ald (j := 35) (q := D) (x := s.2 35 (D)) hmn (by decide) (by decide) hD (by show _ < 520; omega) rfl d_Model_answersNext_19 ?_
  refine g_istore d_Model_answersNext_20 (by decide) rfl ?_
  refine g_aload_n d_Model_answersNext_22 rfl ?_
  refine w_get (k := 51) fl_Model_117 (by decide) rfl d_Model_answersNext_23 ?_
  refine g_iload_n d_Model_answersNext_26 rfl ?_
  refine g_dup2 d_Model_answersNext_27 rfl rfl ?_
  refine w_ald (j := 34) (q := D) (x := s.2 34 (D)) hmn (by decide) (by decide) hD (by show _ < 520; omega) rfl d_Model_answersNext_28 ?_
  refine g_iconst (v := 1) d_Model_answersNext_29 (by decide) ?_
  refine g_iadd d_Model_answersNext_30 ?_
  refine w_ast (j := 34) (q := D) hmn (by decide) (by decide) hD (by show _ < 520; omega) d_Model_answersNext_31 ?_
  refine g_aload_n d_Model_answersNext_32 rfl ?_
  refine w_get (k := 51) fl_Model_117 (by decide) rfl d_Model_answersNext_33 ?_
  refine g_iload_n d_Model_answersNext_36 rfl ?_
  refine w_ald (j := 34) (q := D) (x := s.2 34 D + 1) hmn (by decide) (by decide) hD (by show _ < 520; omega) up_at d_Model_answersNext_37 ?_
  refine g_istore d_Model_answersNext_38 (by decide) rfl ?_
  refine g_aload_n d_Model_answersNext_40 rfl ?_
  refine w_get (k := 29) fl_Model_56 (by decide) rfl d_Model_answersNext_41 ?_
  refine g_aload_n d_Model_answersNext_44 rfl ?_
  refine w_get (k := 50) fl_Model_114 (by decide) rfl d_Model_answersNext_45 ?_
  refine g_iload_n d_Model_answersNext_48 rfl ?_
  refine w_ald (j := 33) (q := D) (x := s.2 33 D) hmn (by decide) (by decide) hD (by show _ < 520; omega) rfl d_Model_answersNext_49 ?_
  refine w_ald (j := 15) (q := q) (x := s.2 15 q) hmn (by decide) (by decide) h33 (by show _ < 1001; omega) rfl d_Model_answersNext_50 ?_
  refine g_istore d_Model_answersNext_51 (by decide) rfl ?_
  refine g_iload d_Model_answersNext_53 rfl ?_
  refine g_iload d_Model_answersNext_55 rfl ?_
  refine g_icmp_ne (tgt := 70) d_Model_answersNext_57 (by decide) (fun c_57 => ?_) (fun c_57 => ?_)
  rotate_left
  · exact absurd c_57 he
  refine g_aload_n d_Model_answersNext_70 rfl ?_
  refine g_iload_n d_Model_answersNext_71 rfl ?_
  refine g_iload_n d_Model_answersNext_72 rfl ?_
  refine g_iadd d_Model_answersNext_73 ?_
  refine w_put (k := 46) fl_Model_192 (by decide) rfl rfl rfl rfl (Nat.le_of_ble_eq_true rfl) d_Model_answersNext_74 ?_
  refine g_aload_n d_Model_answersNext_77 rfl ?_
  refine w_get (k := 1) fl_Model_7 (by decide) rfl d_Model_answersNext_78 ?_
  refine g_aload_n d_Model_answersNext_81 rfl ?_
  refine w_get (k := 36) fl_Model_74 (by decide) rfl d_Model_answersNext_82 ?_
  refine g_iload d_Model_answersNext_85 rfl ?_
  refine w_ald (j := 21) (q := p) (x := s.2 21 p) hmn (by decide) (by decide) h35 (by show _ < 2200; omega) rfl d_Model_answersNext_87 ?_
  refine w_ald (j := 0) (q := tn (s.2 21 p)) (x := s.2 0 (tn (s.2 21 p))) hmn (by decide) (by decide) (tn_hi hT.1) (by show _ < 16; exact hT.2) rfl d_Model_answersNext_88 ?_
  refine g_iconst (v := 1) d_Model_answersNext_89 (by decide) ?_
  refine g_icmp_le (tgt := 97) d_Model_answersNext_90 (by decide) (fun c_90 => ?_) (fun c_90 => ?_)
  rotate_left
  · exact absurd c_90 (fun y => y hm)
  refine g_iconst (v := 0) d_Model_answersNext_97 (by decide) ?_
  refine g_istore d_Model_answersNext_98 (by decide) rfl ?_
  refine g_iload d_Model_answersNext_100 rfl ?_
  refine g_if_eq (tgt := 130) d_Model_answersNext_102 (by decide) (fun c_102 => ?_) (fun c_102 => absurd c_102 (by decide))
  refine g_iload d_Model_answersNext_130 rfl ?_
  refine g_iload d_Model_answersNext_132 rfl ?_
  refine g_iconst (v := 1) d_Model_answersNext_134 (by decide) ?_
  refine g_isub d_Model_answersNext_135 ?_
  refine g_icmp_ge (tgt := 143) d_Model_answersNext_136 (by decide) (fun c_136 => ?_) (fun c_136 => ?_)
  · exact absurd c_136 hi
  refine g_iconst (v := 1) d_Model_answersNext_139 (by decide) ?_
  refine g_goto (tgt := 144) d_Model_answersNext_140 (by decide) ?_
  refine g_istore d_Model_answersNext_144 (by decide) rfl ?_
  refine g_aload_n d_Model_answersNext_146 rfl ?_
  refine w_get (k := 39) fl_Model_84 (by decide) rfl d_Model_answersNext_147 ?_
  refine g_iload d_Model_answersNext_150 rfl ?_
  refine g_iload d_Model_answersNext_152 rfl ?_
  refine g_if_eq (tgt := 194) d_Model_answersNext_154 (by decide) (fun c_154 => absurd c_154 (by decide)) (fun c_154 => ?_)
  refine g_aload_n d_Model_answersNext_157 rfl ?_
  refine g_iload_n d_Model_answersNext_158 rfl ?_
  refine g_iload_n d_Model_answersNext_159 rfl ?_
  refine g_iload d_Model_answersNext_160 rfl ?_
  refine g_iload d_Model_answersNext_162 rfl ?_
  refine g_if_ne (tgt := 171) d_Model_answersNext_164 (by decide) (fun c_164 => ?_) (fun c_164 => ?_)
  rotate_left
  · exact absurd c_164 hz
  refine g_aload_n d_Model_answersNext_171 rfl ?_
  refine w_get (k := 39) fl_Model_84 (by decide) rfl d_Model_answersNext_172 ?_
  refine g_iload d_Model_answersNext_175 rfl ?_
  refine w_ald (j := 24) (q := p) (x := s.2 24 p) hmn (by decide) (by decide) h35 (by show _ < 2200; omega) rfl d_Model_answersNext_177 ?_
  refine g_iload d_Model_answersNext_178 rfl ?_
  refine g_if_ne (tgt := 187) d_Model_answersNext_180 (by decide) (fun c_180 => ?_) (fun c_180 => ?_)
  rotate_left
  · exact absurd c_180 hz
  refine g_iconst (v := 0) d_Model_answersNext_187 (by decide) ?_
  refine c_Vr (as := [.int (s.2 31 (D)), .int (s.2 32 (D)), .int (s.2 35 (D)), .int (s.2 24 p), .int (0)]) kv_Model_above ml_Model_217 rfl mw_f (m_W_above (s := (wF (wA s 34 D (s.2 34 D + 1)) 46 (s.2 31 D + s.2 32 D))) hmn (f := s.2 31 D) (q := s.2 32 D) (p := s.2 35 D) (y := s.2 24 p) (al := 0) (A := A) (K := K) h31 h32 hR hW bA) rfl (Nat.le_of_ble_eq_true rfl) rfl d_Model_answersNext_188 rfl ?_
  refine g_goto (tgt := 202) d_Model_answersNext_191 (by decide) ?_
  refine w_ast (j := 24) (q := p) hmn (by decide) (by decide) h35 (by show _ < 2200; omega) d_Model_answersNext_202 ?_
  refine g_aload_n d_Model_answersNext_203 rfl ?_
  refine w_get (k := 38) fl_Model_81 (by decide) rfl d_Model_answersNext_204 ?_
  refine g_iload d_Model_answersNext_207 rfl ?_
  refine g_iconst (v := 1) d_Model_answersNext_209 (by decide) ?_
  refine w_ast (j := 23) (q := p) hmn (by decide) (by decide) h35 (by show _ < 2200; omega) d_Model_answersNext_210 ?_
  refine g_aload_n d_Model_answersNext_211 rfl ?_
  refine g_iload_n d_Model_answersNext_212 rfl ?_
  refine g_iload_n d_Model_answersNext_213 rfl ?_
  refine g_iload d_Model_answersNext_214 rfl ?_
  refine g_iconst (v := 0) d_Model_answersNext_216 (by decide) ?_
  refine g_aload_n d_Model_answersNext_217 rfl ?_
  refine w_get (k := 39) fl_Model_84 (by decide) rfl d_Model_answersNext_218 ?_
  refine g_iload d_Model_answersNext_221 rfl ?_
  refine w_ald (j := 24) (q := p) (x := (rAb (wF (wA s 34 D (s.2 34 D + 1)) 46 (s.2 31 D + s.2 32 D)) A (s.2 35 D) (s.2 24 p) 0 K).1) hmn (by decide) (by decide) h35 (by show _ < 2200; omega) up_at d_Model_answersNext_223 ?_
  refine g_iload d_Model_answersNext_224 rfl ?_
  exact kk
set_option maxHeartbeats 400000 in
set_option maxRecDepth 100000 in
theorem m_W_next_o (hmn : m < n) {dd : Int32} {D A K p q : Nat} (hD : dd.toInt = (D : Int)) (bD : D < 520) (h31 : (s.2 31 D).toInt = (A : Int)) (h32 : (s.2 32 D).toInt = (K : Int)) (h35 : (s.2 35 D).toInt = (p : Int)) (bp : p < 2200) (h33 : (s.2 33 D).toInt = (q : Int)) (bq : q < 1001) (hT : ¬ s.2 21 p < 0 ∧ tn (s.2 21 p) < 16) (hR : ∀ R, R < A + K → ¬ s.2 27 R < 0 ∧ tn (s.2 27 R) ≤ 26) (hW : ∀ R, R < A + K → ∀ j, j < tn (s.2 27 R) → ¬ s.2 29 (26 * R + j) < 0 ∧ tn (s.2 29 (26 * R + j)) < 700) (bA : A + K ≤ 41640) (he : ¬ s.2 34 D + 1 = s.2 15 q) (hm : s.2 0 (tn (s.2 21 p)) ≤ 1) (hi : s.2 15 q - 1 ≤ s.2 34 D + 1) (kk : GT E Y_Model_answersNext (d + 3) (mW E G m n s) 226 [(0, .ref m), (1, .int dd), (2, .int (s.2 31 D)), (3, .int (s.2 32 D)), (4, .int (s.2 35 D)), (5, .int (s.2 34 D + 1)), (6, .int (s.2 15 q)), (7, .int (0)), (8, .int (0))] [.int 0, .int (nI (rOth (wF (wA s 34 D (s.2 34 D + 1)) 46 (s.2 31 D + s.2 32 D)) A K (s.2 35 D) (K + 1) 0)), .int 0, .int (s.2 35 D), .int (s.2 32 D), .int (s.2 31 D), .ref m] (mW E G m n (wA (wA (wF (wA s 34 D (s.2 34 D + 1)) 46 (s.2 31 D + s.2 32 D)) 24 p (nI (rOth (wF (wA s 34 D (s.2 34 D + 1)) 46 (s.2 31 D + s.2 32 D)) A K (s.2 35 D) (K + 1) 0))) 23 p 1)) Q) : GM E Y_Model_answersNext (d + 3) [.ref m, .int dd] (mW E G m n s) Q := by
  refine g_entry (by decide) (by simp [Value.category]) (Nat.le_of_ble_eq_true rfl) ?_
  refine g_aload_n d_Model_answersNext_0 rfl ?_
  refine w_get (k := 48) fl_Model_108 (by decide) rfl d_Model_answersNext_1 ?_
  refine g_iload_n d_Model_answersNext_4 rfl ?_
  refine w_ald (j := 31) (q := D) (x := s.2 31 (D)) hmn (by decide) (by decide) hD (by show _ < 520; omega) rfl d_Model_answersNext_5 ?_
  refine g_istore_n d_Model_answersNext_6 (by decide) rfl ?_
  refine g_aload_n d_Model_answersNext_7 rfl ?_
  refine w_get (k := 49) fl_Model_111 (by decide) rfl d_Model_answersNext_8 ?_
  refine g_iload_n d_Model_answersNext_11 rfl ?_
  refine w_ald (j := 32) (q := D) (x := s.2 32 (D)) hmn (by decide) (by decide) hD (by show _ < 520; omega) rfl d_Model_answersNext_12 ?_
  refine g_istore_n d_Model_answersNext_13 (by decide) rfl ?_
  refine g_aload_n d_Model_answersNext_14 rfl ?_
  refine w_get (k := 52) fl_Model_120 (by decide) rfl d_Model_answersNext_15 ?_
  refine g_iload_n d_Model_answersNext_18 rfl ?_
  refine w_ald (j := 35) (q := D) (x := s.2 35 (D)) hmn (by decide) (by decide) hD (by show _ < 520; omega) rfl d_Model_answersNext_19 ?_
  refine g_istore d_Model_answersNext_20 (by decide) rfl ?_
  refine g_aload_n d_Model_answersNext_22 rfl ?_
  refine w_get (k := 51) fl_Model_117 (by decide) rfl d_Model_answersNext_23 ?_
  refine g_iload_n d_Model_answersNext_26 rfl ?_
  refine g_dup2 d_Model_answersNext_27 rfl rfl ?_
  refine w_ald (j := 34) (q := D) (x := s.2 34 (D)) hmn (by decide) (by decide) hD (by show _ < 520; omega) rfl d_Model_answersNext_28 ?_
  refine g_iconst (v := 1) d_Model_answersNext_29 (by decide) ?_
  refine g_iadd d_Model_answersNext_30 ?_
  refine w_ast (j := 34) (q := D) hmn (by decide) (by decide) hD (by show _ < 520; omega) d_Model_answersNext_31 ?_
  refine g_aload_n d_Model_answersNext_32 rfl ?_
  refine w_get (k := 51) fl_Model_117 (by decide) rfl d_Model_answersNext_33 ?_
  refine g_iload_n d_Model_answersNext_36 rfl ?_
  refine w_ald (j := 34) (q := D) (x := s.2 34 D + 1) hmn (by decide) (by decide) hD (by show _ < 520; omega) up_at d_Model_answersNext_37 ?_
  refine g_istore d_Model_answersNext_38 (by decide) rfl ?_
  refine g_aload_n d_Model_answersNext_40 rfl ?_
  refine w_get (k := 29) fl_Model_56 (by decide) rfl d_Model_answersNext_41 ?_
  refine g_aload_n d_Model_answersNext_44 rfl ?_
  refine w_get (k := 50) fl_Model_114 (by decide) rfl d_Model_answersNext_45 ?_
  refine g_iload_n d_Model_answersNext_48 rfl ?_
  refine w_ald (j := 33) (q := D) (x := s.2 33 D) hmn (by decide) (by decide) hD (by show _ < 520; omega) rfl d_Model_answersNext_49 ?_
  refine w_ald (j := 15) (q := q) (x := s.2 15 q) hmn (by decide) (by decide) h33 (by show _ < 1001; omega) rfl d_Model_answersNext_50 ?_
  refine g_istore d_Model_answersNext_51 (by decide) rfl ?_
  refine g_iload d_Model_answersNext_53 rfl ?_
  refine g_iload d_Model_answersNext_55 rfl ?_
  refine g_icmp_ne (tgt := 70) d_Model_answersNext_57 (by decide) (fun c_57 => ?_) (fun c_57 => ?_)
  rotate_left
  · exact absurd c_57 he
  refine g_aload_n d_Model_answersNext_70 rfl ?_
  refine g_iload_n d_Model_answersNext_71 rfl ?_
  refine g_iload_n d_Model_answersNext_72 rfl ?_
  refine g_iadd d_Model_answersNext_73 ?_
  refine w_put (k := 46) fl_Model_192 (by decide) rfl rfl rfl rfl (Nat.le_of_ble_eq_true rfl) d_Model_answersNext_74 ?_
  refine g_aload_n d_Model_answersNext_77 rfl ?_
  refine w_get (k := 1) fl_Model_7 (by decide) rfl d_Model_answersNext_78 ?_
  refine g_aload_n d_Model_answersNext_81 rfl ?_
  refine w_get (k := 36) fl_Model_74 (by decide) rfl d_Model_answersNext_82 ?_
  refine g_iload d_Model_answersNext_85 rfl ?_
  refine w_ald (j := 21) (q := p) (x := s.2 21 p) hmn (by decide) (by decide) h35 (by show _ < 2200; omega) rfl d_Model_answersNext_87 ?_
  refine w_ald (j := 0) (q := tn (s.2 21 p)) (x := s.2 0 (tn (s.2 21 p))) hmn (by decide) (by decide) (tn_hi hT.1) (by show _ < 16; exact hT.2) rfl d_Model_answersNext_88 ?_
  refine g_iconst (v := 1) d_Model_answersNext_89 (by decide) ?_
  refine g_icmp_le (tgt := 97) d_Model_answersNext_90 (by decide) (fun c_90 => ?_) (fun c_90 => ?_)
  rotate_left
  · exact absurd c_90 (fun y => y hm)
  refine g_iconst (v := 0) d_Model_answersNext_97 (by decide) ?_
  refine g_istore d_Model_answersNext_98 (by decide) rfl ?_
  refine g_iload d_Model_answersNext_100 rfl ?_
  refine g_if_eq (tgt := 130) d_Model_answersNext_102 (by decide) (fun c_102 => ?_) (fun c_102 => absurd c_102 (by decide))
  refine g_iload d_Model_answersNext_130 rfl ?_
  refine g_iload d_Model_answersNext_132 rfl ?_
  refine g_iconst (v := 1) d_Model_answersNext_134 (by decide) ?_
  refine g_isub d_Model_answersNext_135 ?_
  refine g_icmp_ge (tgt := 143) d_Model_answersNext_136 (by decide) (fun c_136 => ?_) (fun c_136 => ?_)
  rotate_left
  · exact absurd c_136 (fun y => y hi)
  refine g_iconst (v := 0) d_Model_answersNext_143 (by decide) ?_
  refine g_istore d_Model_answersNext_144 (by decide) rfl ?_
  refine g_aload_n d_Model_answersNext_146 rfl ?_
  refine w_get (k := 39) fl_Model_84 (by decide) rfl d_Model_answersNext_147 ?_
  refine g_iload d_Model_answersNext_150 rfl ?_
  refine g_iload d_Model_answersNext_152 rfl ?_
  refine g_if_eq (tgt := 194) d_Model_answersNext_154 (by decide) (fun c_154 => ?_) (fun c_154 => absurd c_154 (by decide))
  refine g_aload_n d_Model_answersNext_194 rfl ?_
  refine g_iload_n d_Model_answersNext_195 rfl ?_
  refine g_iload_n d_Model_answersNext_196 rfl ?_
  refine g_iload d_Model_answersNext_197 rfl ?_
  refine c_Vr (as := [.int (s.2 31 (D)), .int (s.2 32 (D)), .int (s.2 35 (D))]) kv_Model_other ml_Model_268 rfl mw_f (m_W_other (s := (wF (wA s 34 D (s.2 34 D + 1)) 46 (s.2 31 D + s.2 32 D))) hmn (f := s.2 31 D) (q := s.2 32 D) (p := s.2 35 D) (A := A) (K := K) h31 h32 hR hW bA) rfl (Nat.le_of_ble_eq_true rfl) rfl d_Model_answersNext_199 rfl ?_
  refine w_ast (j := 24) (q := p) hmn (by decide) (by decide) h35 (by show _ < 2200; omega) d_Model_answersNext_202 ?_
  refine g_aload_n d_Model_answersNext_203 rfl ?_
  refine w_get (k := 38) fl_Model_81 (by decide) rfl d_Model_answersNext_204 ?_
  refine g_iload d_Model_answersNext_207 rfl ?_
  refine g_iconst (v := 1) d_Model_answersNext_209 (by decide) ?_
  refine w_ast (j := 23) (q := p) hmn (by decide) (by decide) h35 (by show _ < 2200; omega) d_Model_answersNext_210 ?_
  refine g_aload_n d_Model_answersNext_211 rfl ?_
  refine g_iload_n d_Model_answersNext_212 rfl ?_
  refine g_iload_n d_Model_answersNext_213 rfl ?_
  refine g_iload d_Model_answersNext_214 rfl ?_
  refine g_iconst (v := 0) d_Model_answersNext_216 (by decide) ?_
  refine g_aload_n d_Model_answersNext_217 rfl ?_
  refine w_get (k := 39) fl_Model_84 (by decide) rfl d_Model_answersNext_218 ?_
  refine g_iload d_Model_answersNext_221 rfl ?_
  refine w_ald (j := 24) (q := p) (x := nI (rOth (wF (wA s 34 D (s.2 34 D + 1)) 46 (s.2 31 D + s.2 32 D)) A K (s.2 35 D) (K + 1) 0)) hmn (by decide) (by decide) h35 (by show _ < 2200; omega) up_at d_Model_answersNext_223 ?_
  refine g_iload d_Model_answersNext_224 rfl ?_
  exact kk
end MS
