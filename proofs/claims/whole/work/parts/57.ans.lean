/-! The reference: answerRows, its steps -/
theorem d_Model_answerRows_0 : decode Y_Model_answerRows.2.1 0 = .ok (.aload_n 0, 1) := by decide +kernel
theorem d_Model_answerRows_1 : decode Y_Model_answerRows.2.1 1 = .ok (.getfield 192, 3) := by decide +kernel
theorem d_Model_answerRows_4 : decode Y_Model_answerRows.2.1 4 = .ok (.istore 7, 2) := by decide +kernel
theorem d_Model_answerRows_6 : decode Y_Model_answerRows.2.1 6 = .ok (.ldc 187, 2) := by decide +kernel
theorem d_Model_answerRows_8 : decode Y_Model_answerRows.2.1 8 = .ok (.istore 8, 2) := by decide +kernel
theorem d_Model_answerRows_10 : decode Y_Model_answerRows.2.1 10 = .ok (.iconst 0, 1) := by decide +kernel
theorem d_Model_answerRows_11 : decode Y_Model_answerRows.2.1 11 = .ok (.istore 9, 2) := by decide +kernel
theorem d_Model_answerRows_13 : decode Y_Model_answerRows.2.1 13 = .ok (.iload 9, 2) := by decide +kernel
theorem d_Model_answerRows_15 : decode Y_Model_answerRows.2.1 15 = .ok (.iload_n 2, 1) := by decide +kernel
theorem d_Model_answerRows_16 : decode Y_Model_answerRows.2.1 16 = .ok (.if_icmp .ge 193, 3) := by decide +kernel
theorem d_Model_answerRows_19 : decode Y_Model_answerRows.2.1 19 = .ok (.aload_n 0, 1) := by decide +kernel
theorem d_Model_answerRows_20 : decode Y_Model_answerRows.2.1 20 = .ok (.getfield 195, 3) := by decide +kernel
theorem d_Model_answerRows_23 : decode Y_Model_answerRows.2.1 23 = .ok (.ifCond .ne 186, 3) := by decide +kernel
theorem d_Model_answerRows_26 : decode Y_Model_answerRows.2.1 26 = .ok (.aload_n 0, 1) := by decide +kernel
theorem d_Model_answerRows_27 : decode Y_Model_answerRows.2.1 27 = .ok (.iload_n 1, 1) := by decide +kernel
theorem d_Model_answerRows_28 : decode Y_Model_answerRows.2.1 28 = .ok (.iload 9, 2) := by decide +kernel
theorem d_Model_answerRows_30 : decode Y_Model_answerRows.2.1 30 = .ok (.iadd, 1) := by decide +kernel
theorem d_Model_answerRows_31 : decode Y_Model_answerRows.2.1 31 = .ok (.iload 8, 2) := by decide +kernel
theorem d_Model_answerRows_33 : decode Y_Model_answerRows.2.1 33 = .ok (.invokevirtual 188, 3) := by decide +kernel
theorem d_Model_answerRows_36 : decode Y_Model_answerRows.2.1 36 = .ok (.aload_n 0, 1) := by decide +kernel
theorem d_Model_answerRows_37 : decode Y_Model_answerRows.2.1 37 = .ok (.iload 8, 2) := by decide +kernel
theorem d_Model_answerRows_39 : decode Y_Model_answerRows.2.1 39 = .ok (.iload_n 3, 1) := by decide +kernel
theorem d_Model_answerRows_40 : decode Y_Model_answerRows.2.1 40 = .ok (.invokevirtual 205, 3) := by decide +kernel
theorem d_Model_answerRows_43 : decode Y_Model_answerRows.2.1 43 = .ok (.istore 10, 2) := by decide +kernel
theorem d_Model_answerRows_45 : decode Y_Model_answerRows.2.1 45 = .ok (.iload 10, 2) := by decide +kernel
theorem d_Model_answerRows_47 : decode Y_Model_answerRows.2.1 47 = .ok (.ifCond .lt 150, 3) := by decide +kernel
theorem d_Model_answerRows_50 : decode Y_Model_answerRows.2.1 50 = .ok (.aload_n 0, 1) := by decide +kernel
theorem d_Model_answerRows_51 : decode Y_Model_answerRows.2.1 51 = .ok (.getfield 101, 3) := by decide +kernel
theorem d_Model_answerRows_54 : decode Y_Model_answerRows.2.1 54 = .ok (.bipush 26, 2) := by decide +kernel
theorem d_Model_answerRows_56 : decode Y_Model_answerRows.2.1 56 = .ok (.iload 8, 2) := by decide +kernel
theorem d_Model_answerRows_58 : decode Y_Model_answerRows.2.1 58 = .ok (.imul, 1) := by decide +kernel
theorem d_Model_answerRows_59 : decode Y_Model_answerRows.2.1 59 = .ok (.iload 10, 2) := by decide +kernel
theorem d_Model_answerRows_61 : decode Y_Model_answerRows.2.1 61 = .ok (.iadd, 1) := by decide +kernel
theorem d_Model_answerRows_62 : decode Y_Model_answerRows.2.1 62 = .ok (.iaload, 1) := by decide +kernel
theorem d_Model_answerRows_63 : decode Y_Model_answerRows.2.1 63 = .ok (.istore 11, 2) := by decide +kernel
theorem d_Model_answerRows_65 : decode Y_Model_answerRows.2.1 65 = .ok (.aload_n 0, 1) := by decide +kernel
theorem d_Model_answerRows_66 : decode Y_Model_answerRows.2.1 66 = .ok (.getfield 25, 3) := by decide +kernel
theorem d_Model_answerRows_69 : decode Y_Model_answerRows.2.1 69 = .ok (.iload 11, 2) := by decide +kernel
theorem d_Model_answerRows_71 : decode Y_Model_answerRows.2.1 71 = .ok (.iaload, 1) := by decide +kernel
theorem d_Model_answerRows_72 : decode Y_Model_answerRows.2.1 72 = .ok (.iload 5, 2) := by decide +kernel
theorem d_Model_answerRows_74 : decode Y_Model_answerRows.2.1 74 = .ok (.if_icmp .ne 129, 3) := by decide +kernel
theorem d_Model_answerRows_77 : decode Y_Model_answerRows.2.1 77 = .ok (.iload 4, 2) := by decide +kernel
theorem d_Model_answerRows_79 : decode Y_Model_answerRows.2.1 79 = .ok (.ifCond .ne 11, 3) := by decide +kernel
theorem d_Model_answerRows_82 : decode Y_Model_answerRows.2.1 82 = .ok (.iload 6, 2) := by decide +kernel
theorem d_Model_answerRows_84 : decode Y_Model_answerRows.2.1 84 = .ok (.ifCond .ne 6, 3) := by decide +kernel
theorem d_Model_answerRows_87 : decode Y_Model_answerRows.2.1 87 = .ok (.goto 116, 3) := by decide +kernel
theorem d_Model_answerRows_90 : decode Y_Model_answerRows.2.1 90 = .ok (.iload 4, 2) := by decide +kernel
theorem d_Model_answerRows_92 : decode Y_Model_answerRows.2.1 92 = .ok (.ifCond .eq 23, 3) := by decide +kernel
theorem d_Model_answerRows_95 : decode Y_Model_answerRows.2.1 95 = .ok (.aload_n 0, 1) := by decide +kernel
theorem d_Model_answerRows_96 : decode Y_Model_answerRows.2.1 96 = .ok (.getfield 13, 3) := by decide +kernel
theorem d_Model_answerRows_99 : decode Y_Model_answerRows.2.1 99 = .ok (.bipush 8, 2) := by decide +kernel
theorem d_Model_answerRows_101 : decode Y_Model_answerRows.2.1 101 = .ok (.aload_n 0, 1) := by decide +kernel
theorem d_Model_answerRows_102 : decode Y_Model_answerRows.2.1 102 = .ok (.getfield 74, 3) := by decide +kernel
theorem d_Model_answerRows_105 : decode Y_Model_answerRows.2.1 105 = .ok (.iload_n 3, 1) := by decide +kernel
theorem d_Model_answerRows_106 : decode Y_Model_answerRows.2.1 106 = .ok (.iaload, 1) := by decide +kernel
theorem d_Model_answerRows_107 : decode Y_Model_answerRows.2.1 107 = .ok (.imul, 1) := by decide +kernel
theorem d_Model_answerRows_108 : decode Y_Model_answerRows.2.1 108 = .ok (.iload 5, 2) := by decide +kernel
theorem d_Model_answerRows_110 : decode Y_Model_answerRows.2.1 110 = .ok (.iadd, 1) := by decide +kernel
theorem d_Model_answerRows_111 : decode Y_Model_answerRows.2.1 111 = .ok (.iaload, 1) := by decide +kernel
theorem d_Model_answerRows_112 : decode Y_Model_answerRows.2.1 112 = .ok (.goto 4, 3) := by decide +kernel
theorem d_Model_answerRows_115 : decode Y_Model_answerRows.2.1 115 = .ok (.iconst 0, 1) := by decide +kernel
theorem d_Model_answerRows_116 : decode Y_Model_answerRows.2.1 116 = .ok (.istore 12, 2) := by decide +kernel
theorem d_Model_answerRows_118 : decode Y_Model_answerRows.2.1 118 = .ok (.aload_n 0, 1) := by decide +kernel
theorem d_Model_answerRows_119 : decode Y_Model_answerRows.2.1 119 = .ok (.iload 8, 2) := by decide +kernel
theorem d_Model_answerRows_121 : decode Y_Model_answerRows.2.1 121 = .ok (.iload 10, 2) := by decide +kernel
theorem d_Model_answerRows_123 : decode Y_Model_answerRows.2.1 123 = .ok (.iload 12, 2) := by decide +kernel
theorem d_Model_answerRows_125 : decode Y_Model_answerRows.2.1 125 = .ok (.invokevirtual 209, 3) := by decide +kernel
theorem d_Model_answerRows_128 : decode Y_Model_answerRows.2.1 128 = .ok (.iconst 0, 1) := by decide +kernel
theorem d_Model_answerRows_129 : decode Y_Model_answerRows.2.1 129 = .ok (.istore 13, 2) := by decide +kernel
theorem d_Model_answerRows_131 : decode Y_Model_answerRows.2.1 131 = .ok (.iload 13, 2) := by decide +kernel
theorem d_Model_answerRows_133 : decode Y_Model_answerRows.2.1 133 = .ok (.iload 12, 2) := by decide +kernel
theorem d_Model_answerRows_135 : decode Y_Model_answerRows.2.1 135 = .ok (.if_icmp .ge 62, 3) := by decide +kernel
theorem d_Model_answerRows_138 : decode Y_Model_answerRows.2.1 138 = .ok (.aload_n 0, 1) := by decide +kernel
theorem d_Model_answerRows_139 : decode Y_Model_answerRows.2.1 139 = .ok (.getfield 98, 3) := by decide +kernel
theorem d_Model_answerRows_142 : decode Y_Model_answerRows.2.1 142 = .ok (.bipush 26, 2) := by decide +kernel
theorem d_Model_answerRows_144 : decode Y_Model_answerRows.2.1 144 = .ok (.iload 8, 2) := by decide +kernel
theorem d_Model_answerRows_146 : decode Y_Model_answerRows.2.1 146 = .ok (.imul, 1) := by decide +kernel
theorem d_Model_answerRows_147 : decode Y_Model_answerRows.2.1 147 = .ok (.iload 10, 2) := by decide +kernel
theorem d_Model_answerRows_149 : decode Y_Model_answerRows.2.1 149 = .ok (.iadd, 1) := by decide +kernel
theorem d_Model_answerRows_150 : decode Y_Model_answerRows.2.1 150 = .ok (.iload 13, 2) := by decide +kernel
theorem d_Model_answerRows_152 : decode Y_Model_answerRows.2.1 152 = .ok (.iadd, 1) := by decide +kernel
theorem d_Model_answerRows_153 : decode Y_Model_answerRows.2.1 153 = .ok (.aload_n 0, 1) := by decide +kernel
theorem d_Model_answerRows_154 : decode Y_Model_answerRows.2.1 154 = .ok (.iload_n 3, 1) := by decide +kernel
theorem d_Model_answerRows_155 : decode Y_Model_answerRows.2.1 155 = .ok (.iload 5, 2) := by decide +kernel
theorem d_Model_answerRows_157 : decode Y_Model_answerRows.2.1 157 = .ok (.iload 13, 2) := by decide +kernel
theorem d_Model_answerRows_159 : decode Y_Model_answerRows.2.1 159 = .ok (.invokevirtual 213, 3) := by decide +kernel
theorem d_Model_answerRows_162 : decode Y_Model_answerRows.2.1 162 = .ok (.iastore, 1) := by decide +kernel
theorem d_Model_answerRows_163 : decode Y_Model_answerRows.2.1 163 = .ok (.aload_n 0, 1) := by decide +kernel
theorem d_Model_answerRows_164 : decode Y_Model_answerRows.2.1 164 = .ok (.getfield 101, 3) := by decide +kernel
theorem d_Model_answerRows_167 : decode Y_Model_answerRows.2.1 167 = .ok (.bipush 26, 2) := by decide +kernel
theorem d_Model_answerRows_169 : decode Y_Model_answerRows.2.1 169 = .ok (.iload 8, 2) := by decide +kernel
theorem d_Model_answerRows_171 : decode Y_Model_answerRows.2.1 171 = .ok (.imul, 1) := by decide +kernel
theorem d_Model_answerRows_172 : decode Y_Model_answerRows.2.1 172 = .ok (.iload 10, 2) := by decide +kernel
theorem d_Model_answerRows_174 : decode Y_Model_answerRows.2.1 174 = .ok (.iadd, 1) := by decide +kernel
theorem d_Model_answerRows_175 : decode Y_Model_answerRows.2.1 175 = .ok (.iload 13, 2) := by decide +kernel
theorem d_Model_answerRows_177 : decode Y_Model_answerRows.2.1 177 = .ok (.iadd, 1) := by decide +kernel
theorem d_Model_answerRows_178 : decode Y_Model_answerRows.2.1 178 = .ok (.aload_n 0, 1) := by decide +kernel
theorem d_Model_answerRows_179 : decode Y_Model_answerRows.2.1 179 = .ok (.getfield 28, 3) := by decide +kernel
theorem d_Model_answerRows_182 : decode Y_Model_answerRows.2.1 182 = .ok (.iconst 4, 1) := by decide +kernel
theorem d_Model_answerRows_183 : decode Y_Model_answerRows.2.1 183 = .ok (.iload 11, 2) := by decide +kernel
theorem d_Model_answerRows_185 : decode Y_Model_answerRows.2.1 185 = .ok (.imul, 1) := by decide +kernel
theorem d_Model_answerRows_186 : decode Y_Model_answerRows.2.1 186 = .ok (.iload 13, 2) := by decide +kernel
theorem d_Model_answerRows_188 : decode Y_Model_answerRows.2.1 188 = .ok (.iadd, 1) := by decide +kernel
theorem d_Model_answerRows_189 : decode Y_Model_answerRows.2.1 189 = .ok (.iaload, 1) := by decide +kernel
theorem d_Model_answerRows_190 : decode Y_Model_answerRows.2.1 190 = .ok (.iastore, 1) := by decide +kernel
theorem d_Model_answerRows_191 : decode Y_Model_answerRows.2.1 191 = .ok (.iinc 13 1, 3) := by decide +kernel
theorem d_Model_answerRows_194 : decode Y_Model_answerRows.2.1 194 = .ok (.goto (-63), 3) := by decide +kernel
theorem d_Model_answerRows_197 : decode Y_Model_answerRows.2.1 197 = .ok (.aload_n 0, 1) := by decide +kernel
theorem d_Model_answerRows_198 : decode Y_Model_answerRows.2.1 198 = .ok (.iload 7, 2) := by decide +kernel
theorem d_Model_answerRows_200 : decode Y_Model_answerRows.2.1 200 = .ok (.invokevirtual 198, 3) := by decide +kernel
theorem d_Model_answerRows_203 : decode Y_Model_answerRows.2.1 203 = .ok (.iinc 9 1, 3) := by decide +kernel
theorem d_Model_answerRows_206 : decode Y_Model_answerRows.2.1 206 = .ok (.goto (-193), 3) := by decide +kernel
theorem d_Model_answerRows_209 : decode Y_Model_answerRows.2.1 209 = .ok (.return_, 1) := by decide +kernel
section MR
variable {E : gE} {d : Nat} {G G0 : gS} {m n : Nat} {s : mS} {Q : gO → gS → Prop} {f0 mn pl md wh is fr nn q10 q11 q12 : Int32}
set_option maxHeartbeats 400000 in
set_option maxRecDepth 100000 in
theorem m_W_ans_i (hmn : m < n) (kk : GT E Y_Model_answerRows d (mW E G m n s) 13 [(0, .ref m), (1, .int f0), (2, .int mn), (3, .int pl), (4, .int md), (5, .int wh), (6, .int is), (7, .int (s.1 46)), (8, .int 41600), (9, .int (0))] [] (mW E G m n s) Q) : GM E Y_Model_answerRows d [.ref m, .int f0, .int mn, .int pl, .int md, .int wh, .int is] (mW E G m n s) Q := by
  refine g_entry (by decide) (by simp [Value.category]) (Nat.le_of_ble_eq_true rfl) ?_
  refine g_aload_n d_Model_answerRows_0 rfl ?_
  refine w_get (k := 46) (x := .int (s.1 46)) fl_Model_192 (by decide) rfl d_Model_answerRows_1 ?_
  refine g_istore d_Model_answerRows_4 (by decide) rfl ?_
  refine g_ldc cn_Model_187 d_Model_answerRows_6 ?_
  refine g_istore d_Model_answerRows_8 (by decide) rfl ?_
  refine g_iconst (v := 0) d_Model_answerRows_10 (by decide) ?_
  refine g_istore d_Model_answerRows_11 (by decide) rfl ?_
  exact kk
set_option maxHeartbeats 400000 in
set_option maxRecDepth 100000 in
theorem m_W_ans_e (hmn : m < n) (hc : mn ≤ nn ∨ ¬ s.1 47 = 0) (kk : Q (.inl none) (mW E G m n s)) : GT E Y_Model_answerRows (d + 2) G0 13 [(0, .ref m), (1, .int f0), (2, .int mn), (3, .int pl), (4, .int md), (5, .int wh), (6, .int is), (7, .int fr), (8, .int 41600), (9, .int (nn))] [] (mW E G m n s) Q := by
  refine g_iload d_Model_answerRows_13 rfl ?_
  refine g_iload_n d_Model_answerRows_15 rfl ?_
  refine g_icmp_ge (tgt := 209) d_Model_answerRows_16 (by decide) (fun c_16 => ?_) (fun c_16 => ?_)
  · refine g_vret rfl d_Model_answerRows_209 ?_
    exact kk
  · refine g_aload_n d_Model_answerRows_19 rfl ?_
    refine w_get (k := 47) (x := .int (s.1 47)) fl_Model_195 (by decide) rfl d_Model_answerRows_20 ?_
    refine g_if_ne (tgt := 209) d_Model_answerRows_23 (by decide) (fun c_23 => ?_) (fun c_23 => ?_)
    rotate_left
    · exact absurd c_23 (hc.resolve_left c_16)
    refine g_vret rfl d_Model_answerRows_209 ?_
    exact kk
set_option maxHeartbeats 400000 in
set_option maxRecDepth 100000 in
theorem m_W_ans_a (hmn : m < n) {F : Nat} (hc : ¬ mn ≤ nn) (h47 : s.1 47 = 0) (hF : (f0 + nn).toInt = (F : Int)) (bF : F < 41600) (hM : ¬ s.2 27 F < 0) (bM : tn (s.2 27 F) ≤ 26) (e27 : (rCopy s F 41600).2 27 41600 = s.2 27 F) (kk : GT E Y_Model_answerRows (d + 2) G0 45 [(0, .ref m), (1, .int f0), (2, .int mn), (3, .int pl), (4, .int md), (5, .int wh), (6, .int is), (7, .int fr), (8, .int 41600), (9, .int (nn)), (10, .int (rWish (rCopy s F 41600) 41600 pl (tn (s.2 27 F))))] [] (mW E G m n (rCopy s F 41600)) Q) : GT E Y_Model_answerRows (d + 2) G0 13 [(0, .ref m), (1, .int f0), (2, .int mn), (3, .int pl), (4, .int md), (5, .int wh), (6, .int is), (7, .int fr), (8, .int 41600), (9, .int (nn))] [] (mW E G m n s) Q := by
  refine g_iload d_Model_answerRows_13 rfl ?_
  refine g_iload_n d_Model_answerRows_15 rfl ?_
  refine g_icmp_ge (tgt := 209) d_Model_answerRows_16 (by decide) (fun c_16 => ?_) (fun c_16 => ?_)
  · exact absurd c_16 hc
  refine g_aload_n d_Model_answerRows_19 rfl ?_
  refine w_get (k := 47) (x := .int (s.1 47)) fl_Model_195 (by decide) rfl d_Model_answerRows_20 ?_
  refine g_if_ne (tgt := 209) d_Model_answerRows_23 (by decide) (fun c_23 => ?_) (fun c_23 => ?_)
  · exact absurd c_23 (fun y => y h47)
  refine g_aload_n d_Model_answerRows_26 rfl ?_
  refine g_iload_n d_Model_answerRows_27 rfl ?_
  refine g_iload d_Model_answerRows_28 rfl ?_
  refine g_iadd d_Model_answerRows_30 ?_
  refine g_iload d_Model_answerRows_31 rfl ?_
  refine c_Vr (as := [.int ((f0) + (nn)), .int (41600)]) kv_Model_copyRow ml_Model_188 rfl mw_f (m_W_copyRow (s := s) hmn (F := F) (T := 41600) hF (by decide) (by omega) (by omega) (by omega) hM bM) rfl (Nat.le_of_ble_eq_true rfl) rfl d_Model_answerRows_33 rfl ?_
  refine g_aload_n d_Model_answerRows_36 rfl ?_
  refine g_iload d_Model_answerRows_37 rfl ?_
  refine g_iload_n d_Model_answerRows_39 rfl ?_
  have hw_ := m_W_wish (E := E) (d := d + 1) (G := G) (m := m) (n := n) (s := (rCopy s F 41600)) hmn (f := 41600) (p := pl) (F := 41600) (by decide) (by omega) (by rw [e27]; exact hM) (by rw [e27]; exact bM)
  rw [e27] at hw_
  refine c_Vr (as := [.int (41600), .int (pl)]) kv_Model_wish ml_Model_205 rfl mw_f (hw_) rfl (Nat.le_of_ble_eq_true rfl) rfl d_Model_answerRows_40 rfl ?_
  refine g_istore d_Model_answerRows_43 (by decide) rfl ?_
  exact kk
set_option maxHeartbeats 400000 in
set_option maxRecDepth 100000 in
theorem m_W_ans_n (hmn : m < n) (hc : q10 < 0) (kk : GT E Y_Model_answerRows (d + 2) G0 197 [(0, .ref m), (1, .int f0), (2, .int mn), (3, .int pl), (4, .int md), (5, .int wh), (6, .int is), (7, .int fr), (8, .int 41600), (9, .int (nn)), (10, .int (q10))] [] (mW E G m n s) Q) : GT E Y_Model_answerRows (d + 2) G0 45 [(0, .ref m), (1, .int f0), (2, .int mn), (3, .int pl), (4, .int md), (5, .int wh), (6, .int is), (7, .int fr), (8, .int 41600), (9, .int (nn)), (10, .int (q10))] [] (mW E G m n s) Q := by
  refine g_iload d_Model_answerRows_45 rfl ?_
  refine g_if_lt (tgt := 197) d_Model_answerRows_47 (by decide) (fun c_47 => ?_) (fun c_47 => ?_)
  rotate_left
  · exact absurd c_47 (fun y => y hc)
  exact kk
set_option maxHeartbeats 400000 in
set_option maxRecDepth 100000 in
theorem m_W_ans_x (hmn : m < n) {k : Nat} (hk : q10.toInt = (k : Int)) (bk : k < 26) (h0 : ¬ q10 < 0) (hp : ¬ s.2 29 (26 * 41600 + k) < 0 ∧ tn (s.2 29 (26 * 41600 + k)) < 700) (hc : ¬ s.2 5 (tn (s.2 29 (26 * 41600 + k))) = wh ∨ (md = 0 ∧ is = 0)) (kk : GT E Y_Model_answerRows (d + 2) G0 203 [(0, .ref m), (1, .int f0), (2, .int mn), (3, .int pl), (4, .int md), (5, .int wh), (6, .int is), (7, .int fr), (8, .int 41600), (9, .int (nn))] [] (mW E G m n s) Q) : GT E Y_Model_answerRows (d + 2) G0 45 [(0, .ref m), (1, .int f0), (2, .int mn), (3, .int pl), (4, .int md), (5, .int wh), (6, .int is), (7, .int fr), (8, .int 41600), (9, .int (nn)), (10, .int (q10))] [] (mW E G m n s) Q := by
  refine g_iload d_Model_answerRows_45 rfl ?_
  refine g_if_lt (tgt := 197) d_Model_answerRows_47 (by decide) (fun c_47 => ?_) (fun c_47 => ?_)
  · exact absurd c_47 h0
  refine g_aload_n d_Model_answerRows_50 rfl ?_
  refine w_get (k := 44) fl_Model_101 (by decide) rfl d_Model_answerRows_51 ?_
  refine g_bipush (v := 26) d_Model_answerRows_54 (by decide) ?_
  refine g_iload d_Model_answerRows_56 rfl ?_
  refine g_imul d_Model_answerRows_58 ?_
  refine g_iload d_Model_answerRows_59 rfl ?_
  refine g_iadd d_Model_answerRows_61 ?_
  refine w_ald (j := 29) (q := 26 * 41600 + k) (x := s.2 29 (26 * 41600 + k)) hmn (by decide) (by decide) (add_hi (m := 26 * 41600) (by decide) hk (by omega)) (by show _ < 1082640; omega) rfl d_Model_answerRows_62 ?_
  refine g_istore d_Model_answerRows_63 (by decide) rfl ?_
  refine g_aload_n d_Model_answerRows_65 rfl ?_
  refine w_get (k := 8) fl_Model_25 (by decide) rfl d_Model_answerRows_66 ?_
  refine g_iload d_Model_answerRows_69 rfl ?_
  refine w_ald (j := 5) (q := tn (s.2 29 (26 * 41600 + k))) (x := s.2 5 (tn (s.2 29 (26 * 41600 + k)))) hmn (by decide) (by decide) (tn_hi hp.1) hp.2 rfl d_Model_answerRows_71 ?_
  refine g_iload d_Model_answerRows_72 rfl ?_
  refine g_icmp_ne (tgt := 203) d_Model_answerRows_74 (by decide) (fun c_74 => ?_) (fun c_74 => ?_)
  · exact g_weak (lv := [(0, .ref (m)), (1, .int (f0)), (2, .int (mn)), (3, .int (pl)), (4, .int (md)), (5, .int (wh)), (6, .int (is)), (7, .int (fr)), (8, .int (41600)), (9, .int (nn)), (10, .int (q10)), (11, .int (s.2 29 (26 * 41600 + k)))]) (by simp) (by simp) (kk)
  · refine g_iload d_Model_answerRows_77 rfl ?_
    have hc2 := hc.resolve_left (fun f => f (by first | exact c_74 | exact Classical.byContradiction (fun h => c_74 h)))
    refine g_if_ne (tgt := 90) d_Model_answerRows_79 (by decide) (fun c_79 => ?_) (fun c_79 => ?_)
    · exact absurd c_79 (fun y => y hc2.1)
    refine g_iload d_Model_answerRows_82 rfl ?_
    refine g_if_ne (tgt := 90) d_Model_answerRows_84 (by decide) (fun c_84 => ?_) (fun c_84 => ?_)
    · exact absurd c_84 (fun y => y hc2.2)
    refine g_goto (tgt := 203) d_Model_answerRows_87 (by decide) ?_
    exact g_weak (lv := [(0, .ref (m)), (1, .int (f0)), (2, .int (mn)), (3, .int (pl)), (4, .int (md)), (5, .int (wh)), (6, .int (is)), (7, .int (fr)), (8, .int (41600)), (9, .int (nn)), (10, .int (q10)), (11, .int (s.2 29 (26 * 41600 + k)))]) (by simp) (by simp) (kk)
set_option maxHeartbeats 400000 in
set_option maxRecDepth 100000 in
theorem m_W_ans_o (hmn : m < n) {k : Nat} (hk : q10.toInt = (k : Int)) (bk : k < 26) (h0 : ¬ q10 < 0) (hp : ¬ s.2 29 (26 * 41600 + k) < 0 ∧ tn (s.2 29 (26 * 41600 + k)) < 700) (hc : s.2 5 (tn (s.2 29 (26 * 41600 + k))) = wh) (hm : ¬ md = 0) {M p : Nat} (hM : (s.2 1 (8 * tn (s.2 21 p) + tn wh)).toInt = (M : Int)) (hO : ¬ s.2 27 41600 < 0) (bO : tn (s.2 27 41600) ≤ 26) (bK : k < tn (s.2 27 41600)) (bM : tn (s.2 27 41600) + M ≤ 27) (hpl : pl.toInt = (p : Int)) (bp : p < 2200) (hT : ¬ s.2 21 p < 0 ∧ tn (s.2 21 p) < 16) (hw : ¬ wh < 0 ∧ tn wh < 8) (kk : GT E Y_Model_answerRows (d + 2) G0 131 [(0, .ref m), (1, .int f0), (2, .int mn), (3, .int pl), (4, .int md), (5, .int wh), (6, .int is), (7, .int fr), (8, .int 41600), (9, .int (nn)), (10, .int (q10)), (11, .int (s.2 29 (26 * 41600 + k))), (12, .int (s.2 1 (8 * tn (s.2 21 p) + tn wh))), (13, .int (0))] [] (mW E G m n (rOpen s 41600 k M (s.2 1 (8 * tn (s.2 21 p) + tn wh)))) Q) : GT E Y_Model_answerRows (d + 2) G0 45 [(0, .ref m), (1, .int f0), (2, .int mn), (3, .int pl), (4, .int md), (5, .int wh), (6, .int is), (7, .int fr), (8, .int 41600), (9, .int (nn)), (10, .int (q10))] [] (mW E G m n s) Q := by
  refine g_iload d_Model_answerRows_45 rfl ?_
  refine g_if_lt (tgt := 197) d_Model_answerRows_47 (by decide) (fun c_47 => ?_) (fun c_47 => ?_)
  · exact absurd c_47 h0
  refine g_aload_n d_Model_answerRows_50 rfl ?_
  refine w_get (k := 44) fl_Model_101 (by decide) rfl d_Model_answerRows_51 ?_
  refine g_bipush (v := 26) d_Model_answerRows_54 (by decide) ?_
  refine g_iload d_Model_answerRows_56 rfl ?_
  refine g_imul d_Model_answerRows_58 ?_
  refine g_iload d_Model_answerRows_59 rfl ?_
  refine g_iadd d_Model_answerRows_61 ?_
  refine w_ald (j := 29) (q := 26 * 41600 + k) (x := s.2 29 (26 * 41600 + k)) hmn (by decide) (by decide) (add_hi (m := 26 * 41600) (by decide) hk (by omega)) (by show _ < 1082640; omega) rfl d_Model_answerRows_62 ?_
  refine g_istore d_Model_answerRows_63 (by decide) rfl ?_
  refine g_aload_n d_Model_answerRows_65 rfl ?_
  refine w_get (k := 8) fl_Model_25 (by decide) rfl d_Model_answerRows_66 ?_
  refine g_iload d_Model_answerRows_69 rfl ?_
  refine w_ald (j := 5) (q := tn (s.2 29 (26 * 41600 + k))) (x := s.2 5 (tn (s.2 29 (26 * 41600 + k)))) hmn (by decide) (by decide) (tn_hi hp.1) hp.2 rfl d_Model_answerRows_71 ?_
  refine g_iload d_Model_answerRows_72 rfl ?_
  refine g_icmp_ne (tgt := 203) d_Model_answerRows_74 (by decide) (fun c_74 => ?_) (fun c_74 => ?_)
  · exact absurd c_74 (fun y => y hc)
  refine g_iload d_Model_answerRows_77 rfl ?_
  refine g_if_ne (tgt := 90) d_Model_answerRows_79 (by decide) (fun c_79 => ?_) (fun c_79 => ?_)
  rotate_left
  · exact absurd c_79 hm
  refine g_iload d_Model_answerRows_90 rfl ?_
  refine g_if_eq (tgt := 115) d_Model_answerRows_92 (by decide) (fun c_92 => ?_) (fun c_92 => ?_)
  · exact absurd c_92 hm
  refine g_aload_n d_Model_answerRows_95 rfl ?_
  refine w_get (k := 2) fl_Model_13 (by decide) rfl d_Model_answerRows_96 ?_
  refine g_bipush (v := 8) d_Model_answerRows_99 (by decide) ?_
  refine g_aload_n d_Model_answerRows_101 rfl ?_
  refine w_get (k := 36) fl_Model_74 (by decide) rfl d_Model_answerRows_102 ?_
  refine g_iload_n d_Model_answerRows_105 rfl ?_
  refine w_ald (j := 21) (q := p) (x := s.2 21 (p)) hmn (by decide) (by decide) hpl (by show _ < 2200; omega) rfl d_Model_answerRows_106 ?_
  refine g_imul d_Model_answerRows_107 ?_
  refine g_iload d_Model_answerRows_108 rfl ?_
  refine g_iadd d_Model_answerRows_110 ?_
  refine w_ald (j := 1) (q := 8 * tn (s.2 21 p) + tn wh) (x := s.2 1 (8 * tn (s.2 21 p) + tn wh)) hmn (by decide) (by decide) (add_hi (mul_hi i8 (tn_hi hT.1) (by omega)) (tn_hi hw.1) (by omega)) (by show _ < 128; omega) rfl d_Model_answerRows_111 ?_
  refine g_goto (tgt := 116) d_Model_answerRows_112 (by decide) ?_
  refine g_istore d_Model_answerRows_116 (by decide) rfl ?_
  refine g_aload_n d_Model_answerRows_118 rfl ?_
  refine g_iload d_Model_answerRows_119 rfl ?_
  refine g_iload d_Model_answerRows_121 rfl ?_
  refine g_iload d_Model_answerRows_123 rfl ?_
  refine c_Vr (as := [.int (41600), .int (q10), .int (s.2 1 (8 * tn (s.2 21 p) + tn wh))]) kv_Model_opens ml_Model_209 rfl mw_f (m_W_opens (s := s) hmn (R := 41600) (K := k) (M := M) (r := 41600) (k := q10) (q := s.2 1 (8 * tn (s.2 21 p) + tn wh)) (by decide) hk hM (by omega) hO bO bK bM) rfl (Nat.le_of_ble_eq_true rfl) rfl d_Model_answerRows_125 rfl ?_
  refine g_iconst (v := 0) d_Model_answerRows_128 (by decide) ?_
  refine g_istore d_Model_answerRows_129 (by decide) rfl ?_
  exact kk
set_option maxHeartbeats 400000 in
set_option maxRecDepth 100000 in
theorem m_W_ans_z (hmn : m < n) {k : Nat} (hk : q10.toInt = (k : Int)) (bk : k < 26) (h0 : ¬ q10 < 0) (hp : ¬ s.2 29 (26 * 41600 + k) < 0 ∧ tn (s.2 29 (26 * 41600 + k)) < 700) (hc : s.2 5 (tn (s.2 29 (26 * 41600 + k))) = wh) (hm : md = 0) (hi : ¬ is = 0) {M p : Nat} (hM : ((0 : Int32)).toInt = (M : Int)) (hO : ¬ s.2 27 41600 < 0) (bO : tn (s.2 27 41600) ≤ 26) (bK : k < tn (s.2 27 41600)) (bM : tn (s.2 27 41600) + M ≤ 27) (kk : GT E Y_Model_answerRows (d + 2) G0 131 [(0, .ref m), (1, .int f0), (2, .int mn), (3, .int pl), (4, .int md), (5, .int wh), (6, .int is), (7, .int fr), (8, .int 41600), (9, .int (nn)), (10, .int (q10)), (11, .int (s.2 29 (26 * 41600 + k))), (12, .int ((0 : Int32))), (13, .int (0))] [] (mW E G m n (rOpen s 41600 k M ((0 : Int32)))) Q) : GT E Y_Model_answerRows (d + 2) G0 45 [(0, .ref m), (1, .int f0), (2, .int mn), (3, .int pl), (4, .int md), (5, .int wh), (6, .int is), (7, .int fr), (8, .int 41600), (9, .int (nn)), (10, .int (q10))] [] (mW E G m n s) Q := by
  refine g_iload d_Model_answerRows_45 rfl ?_
  refine g_if_lt (tgt := 197) d_Model_answerRows_47 (by decide) (fun c_47 => ?_) (fun c_47 => ?_)
  · exact absurd c_47 h0
  refine g_aload_n d_Model_answerRows_50 rfl ?_
  refine w_get (k := 44) fl_Model_101 (by decide) rfl d_Model_answerRows_51 ?_
  refine g_bipush (v := 26) d_Model_answerRows_54 (by decide) ?_
  refine g_iload d_Model_answerRows_56 rfl ?_
  refine g_imul d_Model_answerRows_58 ?_
  refine g_iload d_Model_answerRows_59 rfl ?_
  refine g_iadd d_Model_answerRows_61 ?_
  refine w_ald (j := 29) (q := 26 * 41600 + k) (x := s.2 29 (26 * 41600 + k)) hmn (by decide) (by decide) (add_hi (m := 26 * 41600) (by decide) hk (by omega)) (by show _ < 1082640; omega) rfl d_Model_answerRows_62 ?_
  refine g_istore d_Model_answerRows_63 (by decide) rfl ?_
  refine g_aload_n d_Model_answerRows_65 rfl ?_
  refine w_get (k := 8) fl_Model_25 (by decide) rfl d_Model_answerRows_66 ?_
  refine g_iload d_Model_answerRows_69 rfl ?_
  refine w_ald (j := 5) (q := tn (s.2 29 (26 * 41600 + k))) (x := s.2 5 (tn (s.2 29 (26 * 41600 + k)))) hmn (by decide) (by decide) (tn_hi hp.1) hp.2 rfl d_Model_answerRows_71 ?_
  refine g_iload d_Model_answerRows_72 rfl ?_
  refine g_icmp_ne (tgt := 203) d_Model_answerRows_74 (by decide) (fun c_74 => ?_) (fun c_74 => ?_)
  · exact absurd c_74 (fun y => y hc)
  refine g_iload d_Model_answerRows_77 rfl ?_
  refine g_if_ne (tgt := 90) d_Model_answerRows_79 (by decide) (fun c_79 => ?_) (fun c_79 => ?_)
  · exact absurd c_79 (fun y => y hm)
  refine g_iload d_Model_answerRows_82 rfl ?_
  refine g_if_ne (tgt := 90) d_Model_answerRows_84 (by decide) (fun c_84 => ?_) (fun c_84 => ?_)
  rotate_left
  · exact absurd c_84 hi
  refine g_iload d_Model_answerRows_90 rfl ?_
  refine g_if_eq (tgt := 115) d_Model_answerRows_92 (by decide) (fun c_92 => ?_) (fun c_92 => ?_)
  rotate_left
  · exact absurd c_92 (fun y => y hm)
  refine g_iconst (v := 0) d_Model_answerRows_115 (by decide) ?_
  refine g_istore d_Model_answerRows_116 (by decide) rfl ?_
  refine g_aload_n d_Model_answerRows_118 rfl ?_
  refine g_iload d_Model_answerRows_119 rfl ?_
  refine g_iload d_Model_answerRows_121 rfl ?_
  refine g_iload d_Model_answerRows_123 rfl ?_
  refine c_Vr (as := [.int (41600), .int (q10), .int (0)]) kv_Model_opens ml_Model_209 rfl mw_f (m_W_opens (s := s) hmn (R := 41600) (K := k) (M := M) (r := 41600) (k := q10) (q := (0 : Int32)) (by decide) hk hM (by omega) hO bO bK bM) rfl (Nat.le_of_ble_eq_true rfl) rfl d_Model_answerRows_125 rfl ?_
  refine g_iconst (v := 0) d_Model_answerRows_128 (by decide) ?_
  refine g_istore d_Model_answerRows_129 (by decide) rfl ?_
  exact kk
set_option maxHeartbeats 400000 in
set_option maxRecDepth 100000 in
theorem m_W_ans_p (hmn : m < n) {k j nd p M : Nat} (hk : q10.toInt = (k : Int)) (bk : k + j < 26) (hnd : q11.toInt = (nd : Int)) (bn : nd < 700) (hM : q12.toInt = (M : Int)) (hj : j < M) (bM : M ≤ 4) (hpl : pl.toInt = (p : Int)) (bp : p < 2200) (hT : ¬ s.2 21 p < 0 ∧ tn (s.2 21 p) < 16) (hw : ¬ wh < 0 ∧ tn wh < 8) (h34 : ¬ s.1 34 < 0) (b34 : tn (s.1 34) < 2200) (kk : GT E Y_Model_answerRows (d + 2) G0 131 [(0, .ref m), (1, .int f0), (2, .int mn), (3, .int pl), (4, .int md), (5, .int wh), (6, .int is), (7, .int fr), (8, .int 41600), (9, .int (nn)), (10, .int (q10)), (11, .int (q11)), (12, .int (q12)), (13, .int (nI (j + 1)))] [] (mW E G m n (wA (wA (rIn s p (tn wh) j) 28 (26 * 41600 + k + j) ((rIn s p (tn wh) j).2 22 (32 * p + 4 * tn wh + j))) 29 (26 * 41600 + k + j) ((rIn s p (tn wh) j).2 6 (4 * nd + j)))) Q) : GT E Y_Model_answerRows (d + 2) G0 131 [(0, .ref m), (1, .int f0), (2, .int mn), (3, .int pl), (4, .int md), (5, .int wh), (6, .int is), (7, .int fr), (8, .int 41600), (9, .int (nn)), (10, .int (q10)), (11, .int (q11)), (12, .int (q12)), (13, .int (nI j))] [] (mW E G m n s) Q := by
  refine g_iload d_Model_answerRows_131 rfl ?_
  refine g_iload d_Model_answerRows_133 rfl ?_
  refine g_icmp_ge (tgt := 197) d_Model_answerRows_135 (by decide) (fun c_135 => ?_) (fun c_135 => ?_)
  · exact absurd c_135 (fun y => absurd hj (Nat.not_lt.mpr ((le_hi hM (nI_hi (n := j) (by omega))).mp y)))
  refine g_aload_n d_Model_answerRows_138 rfl ?_
  refine w_get (k := 43) fl_Model_98 (by decide) rfl d_Model_answerRows_139 ?_
  refine g_bipush (v := 26) d_Model_answerRows_142 (by decide) ?_
  refine g_iload d_Model_answerRows_144 rfl ?_
  refine g_imul d_Model_answerRows_146 ?_
  refine g_iload d_Model_answerRows_147 rfl ?_
  refine g_iadd d_Model_answerRows_149 ?_
  refine g_iload d_Model_answerRows_150 rfl ?_
  refine g_iadd d_Model_answerRows_152 ?_
  refine g_aload_n d_Model_answerRows_153 rfl ?_
  refine g_iload_n d_Model_answerRows_154 rfl ?_
  refine g_iload d_Model_answerRows_155 rfl ?_
  refine g_iload d_Model_answerRows_157 rfl ?_
  refine c_Vr (as := [.int (pl), .int (wh), .int (nI j)]) kv_Model_inside ml_Model_213 rfl mw_f (m_W_inside (s := s) hmn (P := p) (C := tn wh) (K := j) hpl (tn_hi hw.1) (nI_hi (n := j) (by omega)) bp hw.2 (by omega) h34 b34 hT) rfl (Nat.le_of_ble_eq_true rfl) rfl d_Model_answerRows_159 rfl ?_
  refine w_ast (j := 28) (q := 26 * 41600 + k + j) hmn (by decide) (by decide) (add_hi (add_hi (m := 26 * 41600) (by decide) hk (by omega)) (nI_hi (n := j) (by omega)) (by omega)) (by show _ < 1082640; omega) d_Model_answerRows_162 ?_
  refine g_aload_n d_Model_answerRows_163 rfl ?_
  refine w_get (k := 44) fl_Model_101 (by decide) rfl d_Model_answerRows_164 ?_
  refine g_bipush (v := 26) d_Model_answerRows_167 (by decide) ?_
  refine g_iload d_Model_answerRows_169 rfl ?_
  refine g_imul d_Model_answerRows_171 ?_
  refine g_iload d_Model_answerRows_172 rfl ?_
  refine g_iadd d_Model_answerRows_174 ?_
  refine g_iload d_Model_answerRows_175 rfl ?_
  refine g_iadd d_Model_answerRows_177 ?_
  refine g_aload_n d_Model_answerRows_178 rfl ?_
  refine w_get (k := 9) fl_Model_28 (by decide) rfl d_Model_answerRows_179 ?_
  refine g_iconst (v := 4) d_Model_answerRows_182 (by decide) ?_
  refine g_iload d_Model_answerRows_183 rfl ?_
  refine g_imul d_Model_answerRows_185 ?_
  refine g_iload d_Model_answerRows_186 rfl ?_
  refine g_iadd d_Model_answerRows_188 ?_
  refine w_ald (j := 6) (q := 4 * nd + j) (x := (rIn s p (tn wh) j).2 6 (4 * nd + j)) hmn (by decide) (by decide) (add_hi (mul_hi i4 hnd (by omega)) (nI_hi (n := j) (by omega)) (by omega)) (by show _ < 2800; omega) rfl d_Model_answerRows_189 ?_
  refine w_ast (j := 29) (q := 26 * 41600 + k + j) hmn (by decide) (by decide) (add_hi (add_hi (m := 26 * 41600) (by decide) hk (by omega)) (nI_hi (n := j) (by omega)) (by omega)) (by show _ < 1082640; omega) d_Model_answerRows_190 ?_
  refine g_iinc (v := nI j + 1) d_Model_answerRows_191 rfl (by rfl) (by decide) rfl ?_
  refine g_goto (tgt := 131) d_Model_answerRows_194 (by decide) ?_
  rw [nI_1]
  exact kk
set_option maxHeartbeats 400000 in
set_option maxRecDepth 100000 in
theorem m_W_ans_q (hmn : m < n) {j M : Nat} (hM : q12.toInt = (M : Int)) (hj : ¬ j < M) (bM : M ≤ 4 ∧ j ≤ 4) (kk : GT E Y_Model_answerRows (d + 2) G0 197 [(0, .ref m), (1, .int f0), (2, .int mn), (3, .int pl), (4, .int md), (5, .int wh), (6, .int is), (7, .int fr), (8, .int 41600), (9, .int (nn)), (10, .int (q10))] [] (mW E G m n s) Q) : GT E Y_Model_answerRows (d + 2) G0 131 [(0, .ref m), (1, .int f0), (2, .int mn), (3, .int pl), (4, .int md), (5, .int wh), (6, .int is), (7, .int fr), (8, .int 41600), (9, .int (nn)), (10, .int (q10)), (11, .int (q11)), (12, .int (q12)), (13, .int (nI j))] [] (mW E G m n s) Q := by
  refine g_iload d_Model_answerRows_131 rfl ?_
  refine g_iload d_Model_answerRows_133 rfl ?_
  refine g_icmp_ge (tgt := 197) d_Model_answerRows_135 (by decide) (fun c_135 => ?_) (fun c_135 => ?_)
  rotate_left
  · exact absurd c_135 (fun y => y ((le_hi hM (nI_hi (n := j) (by omega))).mpr (by omega)))
  exact g_weak (lv := [(0, .ref (m)), (1, .int (f0)), (2, .int (mn)), (3, .int (pl)), (4, .int (md)), (5, .int (wh)), (6, .int (is)), (7, .int (fr)), (8, .int (41600)), (9, .int (nn)), (10, .int (q10)), (11, .int (q11)), (12, .int (q12)), (13, .int (nI j))]) (by simp) (by simp) (kk)
end MR
