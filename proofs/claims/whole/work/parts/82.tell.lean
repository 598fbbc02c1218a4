/-! The reference: tell, its steps; bound, boundAt -/
theorem d_Model_tell_0 : decode Y_Model_tell.2.1 0 = .ok (.aload_n 0, 1) := by decide +kernel
theorem d_Model_tell_1 : decode Y_Model_tell.2.1 1 = .ok (.iconst 0, 1) := by decide +kernel
theorem d_Model_tell_2 : decode Y_Model_tell.2.1 2 = .ok (.putfield 275, 3) := by decide +kernel
theorem d_Model_tell_5 : decode Y_Model_tell.2.1 5 = .ok (.iconst 1, 1) := by decide +kernel
theorem d_Model_tell_6 : decode Y_Model_tell.2.1 6 = .ok (.istore_n 2, 1) := by decide +kernel
theorem d_Model_tell_7 : decode Y_Model_tell.2.1 7 = .ok (.aload_n 0, 1) := by decide +kernel
theorem d_Model_tell_8 : decode Y_Model_tell.2.1 8 = .ok (.getfield 123, 3) := by decide +kernel
theorem d_Model_tell_11 : decode Y_Model_tell.2.1 11 = .ok (.iconst 0, 1) := by decide +kernel
theorem d_Model_tell_12 : decode Y_Model_tell.2.1 12 = .ok (.iload_n 1, 1) := by decide +kernel
theorem d_Model_tell_13 : decode Y_Model_tell.2.1 13 = .ok (.iastore, 1) := by decide +kernel
theorem d_Model_tell_14 : decode Y_Model_tell.2.1 14 = .ok (.iload_n 2, 1) := by decide +kernel
theorem d_Model_tell_15 : decode Y_Model_tell.2.1 15 = .ok (.ifCond .le 141, 3) := by decide +kernel
theorem d_Model_tell_18 : decode Y_Model_tell.2.1 18 = .ok (.iinc 2 (-1), 3) := by decide +kernel
theorem d_Model_tell_21 : decode Y_Model_tell.2.1 21 = .ok (.aload_n 0, 1) := by decide +kernel
theorem d_Model_tell_22 : decode Y_Model_tell.2.1 22 = .ok (.getfield 123, 3) := by decide +kernel
theorem d_Model_tell_25 : decode Y_Model_tell.2.1 25 = .ok (.iload_n 2, 1) := by decide +kernel
theorem d_Model_tell_26 : decode Y_Model_tell.2.1 26 = .ok (.iaload, 1) := by decide +kernel
theorem d_Model_tell_27 : decode Y_Model_tell.2.1 27 = .ok (.istore_n 3, 1) := by decide +kernel
theorem d_Model_tell_28 : decode Y_Model_tell.2.1 28 = .ok (.aload_n 0, 1) := by decide +kernel
theorem d_Model_tell_29 : decode Y_Model_tell.2.1 29 = .ok (.getfield 132, 3) := by decide +kernel
theorem d_Model_tell_32 : decode Y_Model_tell.2.1 32 = .ok (.aload_n 0, 1) := by decide +kernel
theorem d_Model_tell_33 : decode Y_Model_tell.2.1 33 = .ok (.getfield 275, 3) := by decide +kernel
theorem d_Model_tell_36 : decode Y_Model_tell.2.1 36 = .ok (.aload_n 0, 1) := by decide +kernel
theorem d_Model_tell_37 : decode Y_Model_tell.2.1 37 = .ok (.getfield 19, 3) := by decide +kernel
theorem d_Model_tell_40 : decode Y_Model_tell.2.1 40 = .ok (.iload_n 3, 1) := by decide +kernel
theorem d_Model_tell_41 : decode Y_Model_tell.2.1 41 = .ok (.iaload, 1) := by decide +kernel
theorem d_Model_tell_42 : decode Y_Model_tell.2.1 42 = .ok (.iconst 1, 1) := by decide +kernel
theorem d_Model_tell_43 : decode Y_Model_tell.2.1 43 = .ok (.if_icmp .ne 7, 3) := by decide +kernel
theorem d_Model_tell_46 : decode Y_Model_tell.2.1 46 = .ok (.iconst 0, 1) := by decide +kernel
theorem d_Model_tell_47 : decode Y_Model_tell.2.1 47 = .ok (.goto 4, 3) := by decide +kernel
theorem d_Model_tell_50 : decode Y_Model_tell.2.1 50 = .ok (.iconst 1, 1) := by decide +kernel
theorem d_Model_tell_51 : decode Y_Model_tell.2.1 51 = .ok (.iastore, 1) := by decide +kernel
theorem d_Model_tell_52 : decode Y_Model_tell.2.1 52 = .ok (.aload_n 0, 1) := by decide +kernel
theorem d_Model_tell_53 : decode Y_Model_tell.2.1 53 = .ok (.getfield 132, 3) := by decide +kernel
theorem d_Model_tell_56 : decode Y_Model_tell.2.1 56 = .ok (.aload_n 0, 1) := by decide +kernel
theorem d_Model_tell_57 : decode Y_Model_tell.2.1 57 = .ok (.getfield 275, 3) := by decide +kernel
theorem d_Model_tell_60 : decode Y_Model_tell.2.1 60 = .ok (.iconst 1, 1) := by decide +kernel
theorem d_Model_tell_61 : decode Y_Model_tell.2.1 61 = .ok (.iadd, 1) := by decide +kernel
theorem d_Model_tell_62 : decode Y_Model_tell.2.1 62 = .ok (.aload_n 0, 1) := by decide +kernel
theorem d_Model_tell_63 : decode Y_Model_tell.2.1 63 = .ok (.getfield 25, 3) := by decide +kernel
theorem d_Model_tell_66 : decode Y_Model_tell.2.1 66 = .ok (.iload_n 3, 1) := by decide +kernel
theorem d_Model_tell_67 : decode Y_Model_tell.2.1 67 = .ok (.iaload, 1) := by decide +kernel
theorem d_Model_tell_68 : decode Y_Model_tell.2.1 68 = .ok (.iastore, 1) := by decide +kernel
theorem d_Model_tell_69 : decode Y_Model_tell.2.1 69 = .ok (.aload_n 0, 1) := by decide +kernel
theorem d_Model_tell_70 : decode Y_Model_tell.2.1 70 = .ok (.dup, 1) := by decide +kernel
theorem d_Model_tell_71 : decode Y_Model_tell.2.1 71 = .ok (.getfield 275, 3) := by decide +kernel
theorem d_Model_tell_74 : decode Y_Model_tell.2.1 74 = .ok (.iconst 2, 1) := by decide +kernel
theorem d_Model_tell_75 : decode Y_Model_tell.2.1 75 = .ok (.iadd, 1) := by decide +kernel
theorem d_Model_tell_76 : decode Y_Model_tell.2.1 76 = .ok (.putfield 275, 3) := by decide +kernel
theorem d_Model_tell_79 : decode Y_Model_tell.2.1 79 = .ok (.aload_n 0, 1) := by decide +kernel
theorem d_Model_tell_80 : decode Y_Model_tell.2.1 80 = .ok (.getfield 19, 3) := by decide +kernel
theorem d_Model_tell_83 : decode Y_Model_tell.2.1 83 = .ok (.iload_n 3, 1) := by decide +kernel
theorem d_Model_tell_84 : decode Y_Model_tell.2.1 84 = .ok (.iaload, 1) := by decide +kernel
theorem d_Model_tell_85 : decode Y_Model_tell.2.1 85 = .ok (.iconst 2, 1) := by decide +kernel
theorem d_Model_tell_86 : decode Y_Model_tell.2.1 86 = .ok (.if_icmp .ne 27, 3) := by decide +kernel
theorem d_Model_tell_89 : decode Y_Model_tell.2.1 89 = .ok (.aload_n 0, 1) := by decide +kernel
theorem d_Model_tell_90 : decode Y_Model_tell.2.1 90 = .ok (.getfield 13, 3) := by decide +kernel
theorem d_Model_tell_93 : decode Y_Model_tell.2.1 93 = .ok (.bipush 8, 2) := by decide +kernel
theorem d_Model_tell_95 : decode Y_Model_tell.2.1 95 = .ok (.aload_n 0, 1) := by decide +kernel
theorem d_Model_tell_96 : decode Y_Model_tell.2.1 96 = .ok (.getfield 22, 3) := by decide +kernel
theorem d_Model_tell_99 : decode Y_Model_tell.2.1 99 = .ok (.iload_n 3, 1) := by decide +kernel
theorem d_Model_tell_100 : decode Y_Model_tell.2.1 100 = .ok (.iaload, 1) := by decide +kernel
theorem d_Model_tell_101 : decode Y_Model_tell.2.1 101 = .ok (.imul, 1) := by decide +kernel
theorem d_Model_tell_102 : decode Y_Model_tell.2.1 102 = .ok (.aload_n 0, 1) := by decide +kernel
theorem d_Model_tell_103 : decode Y_Model_tell.2.1 103 = .ok (.getfield 25, 3) := by decide +kernel
theorem d_Model_tell_106 : decode Y_Model_tell.2.1 106 = .ok (.iload_n 3, 1) := by decide +kernel
theorem d_Model_tell_107 : decode Y_Model_tell.2.1 107 = .ok (.iaload, 1) := by decide +kernel
theorem d_Model_tell_108 : decode Y_Model_tell.2.1 108 = .ok (.iadd, 1) := by decide +kernel
theorem d_Model_tell_109 : decode Y_Model_tell.2.1 109 = .ok (.iaload, 1) := by decide +kernel
theorem d_Model_tell_110 : decode Y_Model_tell.2.1 110 = .ok (.goto 4, 3) := by decide +kernel
theorem d_Model_tell_113 : decode Y_Model_tell.2.1 113 = .ok (.iconst 0, 1) := by decide +kernel
theorem d_Model_tell_114 : decode Y_Model_tell.2.1 114 = .ok (.istore 4, 2) := by decide +kernel
theorem d_Model_tell_116 : decode Y_Model_tell.2.1 116 = .ok (.iload 4, 2) := by decide +kernel
theorem d_Model_tell_118 : decode Y_Model_tell.2.1 118 = .ok (.iconst 1, 1) := by decide +kernel
theorem d_Model_tell_119 : decode Y_Model_tell.2.1 119 = .ok (.isub, 1) := by decide +kernel
theorem d_Model_tell_120 : decode Y_Model_tell.2.1 120 = .ok (.istore 5, 2) := by decide +kernel
theorem d_Model_tell_122 : decode Y_Model_tell.2.1 122 = .ok (.iload 5, 2) := by decide +kernel
theorem d_Model_tell_124 : decode Y_Model_tell.2.1 124 = .ok (.ifCond .lt 29, 3) := by decide +kernel
theorem d_Model_tell_127 : decode Y_Model_tell.2.1 127 = .ok (.aload_n 0, 1) := by decide +kernel
theorem d_Model_tell_128 : decode Y_Model_tell.2.1 128 = .ok (.getfield 123, 3) := by decide +kernel
theorem d_Model_tell_131 : decode Y_Model_tell.2.1 131 = .ok (.iload_n 2, 1) := by decide +kernel
theorem d_Model_tell_132 : decode Y_Model_tell.2.1 132 = .ok (.aload_n 0, 1) := by decide +kernel
theorem d_Model_tell_133 : decode Y_Model_tell.2.1 133 = .ok (.getfield 28, 3) := by decide +kernel
theorem d_Model_tell_136 : decode Y_Model_tell.2.1 136 = .ok (.iconst 4, 1) := by decide +kernel
theorem d_Model_tell_137 : decode Y_Model_tell.2.1 137 = .ok (.iload_n 3, 1) := by decide +kernel
theorem d_Model_tell_138 : decode Y_Model_tell.2.1 138 = .ok (.imul, 1) := by decide +kernel
theorem d_Model_tell_139 : decode Y_Model_tell.2.1 139 = .ok (.iload 5, 2) := by decide +kernel
theorem d_Model_tell_141 : decode Y_Model_tell.2.1 141 = .ok (.iadd, 1) := by decide +kernel
theorem d_Model_tell_142 : decode Y_Model_tell.2.1 142 = .ok (.iaload, 1) := by decide +kernel
theorem d_Model_tell_143 : decode Y_Model_tell.2.1 143 = .ok (.iastore, 1) := by decide +kernel
theorem d_Model_tell_144 : decode Y_Model_tell.2.1 144 = .ok (.iinc 2 1, 3) := by decide +kernel
theorem d_Model_tell_147 : decode Y_Model_tell.2.1 147 = .ok (.iinc 5 (-1), 3) := by decide +kernel
theorem d_Model_tell_150 : decode Y_Model_tell.2.1 150 = .ok (.goto (-28), 3) := by decide +kernel
theorem d_Model_tell_153 : decode Y_Model_tell.2.1 153 = .ok (.goto (-139), 3) := by decide +kernel
theorem d_Model_tell_156 : decode Y_Model_tell.2.1 156 = .ok (.return_, 1) := by decide +kernel
section MX
variable {E : gE} {d : Nat} {G G0 : gS} {m n : Nat} {s : mS} {Q : gO → gS → Prop}
/-- a pair is told -/
def rTp (s : mS) (c : Nat) (x y : Int32) : mS := wF (wA (wA s 39 c x) 39 (c + 1) y) 58 (s.1 58 + 2)
set_option maxHeartbeats 400000 in
set_option maxRecDepth 100000 in
theorem m_W_tl_i (hmn : m < n) {q1 : Int32} (kk : GT E Y_Model_tell d (mW E G m n s) 14 [(0, .ref m), (1, .int q1), (2, .int (1))] [] (mW E G m n (wA (wF s 58 0) 36 0 q1)) Q) : GM E Y_Model_tell d [.ref m, .int q1] (mW E G m n s) Q := by
  refine g_entry (by decide) (by simp [Value.category]) (Nat.le_of_ble_eq_true rfl) ?_
  refine g_aload_n d_Model_tell_0 rfl ?_
  refine g_iconst (v := 0) d_Model_tell_1 (by decide) ?_
  refine w_put (k := 58) fl_Model_275 (by decide) rfl rfl rfl rfl (Nat.le_of_ble_eq_true rfl) d_Model_tell_2 ?_
  refine g_iconst (v := 1) d_Model_tell_5 (by decide) ?_
  refine g_istore_n d_Model_tell_6 (by decide) rfl ?_
  refine g_aload_n d_Model_tell_7 rfl ?_
  refine w_get (k := 53) fl_Model_123 (by decide) rfl d_Model_tell_8 ?_
  refine g_iconst (v := 0) d_Model_tell_11 (by decide) ?_
  refine g_iload_n d_Model_tell_12 rfl ?_
  refine w_ast (j := 36) (q := 0) hmn (by decide) (by decide) (by decide) (by decide) d_Model_tell_13 ?_
  exact kk
set_option maxHeartbeats 400000 in
set_option maxRecDepth 100000 in
theorem m_W_tl_e (hmn : m < n) {q1 x : Int32} (hx : x ≤ 0) (kk : Q (.inl none) (mW E G m n s)) : GT E Y_Model_tell d G0 14 [(0, .ref m), (1, .int q1), (2, .int (x))] [] (mW E G m n s) Q := by
  refine g_iload_n d_Model_tell_14 rfl ?_
  refine g_if_le (tgt := 156) d_Model_tell_15 (by decide) (fun c_15 => ?_) (fun c_15 => ?_)
  rotate_left
  · exact absurd c_15 (fun y => y hx)
  refine g_vret rfl d_Model_tell_156 ?_
  exact kk
set_option maxHeartbeats 400000 in
set_option maxRecDepth 100000 in
theorem m_W_tl_1 (hmn : m < n) {q1 : Int32} {M c v : Nat} (bM : M < 2400) (h36 : s.2 36 M = nI v) (bv : v < 700) (h58 : s.1 58 = nI c) (bc : c + 1 < 130) (hk : s.2 3 v = 1) (kk : GT E Y_Model_tell d G0 14 [(0, .ref m), (1, .int q1), (2, .int (nI M))] [] (mW E G m n (rTp s c 0 (s.2 5 v))) Q) : GT E Y_Model_tell d G0 14 [(0, .ref m), (1, .int q1), (2, .int (nI (M + 1)))] [] (mW E G m n s) Q := by
  refine g_iload_n d_Model_tell_14 rfl ?_
  refine g_if_le (tgt := 156) d_Model_tell_15 (by decide) (fun c_15 => ?_) (fun c_15 => ?_)
  · exact absurd c_15 (fun y => absurd ((le_hi (nI_hi (n := M + 1) (by omega)) (show (0 : Int32).toInt = ((0 : Nat) : Int) by decide)).mp y) (by omega))
  refine g_iinc (v := nI (M + 1) + (-1)) d_Model_tell_18 rfl (by rfl) (by decide) rfl ?_
  refine g_aload_n d_Model_tell_21 rfl ?_
  refine w_get (k := 53) fl_Model_123 (by decide) rfl d_Model_tell_22 ?_
  refine g_iload_n d_Model_tell_25 rfl ?_
  refine w_ald (j := 36) (q := M) (x := nI v) hmn (by decide) (by decide) (by rw [nI_m1 (by omega) (by omega)]; exact nI_hi (by omega)) (by show _ < 2400; omega) h36 d_Model_tell_26 ?_
  refine g_istore_n d_Model_tell_27 (by decide) rfl ?_
  refine g_aload_n d_Model_tell_28 rfl ?_
  refine w_get (k := 57) fl_Model_132 (by decide) rfl d_Model_tell_29 ?_
  refine g_aload_n d_Model_tell_32 rfl ?_
  refine w_get (k := 58) (x := .int (s.1 58)) fl_Model_275 (by decide) rfl d_Model_tell_33 ?_
  refine g_aload_n d_Model_tell_36 rfl ?_
  refine w_get (k := 6) fl_Model_19 (by decide) rfl d_Model_tell_37 ?_
  refine g_iload_n d_Model_tell_40 rfl ?_
  refine w_ald (j := 3) (q := v) (x := s.2 3 v) hmn (by decide) (by decide) (nI_hi (by omega)) (by show _ < 700; omega) rfl d_Model_tell_41 ?_
  refine g_iconst (v := 1) d_Model_tell_42 (by decide) ?_
  refine g_icmp_ne (tgt := 50) d_Model_tell_43 (by decide) (fun c_43 => ?_) (fun c_43 => ?_)
  · exact absurd c_43 (fun y => y hk)
  refine g_iconst (v := 0) d_Model_tell_46 (by decide) ?_
  refine g_goto (tgt := 51) d_Model_tell_47 (by decide) ?_
  refine w_ast (j := 39) (q := c) hmn (by decide) (by decide) (by rw [h58]; exact nI_hi (by omega)) (by show _ < 130; omega) d_Model_tell_51 ?_
  refine g_aload_n d_Model_tell_52 rfl ?_
  refine w_get (k := 57) fl_Model_132 (by decide) rfl d_Model_tell_53 ?_
  refine g_aload_n d_Model_tell_56 rfl ?_
  refine w_get (k := 58) (x := .int (s.1 58)) fl_Model_275 (by decide) rfl d_Model_tell_57 ?_
  refine g_iconst (v := 1) d_Model_tell_60 (by decide) ?_
  refine g_iadd d_Model_tell_61 ?_
  refine g_aload_n d_Model_tell_62 rfl ?_
  refine w_get (k := 8) fl_Model_25 (by decide) rfl d_Model_tell_63 ?_
  refine g_iload_n d_Model_tell_66 rfl ?_
  refine w_ald (j := 5) (q := v) (x := s.2 5 v) hmn (by decide) (by decide) (nI_hi (by omega)) (by show _ < 700; omega) rfl d_Model_tell_67 ?_
  refine w_ast (j := 39) (q := c + 1) hmn (by decide) (by decide) (add_hi (by rw [h58]; exact nI_hi (n := c) (by omega)) i1 (by omega)) (by show _ < 130; omega) d_Model_tell_68 ?_
  refine g_aload_n d_Model_tell_69 rfl ?_
  refine g_dup d_Model_tell_70 rfl ?_
  refine w_get (k := 58) (x := .int (s.1 58)) fl_Model_275 (by decide) rfl d_Model_tell_71 ?_
  refine g_iconst (v := 2) d_Model_tell_74 (by decide) ?_
  refine g_iadd d_Model_tell_75 ?_
  refine w_put (k := 58) fl_Model_275 (by decide) rfl rfl rfl rfl (Nat.le_of_ble_eq_true rfl) d_Model_tell_76 ?_
  refine g_aload_n d_Model_tell_79 rfl ?_
  refine w_get (k := 6) fl_Model_19 (by decide) rfl d_Model_tell_80 ?_
  refine g_iload_n d_Model_tell_83 rfl ?_
  refine w_ald (j := 3) (q := v) (x := s.2 3 v) hmn (by decide) (by decide) (nI_hi (by omega)) (by show _ < 700; omega) rfl d_Model_tell_84 ?_
  refine g_iconst (v := 2) d_Model_tell_85 (by decide) ?_
  refine g_icmp_ne (tgt := 113) d_Model_tell_86 (by decide) (fun c_86 => ?_) (fun c_86 => ?_)
  rotate_left
  · exact absurd c_86 (fun y => absurd (hk.symm.trans y) (by decide))
  refine g_iconst (v := 0) d_Model_tell_113 (by decide) ?_
  refine g_istore d_Model_tell_114 (by decide) rfl ?_
  refine g_iload d_Model_tell_116 rfl ?_
  refine g_iconst (v := 1) d_Model_tell_118 (by decide) ?_
  refine g_isub d_Model_tell_119 ?_
  refine g_istore d_Model_tell_120 (by decide) rfl ?_
  refine g_iload d_Model_tell_122 rfl ?_
  refine g_if_lt (tgt := 153) d_Model_tell_124 (by decide) (fun c_124 => ?_) (fun c_124 => ?_)
  rotate_left
  · exact absurd c_124 (fun y => y (by decide))
  refine g_goto (tgt := 14) d_Model_tell_153 (by decide) ?_
  rw [nI_m1 (by omega) (by omega)]
  exact g_weak (lv := [(0, .ref (m)), (1, .int (q1)), (2, .int (nI M)), (3, .int (nI v)), (4, .int (0)), (5, .int ((0) - (1)))]) (by simp) (by simp) (kk)
set_option maxHeartbeats 400000 in
set_option maxRecDepth 100000 in
theorem m_W_tl_2 (hmn : m < n) {q1 : Int32} {M c v : Nat} (bM : M < 2400) (h36 : s.2 36 M = nI v) (bv : v < 700) (h58 : s.1 58 = nI c) (bc : c + 1 < 130) {t w a : Nat} (hk : s.2 3 v = 2) (h4 : s.2 4 v = nI t) (bt : t < 16) (h5 : s.2 5 v = nI w) (bw : w < 8) (h1 : s.2 1 (8 * t + w) = nI a) (kk : GT E Y_Model_tell d G0 122 [(0, .ref m), (1, .int q1), (2, .int (nI M)), (3, .int (nI v)), (4, .int (nI a)), (5, .int (nI a - 1))] [] (mW E G m n (rTp s c 1 (nI w))) Q) : GT E Y_Model_tell d G0 14 [(0, .ref m), (1, .int q1), (2, .int (nI (M + 1)))] [] (mW E G m n s) Q := by
  refine g_iload_n d_Model_tell_14 rfl ?_
  refine g_if_le (tgt := 156) d_Model_tell_15 (by decide) (fun c_15 => ?_) (fun c_15 => ?_)
  · exact absurd c_15 (fun y => absurd ((le_hi (nI_hi (n := M + 1) (by omega)) (show (0 : Int32).toInt = ((0 : Nat) : Int) by decide)).mp y) (by omega))
  refine g_iinc (v := nI (M + 1) + (-1)) d_Model_tell_18 rfl (by rfl) (by decide) rfl ?_
  refine g_aload_n d_Model_tell_21 rfl ?_
  refine w_get (k := 53) fl_Model_123 (by decide) rfl d_Model_tell_22 ?_
  refine g_iload_n d_Model_tell_25 rfl ?_
  refine w_ald (j := 36) (q := M) (x := nI v) hmn (by decide) (by decide) (by rw [nI_m1 (by omega) (by omega)]; exact nI_hi (by omega)) (by show _ < 2400; omega) h36 d_Model_tell_26 ?_
  refine g_istore_n d_Model_tell_27 (by decide) rfl ?_
  refine g_aload_n d_Model_tell_28 rfl ?_
  refine w_get (k := 57) fl_Model_132 (by decide) rfl d_Model_tell_29 ?_
  refine g_aload_n d_Model_tell_32 rfl ?_
  refine w_get (k := 58) (x := .int (s.1 58)) fl_Model_275 (by decide) rfl d_Model_tell_33 ?_
  refine g_aload_n d_Model_tell_36 rfl ?_
  refine w_get (k := 6) fl_Model_19 (by decide) rfl d_Model_tell_37 ?_
  refine g_iload_n d_Model_tell_40 rfl ?_
  refine w_ald (j := 3) (q := v) (x := s.2 3 v) hmn (by decide) (by decide) (nI_hi (by omega)) (by show _ < 700; omega) rfl d_Model_tell_41 ?_
  refine g_iconst (v := 1) d_Model_tell_42 (by decide) ?_
  refine g_icmp_ne (tgt := 50) d_Model_tell_43 (by decide) (fun c_43 => ?_) (fun c_43 => ?_)
  rotate_left
  · exact absurd c_43 (fun y => absurd (hk.symm.trans y) (by decide))
  refine g_iconst (v := 1) d_Model_tell_50 (by decide) ?_
  refine w_ast (j := 39) (q := c) hmn (by decide) (by decide) (by rw [h58]; exact nI_hi (by omega)) (by show _ < 130; omega) d_Model_tell_51 ?_
  refine g_aload_n d_Model_tell_52 rfl ?_
  refine w_get (k := 57) fl_Model_132 (by decide) rfl d_Model_tell_53 ?_
  refine g_aload_n d_Model_tell_56 rfl ?_
  refine w_get (k := 58) (x := .int (s.1 58)) fl_Model_275 (by decide) rfl d_Model_tell_57 ?_
  refine g_iconst (v := 1) d_Model_tell_60 (by decide) ?_
  refine g_iadd d_Model_tell_61 ?_
  refine g_aload_n d_Model_tell_62 rfl ?_
  refine w_get (k := 8) fl_Model_25 (by decide) rfl d_Model_tell_63 ?_
  refine g_iload_n d_Model_tell_66 rfl ?_
  refine w_ald (j := 5) (q := v) (x := nI w) hmn (by decide) (by decide) (nI_hi (by omega)) (by show _ < 700; omega) h5 d_Model_tell_67 ?_
  refine w_ast (j := 39) (q := c + 1) hmn (by decide) (by decide) (add_hi (by rw [h58]; exact nI_hi (n := c) (by omega)) i1 (by omega)) (by show _ < 130; omega) d_Model_tell_68 ?_
  refine g_aload_n d_Model_tell_69 rfl ?_
  refine g_dup d_Model_tell_70 rfl ?_
  refine w_get (k := 58) (x := .int (s.1 58)) fl_Model_275 (by decide) rfl d_Model_tell_71 ?_
  refine g_iconst (v := 2) d_Model_tell_74 (by decide) ?_
  refine g_iadd d_Model_tell_75 ?_
  refine w_put (k := 58) fl_Model_275 (by decide) rfl rfl rfl rfl (Nat.le_of_ble_eq_true rfl) d_Model_tell_76 ?_
  refine g_aload_n d_Model_tell_79 rfl ?_
  refine w_get (k := 6) fl_Model_19 (by decide) rfl d_Model_tell_80 ?_
  refine g_iload_n d_Model_tell_83 rfl ?_
  refine w_ald (j := 3) (q := v) (x := s.2 3 v) hmn (by decide) (by decide) (nI_hi (by omega)) (by show _ < 700; omega) rfl d_Model_tell_84 ?_
  refine g_iconst (v := 2) d_Model_tell_85 (by decide) ?_
  refine g_icmp_ne (tgt := 113) d_Model_tell_86 (by decide) (fun c_86 => ?_) (fun c_86 => ?_)
  · exact absurd c_86 (fun y => y hk)
  refine g_aload_n d_Model_tell_89 rfl ?_
  refine w_get (k := 2) fl_Model_13 (by decide) rfl d_Model_tell_90 ?_
  refine g_bipush (v := 8) d_Model_tell_93 (by decide) ?_
  refine g_aload_n d_Model_tell_95 rfl ?_
  refine w_get (k := 7) fl_Model_22 (by decide) rfl d_Model_tell_96 ?_
  refine g_iload_n d_Model_tell_99 rfl ?_
  refine w_ald (j := 4) (q := v) (x := nI t) hmn (by decide) (by decide) (nI_hi (by omega)) (by show _ < 700; omega) h4 d_Model_tell_100 ?_
  refine g_imul d_Model_tell_101 ?_
  refine g_aload_n d_Model_tell_102 rfl ?_
  refine w_get (k := 8) fl_Model_25 (by decide) rfl d_Model_tell_103 ?_
  refine g_iload_n d_Model_tell_106 rfl ?_
  refine w_ald (j := 5) (q := v) (x := nI w) hmn (by decide) (by decide) (nI_hi (by omega)) (by show _ < 700; omega) h5 d_Model_tell_107 ?_
  refine g_iadd d_Model_tell_108 ?_
  refine w_ald (j := 1) (q := 8 * t + w) (x := nI a) hmn (by decide) (by decide) (add_hi (mul_hi i8 (nI_hi (n := t) (by omega)) (by omega)) (nI_hi (n := w) (by omega)) (by omega)) (by show _ < 128; omega) h1 d_Model_tell_109 ?_
  refine g_goto (tgt := 114) d_Model_tell_110 (by decide) ?_
  refine g_istore d_Model_tell_114 (by decide) rfl ?_
  refine g_iload d_Model_tell_116 rfl ?_
  refine g_iconst (v := 1) d_Model_tell_118 (by decide) ?_
  refine g_isub d_Model_tell_119 ?_
  refine g_istore d_Model_tell_120 (by decide) rfl ?_
  rw [nI_m1 (by omega) (by omega)]
  exact kk
set_option maxHeartbeats 400000 in
set_option maxRecDepth 100000 in
theorem m_W_tl_s (hmn : m < n) {q1 q4 : Int32} {M v k : Nat} (bM : M < 2400) (bk : k < 4) (bv : v < 700) (kk : GT E Y_Model_tell d G0 122 [(0, .ref m), (1, .int q1), (2, .int (nI (M + 1))), (3, .int (nI v)), (4, .int q4), (5, .int (nI k + (-1)))] [] (mW E G m n (wA s 36 M (s.2 6 (4 * v + k)))) Q) : GT E Y_Model_tell d G0 122 [(0, .ref m), (1, .int q1), (2, .int (nI M)), (3, .int (nI v)), (4, .int q4), (5, .int (nI k))] [] (mW E G m n s) Q := by
  refine g_iload d_Model_tell_122 rfl ?_
  refine g_if_lt (tgt := 153) d_Model_tell_124 (by decide) (fun c_124 => ?_) (fun c_124 => ?_)
  · exact absurd c_124 (fun y => absurd y (nI_pos (by omega)))
  refine g_aload_n d_Model_tell_127 rfl ?_
  refine w_get (k := 53) fl_Model_123 (by decide) rfl d_Model_tell_128 ?_
  refine g_iload_n d_Model_tell_131 rfl ?_
  refine g_aload_n d_Model_tell_132 rfl ?_
  refine w_get (k := 9) fl_Model_28 (by decide) rfl d_Model_tell_133 ?_
  refine g_iconst (v := 4) d_Model_tell_136 (by decide) ?_
  refine g_iload_n d_Model_tell_137 rfl ?_
  refine g_imul d_Model_tell_138 ?_
  refine g_iload d_Model_tell_139 rfl ?_
  refine g_iadd d_Model_tell_141 ?_
  refine w_ald (j := 6) (q := 4 * v + k) (x := s.2 6 (4 * v + k)) hmn (by decide) (by decide) (add_hi (mul_hi i4 (nI_hi (n := v) (by omega)) (by omega)) (nI_hi (n := k) (by omega)) (by omega)) (by show _ < 2800; omega) rfl d_Model_tell_142 ?_
  refine w_ast (j := 36) (q := M) hmn (by decide) (by decide) (nI_hi (by omega)) (by show _ < 2400; omega) d_Model_tell_143 ?_
  refine g_iinc (v := nI M + 1) d_Model_tell_144 rfl (by rfl) (by decide) rfl ?_
  refine g_iinc (v := nI k + (-1)) d_Model_tell_147 rfl (by rfl) (by decide) rfl ?_
  refine g_goto (tgt := 122) d_Model_tell_150 (by decide) ?_
  rw [nI_1]
  exact kk
set_option maxHeartbeats 400000 in
set_option maxRecDepth 100000 in
theorem m_W_tl_t (hmn : m < n) {q1 x q3 q4 q5 : Int32} (h : q5 < 0) (kk : GT E Y_Model_tell d G0 14 [(0, .ref m), (1, .int q1), (2, .int (x))] [] (mW E G m n s) Q) : GT E Y_Model_tell d G0 122 [(0, .ref m), (1, .int q1), (2, .int x), (3, .int q3), (4, .int q4), (5, .int q5)] [] (mW E G m n s) Q := by
  refine g_iload d_Model_tell_122 rfl ?_
  refine g_if_lt (tgt := 153) d_Model_tell_124 (by decide) (fun c_124 => ?_) (fun c_124 => ?_)
  rotate_left
  · exact absurd c_124 (fun y => y h)
  refine g_goto (tgt := 14) d_Model_tell_153 (by decide) ?_
  exact g_weak (lv := [(0, .ref (m)), (1, .int (q1)), (2, .int (x)), (3, .int (q3)), (4, .int (q4)), (5, .int (q5))]) (by simp) (by simp) (kk)
set_option maxHeartbeats 400000 in
set_option maxRecDepth 100000 in
theorem m_W_bound_c (hmn : m < n) {k v : Nat} (bk : k < 8) (h38 : s.2 38 k = nI v) (bv : v < 700) (kk : GT E Y_Model_bound (d + 1) (mW E G m n s) 41 [(0, .ref m), (1, .int (nI k))] [.int (nI v), .ref m] (mW E G m n (wF s 0 0)) Q) : GM E Y_Model_bound (d + 1) [.ref m, .int (nI k)] (mW E G m n s) Q := by
  refine g_entry (by decide) (by simp [Value.category]) (Nat.le_of_ble_eq_true rfl) ?_
  refine g_aload_n d_Model_bound_0 rfl ?_
  refine g_iload_n d_Model_bound_1 rfl ?_
  refine g_if_lt (tgt := 11) d_Model_bound_2 (by decide) (fun c_2 => ?_) (fun c_2 => ?_)
  · exact absurd c_2 (fun y => absurd y (nI_pos (by omega)))
  refine g_iload_n d_Model_bound_5 rfl ?_
  refine g_bipush (v := 7) d_Model_bound_6 (by decide) ?_
  refine g_icmp_le (tgt := 15) d_Model_bound_8 (by decide) (fun c_8 => ?_) (fun c_8 => ?_)
  rotate_left
  · exact absurd c_8 (fun y => y ((le_hi (nI_hi (n := k) (by omega)) (show (7 : Int32).toInt = ((7 : Nat) : Int) by decide)).mpr (by omega)))
  refine g_iconst (v := 0) d_Model_bound_15 (by decide) ?_
  refine c_Vr (as := [.int (0)]) kv_Model_refuses ml_Model_153 rfl mw_f (m_W_refuses0 (s := s) hmn) rfl (Nat.le_of_ble_eq_true rfl) rfl d_Model_bound_16 rfl ?_
  refine g_if_ne (tgt := 32) d_Model_bound_19 (by decide) (fun c_19 => absurd c_19 (by decide)) (fun c_19 => ?_)
  refine g_aload_n d_Model_bound_22 rfl ?_
  refine w_get (k := 56) fl_Model_129 (by decide) rfl d_Model_bound_23 ?_
  refine g_iload_n d_Model_bound_26 rfl ?_
  refine w_ald (j := 38) (q := k) (x := nI v) hmn (by decide) (by decide) (nI_hi (by omega)) (by show _ < 8; omega) h38 d_Model_bound_27 ?_
  refine g_iconst (v := (-1)) d_Model_bound_28 (by decide) ?_
  refine g_icmp_ne (tgt := 34) d_Model_bound_29 (by decide) (fun c_29 => ?_) (fun c_29 => ?_)
  rotate_left
  · exact absurd c_29 (nI_ne1 (by omega))
  refine g_aload_n d_Model_bound_34 rfl ?_
  refine g_aload_n d_Model_bound_35 rfl ?_
  refine w_get (k := 56) fl_Model_129 (by decide) rfl d_Model_bound_36 ?_
  refine g_iload_n d_Model_bound_39 rfl ?_
  refine w_ald (j := 38) (q := k) (x := nI v) hmn (by decide) (by decide) (nI_hi (by omega)) (by show _ < 8; omega) h38 d_Model_bound_40 ?_
  exact kk
set_option maxHeartbeats 400000 in
set_option maxRecDepth 100000 in
theorem m_W_boundAt_c (hmn : m < n) {k v : Nat} (y : Int32) (bk : k < 8) (h38 : s.2 38 k = nI v) (bv : v < 700) (kk : GT E Y_Model_boundAt (d + 1) (mW E G m n s) 43 [(0, .ref m), (1, .int (nI k)), (2, .int y)] [.int (nI v), .ref m] (mW E G m n (wF s 0 0)) Q) : GM E Y_Model_boundAt (d + 1) [.ref m, .int (nI k), .int y] (mW E G m n s) Q := by
  refine g_entry (by decide) (by simp [Value.category]) (Nat.le_of_ble_eq_true rfl) ?_
  refine g_aload_n d_Model_boundAt_0 rfl ?_
  refine g_iload_n d_Model_boundAt_1 rfl ?_
  refine g_if_lt (tgt := 11) d_Model_boundAt_2 (by decide) (fun c_2 => ?_) (fun c_2 => ?_)
  · exact absurd c_2 (fun y => absurd y (nI_pos (by omega)))
  refine g_iload_n d_Model_boundAt_5 rfl ?_
  refine g_bipush (v := 7) d_Model_boundAt_6 (by decide) ?_
  refine g_icmp_le (tgt := 15) d_Model_boundAt_8 (by decide) (fun c_8 => ?_) (fun c_8 => ?_)
  rotate_left
  · exact absurd c_8 (fun y => y ((le_hi (nI_hi (n := k) (by omega)) (show (7 : Int32).toInt = ((7 : Nat) : Int) by decide)).mpr (by omega)))
  refine g_iconst (v := 0) d_Model_boundAt_15 (by decide) ?_
  refine c_Vr (as := [.int (0)]) kv_Model_refuses ml_Model_153 rfl mw_f (m_W_refuses0 (s := s) hmn) rfl (Nat.le_of_ble_eq_true rfl) rfl d_Model_boundAt_16 rfl ?_
  refine g_if_eq (tgt := 24) d_Model_boundAt_19 (by decide) (fun c_19 => ?_) (fun c_19 => absurd c_19 (by decide))
  refine g_aload_n d_Model_boundAt_24 rfl ?_
  refine w_get (k := 56) fl_Model_129 (by decide) rfl d_Model_boundAt_25 ?_
  refine g_iload_n d_Model_boundAt_28 rfl ?_
  refine w_ald (j := 38) (q := k) (x := nI v) hmn (by decide) (by decide) (nI_hi (by omega)) (by show _ < 8; omega) h38 d_Model_boundAt_29 ?_
  refine g_iconst (v := (-1)) d_Model_boundAt_30 (by decide) ?_
  refine g_icmp_ne (tgt := 36) d_Model_boundAt_31 (by decide) (fun c_31 => ?_) (fun c_31 => ?_)
  rotate_left
  · exact absurd c_31 (nI_ne1 (by omega))
  refine g_aload_n d_Model_boundAt_36 rfl ?_
  refine g_aload_n d_Model_boundAt_37 rfl ?_
  refine w_get (k := 56) fl_Model_129 (by decide) rfl d_Model_boundAt_38 ?_
  refine g_iload_n d_Model_boundAt_41 rfl ?_
  refine w_ald (j := 38) (q := k) (x := nI v) hmn (by decide) (by decide) (nI_hi (by omega)) (by show _ < 8; omega) h38 d_Model_boundAt_42 ?_
  exact kk
end MX
