/-! The reference: match, its steps -/
section MZ
variable {E : gE} {d : Nat} {G G0 : gS} {m n : Nat} {s : mS} {Q : gO → gS → Prop}

set_option maxHeartbeats 400000 in
set_option maxRecDepth 100000 in
theorem m_W_match_n2 (hmn : m < n) (h : s.1 15 ≤ 0) (x : Int32) : GM E Y_Model_match (d + 1) [.ref m, .int x] (mW E G m n s) (rIs (some (.int 0)) (mW E G m n (wF s 0 1))) := by
  refine g_entry (by decide) (by simp [Value.category]) (Nat.le_of_ble_eq_true rfl) ?_
  refine g_aload_n d_Model_match_0 rfl ?_
  refine w_get (k := 19) (x := .int (s.1 19)) fl_Model_184 (by decide) rfl d_Model_match_1 ?_
  refine g_if_eq (tgt := 48) d_Model_match_4 (by decide) (fun c_4 => ?_) (fun c_4 => ?_)
  · refine g_iconst (v := 0) d_Model_match_48 (by decide) ?_
    refine g_istore_n d_Model_match_49 (by decide) rfl ?_
    refine g_aload_n d_Model_match_50 rfl ?_
    refine g_iload_n d_Model_match_51 rfl ?_
    refine g_if_eq (tgt := 59) d_Model_match_52 (by decide) (fun c_52 => ?_) (fun c_52 => absurd c_52 (by decide))
    refine g_iconst (v := 1) d_Model_match_59 (by decide) ?_
    refine c_Vr (as := [.int (1)]) kv_Model_refuses ml_Model_153 rfl mw_f (m_W_refuses1 (s := s) hmn) rfl (Nat.le_of_ble_eq_true rfl) rfl d_Model_match_60 rfl ?_
    refine g_if_eq (tgt := 68) d_Model_match_63 (by decide) (fun c_63 => absurd c_63 (by decide)) (fun c_63 => ?_)
    refine g_iconst (v := 0) d_Model_match_66 (by decide) ?_
    refine g_iret rfl d_Model_match_67 ?_
    exact ⟨rfl, rfl⟩
  · refine g_aload_n d_Model_match_7 rfl ?_
    refine w_get (k := 15) (x := .int (s.1 15)) fl_Model_163 (by decide) rfl d_Model_match_8 ?_
    refine g_if_le (tgt := 48) d_Model_match_11 (by decide) (fun c_11 => ?_) (fun c_11 => ?_)
    rotate_left
    · exact absurd c_11 (fun e => e h)
    refine g_iconst (v := 0) d_Model_match_48 (by decide) ?_
    refine g_istore_n d_Model_match_49 (by decide) rfl ?_
    refine g_aload_n d_Model_match_50 rfl ?_
    refine g_iload_n d_Model_match_51 rfl ?_
    refine g_if_eq (tgt := 59) d_Model_match_52 (by decide) (fun c_52 => ?_) (fun c_52 => absurd c_52 (by decide))
    refine g_iconst (v := 1) d_Model_match_59 (by decide) ?_
    refine c_Vr (as := [.int (1)]) kv_Model_refuses ml_Model_153 rfl mw_f (m_W_refuses1 (s := s) hmn) rfl (Nat.le_of_ble_eq_true rfl) rfl d_Model_match_60 rfl ?_
    refine g_if_eq (tgt := 68) d_Model_match_63 (by decide) (fun c_63 => absurd c_63 (by decide)) (fun c_63 => ?_)
    refine g_iconst (v := 0) d_Model_match_66 (by decide) ?_
    refine g_iret rfl d_Model_match_67 ?_
    exact ⟨rfl, rfl⟩
set_option maxHeartbeats 400000 in
set_option maxRecDepth 100000 in
theorem m_W_match_n3 (hmn : m < n) {c v w : Nat} (h15 : s.1 15 = nI (c + 1)) (bc : c < 40) (h10 : s.2 10 c = nI v) (bv : v < 700) (h11 : s.2 11 0 = nI w) (bw : w < 700) (h : ¬ s.2 4 v = s.2 4 w) (x : Int32) : GM E Y_Model_match (d + 1) [.ref m, .int x] (mW E G m n s) (rIs (some (.int 0)) (mW E G m n (wF s 0 1))) := by
  refine g_entry (by decide) (by simp [Value.category]) (Nat.le_of_ble_eq_true rfl) ?_
  refine g_aload_n d_Model_match_0 rfl ?_
  refine w_get (k := 19) (x := .int (s.1 19)) fl_Model_184 (by decide) rfl d_Model_match_1 ?_
  refine g_if_eq (tgt := 48) d_Model_match_4 (by decide) (fun c_4 => ?_) (fun c_4 => ?_)
  · refine g_iconst (v := 0) d_Model_match_48 (by decide) ?_
    refine g_istore_n d_Model_match_49 (by decide) rfl ?_
    refine g_aload_n d_Model_match_50 rfl ?_
    refine g_iload_n d_Model_match_51 rfl ?_
    refine g_if_eq (tgt := 59) d_Model_match_52 (by decide) (fun c_52 => ?_) (fun c_52 => absurd c_52 (by decide))
    refine g_iconst (v := 1) d_Model_match_59 (by decide) ?_
    refine c_Vr (as := [.int (1)]) kv_Model_refuses ml_Model_153 rfl mw_f (m_W_refuses1 (s := s) hmn) rfl (Nat.le_of_ble_eq_true rfl) rfl d_Model_match_60 rfl ?_
    refine g_if_eq (tgt := 68) d_Model_match_63 (by decide) (fun c_63 => absurd c_63 (by decide)) (fun c_63 => ?_)
    refine g_iconst (v := 0) d_Model_match_66 (by decide) ?_
    refine g_iret rfl d_Model_match_67 ?_
    exact ⟨rfl, rfl⟩
  · refine g_aload_n d_Model_match_7 rfl ?_
    refine w_get (k := 15) (x := .int (s.1 15)) fl_Model_163 (by decide) rfl d_Model_match_8 ?_
    refine g_if_le (tgt := 48) d_Model_match_11 (by decide) (fun c_11 => ?_) (fun c_11 => ?_)
    · exact absurd c_11 (fun y => absurd ((le_hi (nI_hi (n := c + 1) (by omega)) (show (0 : Int32).toInt = ((0 : Nat) : Int) by decide)).mp (by rw [h15] at y; exact y)) (by omega))
    refine g_aload_n d_Model_match_14 rfl ?_
    refine w_get (k := 7) fl_Model_22 (by decide) rfl d_Model_match_15 ?_
    refine g_aload_n d_Model_match_18 rfl ?_
    refine w_get (k := 13) fl_Model_40 (by decide) rfl d_Model_match_19 ?_
    refine g_aload_n d_Model_match_22 rfl ?_
    refine w_get (k := 15) (x := .int (s.1 15)) fl_Model_163 (by decide) rfl d_Model_match_23 ?_
    refine g_iconst (v := 1) d_Model_match_26 (by decide) ?_
    refine g_isub d_Model_match_27 ?_
    refine w_ald (j := 10) (q := c) (x := nI v) hmn (by decide) (by decide) (by rw [h15]; have := sub_hi (nI_hi (n := c + 1) (by omega)) i1 (by omega); exact this) (by show _ < 40; omega) h10 d_Model_match_28 ?_
    refine w_ald (j := 4) (q := v) (x := s.2 4 v) hmn (by decide) (by decide) (nI_hi (by omega)) (by show _ < 700; omega) rfl d_Model_match_29 ?_
    refine g_aload_n d_Model_match_30 rfl ?_
    refine w_get (k := 7) fl_Model_22 (by decide) rfl d_Model_match_31 ?_
    refine g_aload_n d_Model_match_34 rfl ?_
    refine w_get (k := 17) fl_Model_43 (by decide) rfl d_Model_match_35 ?_
    refine g_iconst (v := 0) d_Model_match_38 (by decide) ?_
    refine w_ald (j := 11) (q := 0) (x := nI w) hmn (by decide) (by decide) (by decide) (by decide) h11 d_Model_match_39 ?_
    refine w_ald (j := 4) (q := w) (x := s.2 4 w) hmn (by decide) (by decide) (nI_hi (by omega)) (by show _ < 700; omega) rfl d_Model_match_40 ?_
    refine g_icmp_ne (tgt := 48) d_Model_match_41 (by decide) (fun c_41 => ?_) (fun c_41 => ?_)
    rotate_left
    · exact absurd c_41 h
    refine g_iconst (v := 0) d_Model_match_48 (by decide) ?_
    refine g_istore_n d_Model_match_49 (by decide) rfl ?_
    refine g_aload_n d_Model_match_50 rfl ?_
    refine g_iload_n d_Model_match_51 rfl ?_
    refine g_if_eq (tgt := 59) d_Model_match_52 (by decide) (fun c_52 => ?_) (fun c_52 => absurd c_52 (by decide))
    refine g_iconst (v := 1) d_Model_match_59 (by decide) ?_
    refine c_Vr (as := [.int (1)]) kv_Model_refuses ml_Model_153 rfl mw_f (m_W_refuses1 (s := s) hmn) rfl (Nat.le_of_ble_eq_true rfl) rfl d_Model_match_60 rfl ?_
    refine g_if_eq (tgt := 68) d_Model_match_63 (by decide) (fun c_63 => absurd c_63 (by decide)) (fun c_63 => ?_)
    refine g_iconst (v := 0) d_Model_match_66 (by decide) ?_
    refine g_iret rfl d_Model_match_67 ?_
    exact ⟨rfl, rfl⟩
set_option maxHeartbeats 400000 in
set_option maxRecDepth 100000 in
theorem m_W_mt_i (hmn : m < n) {x : Int32} {c v w : Nat} (h15 : s.1 15 = nI (c + 1)) (bc : c < 40) (h10 : s.2 10 c = nI v) (bv : v < 700) (h11 : s.2 11 0 = nI w) (bw : w < 700) (h19 : ¬ s.1 19 = 0) (h : s.2 4 v = s.2 4 w) (kk : GT E Y_Model_match (d + 4) (mW E G m n s) 69 [(0, .ref m), (1, .int x), (2, .int 1)] [.ref m] (mW E G m n (wF s 0 0)) Q) : GM E Y_Model_match (d + 4) [.ref m, .int x] (mW E G m n s) Q := by
  refine g_entry (by decide) (by simp [Value.category]) (Nat.le_of_ble_eq_true rfl) ?_
  refine g_aload_n d_Model_match_0 rfl ?_
  refine w_get (k := 19) (x := .int (s.1 19)) fl_Model_184 (by decide) rfl d_Model_match_1 ?_
  refine g_if_eq (tgt := 48) d_Model_match_4 (by decide) (fun c_4 => ?_) (fun c_4 => ?_)
  · exact absurd c_4 h19
  refine g_aload_n d_Model_match_7 rfl ?_
  refine w_get (k := 15) (x := .int (s.1 15)) fl_Model_163 (by decide) rfl d_Model_match_8 ?_
  refine g_if_le (tgt := 48) d_Model_match_11 (by decide) (fun c_11 => ?_) (fun c_11 => ?_)
  · exact absurd c_11 (fun y => absurd ((le_hi (nI_hi (n := c + 1) (by omega)) (show (0 : Int32).toInt = ((0 : Nat) : Int) by decide)).mp (by rw [h15] at y; exact y)) (by omega))
  refine g_aload_n d_Model_match_14 rfl ?_
  refine w_get (k := 7) fl_Model_22 (by decide) rfl d_Model_match_15 ?_
  refine g_aload_n d_Model_match_18 rfl ?_
  refine w_get (k := 13) fl_Model_40 (by decide) rfl d_Model_match_19 ?_
  refine g_aload_n d_Model_match_22 rfl ?_
  refine w_get (k := 15) (x := .int (s.1 15)) fl_Model_163 (by decide) rfl d_Model_match_23 ?_
  refine g_iconst (v := 1) d_Model_match_26 (by decide) ?_
  refine g_isub d_Model_match_27 ?_
  refine w_ald (j := 10) (q := c) (x := nI v) hmn (by decide) (by decide) (by rw [h15]; have := sub_hi (nI_hi (n := c + 1) (by omega)) i1 (by omega); exact this) (by show _ < 40; omega) h10 d_Model_match_28 ?_
  refine w_ald (j := 4) (q := v) (x := s.2 4 v) hmn (by decide) (by decide) (nI_hi (by omega)) (by show _ < 700; omega) rfl d_Model_match_29 ?_
  refine g_aload_n d_Model_match_30 rfl ?_
  refine w_get (k := 7) fl_Model_22 (by decide) rfl d_Model_match_31 ?_
  refine g_aload_n d_Model_match_34 rfl ?_
  refine w_get (k := 17) fl_Model_43 (by decide) rfl d_Model_match_35 ?_
  refine g_iconst (v := 0) d_Model_match_38 (by decide) ?_
  refine w_ald (j := 11) (q := 0) (x := nI w) hmn (by decide) (by decide) (by decide) (by decide) h11 d_Model_match_39 ?_
  refine w_ald (j := 4) (q := w) (x := s.2 4 w) hmn (by decide) (by decide) (nI_hi (by omega)) (by show _ < 700; omega) rfl d_Model_match_40 ?_
  refine g_icmp_ne (tgt := 48) d_Model_match_41 (by decide) (fun c_41 => ?_) (fun c_41 => ?_)
  · exact absurd c_41 (fun e => e h)
  refine g_iconst (v := 1) d_Model_match_44 (by decide) ?_
  refine g_goto (tgt := 49) d_Model_match_45 (by decide) ?_
  refine g_istore_n d_Model_match_49 (by decide) rfl ?_
  refine g_aload_n d_Model_match_50 rfl ?_
  refine g_iload_n d_Model_match_51 rfl ?_
  refine g_if_eq (tgt := 59) d_Model_match_52 (by decide) (fun c_52 => absurd c_52 (by decide)) (fun c_52 => ?_)
  refine g_iconst (v := 0) d_Model_match_55 (by decide) ?_
  refine g_goto (tgt := 60) d_Model_match_56 (by decide) ?_
  refine c_Vr (as := [.int (0)]) kv_Model_refuses ml_Model_153 rfl mw_f (m_W_refuses0 (s := s) hmn) rfl (Nat.le_of_ble_eq_true rfl) rfl d_Model_match_60 rfl ?_
  refine g_if_eq (tgt := 68) d_Model_match_63 (by decide) (fun c_63 => ?_) (fun c_63 => absurd c_63 (by decide))
  refine g_aload_n d_Model_match_68 rfl ?_
  exact kk
set_option maxHeartbeats 400000 in
set_option maxRecDepth 100000 in
theorem m_W_mt_f (hmn : m < n) {x q2 : Int32} (kk : GT E Y_Model_match (d + 4) G0 73 [(0, .ref m), (1, .int x), (2, .int q2)] [.ref m] (mW E G m n s) Q) : GT E Y_Model_match (d + 4) G0 72 [(0, .ref m), (1, .int x), (2, .int q2)] [] (mW E G m n s) Q := by
  refine g_aload_n d_Model_match_72 rfl ?_
  exact kk
set_option maxHeartbeats 400000 in
set_option maxRecDepth 100000 in
theorem m_W_mt_j (hmn : m < n) {x q2 : Int32} {c : Nat} (h15 : s.1 15 = nI (c + 1)) (bc : c < 40) (kk : GT E Y_Model_match (d + 4) G0 115 [(0, .ref m), (1, .int x), (2, .int q2), (3, .int (0)), (4, .int (s.1 46)), (5, .int (-1)), (6, .int (0))] [] (mW E G m n (wA (wF s 15 (nI c)) 25 0 (s.2 10 c))) Q) : GT E Y_Model_match (d + 4) G0 76 [(0, .ref m), (1, .int x), (2, .int q2)] [] (mW E G m n s) Q := by
  refine g_aload_n d_Model_match_76 rfl ?_
  refine g_dup d_Model_match_77 rfl ?_
  refine w_get (k := 15) (x := .int (s.1 15)) fl_Model_163 (by decide) rfl d_Model_match_78 ?_
  refine g_iconst (v := 1) d_Model_match_81 (by decide) ?_
  refine g_isub d_Model_match_82 ?_
  refine w_put (k := 15) fl_Model_163 (by decide) rfl rfl rfl rfl (Nat.le_of_ble_eq_true rfl) d_Model_match_83 ?_
  refine g_aload_n d_Model_match_86 rfl ?_
  refine w_get (k := 40) fl_Model_87 (by decide) rfl d_Model_match_87 ?_
  refine g_iconst (v := 0) d_Model_match_90 (by decide) ?_
  refine g_aload_n d_Model_match_91 rfl ?_
  refine w_get (k := 13) fl_Model_40 (by decide) rfl d_Model_match_92 ?_
  refine g_aload_n d_Model_match_95 rfl ?_
  refine w_get (k := 15) (x := .int ((s.1 15) - (1))) fl_Model_163 (by decide) rfl d_Model_match_96 ?_
  refine w_ald (j := 10) (q := c) (x := s.2 10 c) hmn (by decide) (by decide) (by rw [h15]; have := sub_hi (nI_hi (n := c + 1) (by omega)) i1 (by omega); exact this) (by show _ < 40; omega) rfl d_Model_match_99 ?_
  refine w_ast (j := 25) (q := 0) hmn (by decide) (by decide) (by decide) (by decide) d_Model_match_100 ?_
  refine g_iconst (v := 0) d_Model_match_101 (by decide) ?_
  refine g_istore_n d_Model_match_102 (by decide) rfl ?_
  refine g_aload_n d_Model_match_103 rfl ?_
  refine w_get (k := 46) (x := .int (s.1 46)) fl_Model_192 (by decide) rfl d_Model_match_104 ?_
  refine g_istore d_Model_match_107 (by decide) rfl ?_
  refine g_iconst (v := (-1)) d_Model_match_109 (by decide) ?_
  refine g_istore d_Model_match_110 (by decide) rfl ?_
  refine g_iconst (v := 0) d_Model_match_112 (by decide) ?_
  refine g_istore d_Model_match_113 (by decide) rfl ?_
  have e_ : s.1 15 - 1 = nI c := by rw [h15]; exact i_nI (sub_hi (nI_hi (n := c + 1) (by omega)) i1 (by omega))
  rw [e_]
  exact kk
set_option maxHeartbeats 400000 in
set_option maxRecDepth 100000 in
theorem m_W_mt_e (hmn : m < n) {x q2 q3 pa b6 q4 : Int32} (h : q4 ≤ 0) (kk : Q (.inl (some (.int (-1)))) (mW E G m n s)) : GT E Y_Model_match (d + 4) G0 115 [(0, .ref m), (1, .int x), (2, .int q2), (3, .int (q3)), (4, .int (q4)), (5, .int (pa)), (6, .int (b6))] [] (mW E G m n s) Q := by
  refine g_iload d_Model_match_115 rfl ?_
  refine g_if_le (tgt := 546) d_Model_match_117 (by decide) (fun c_117 => ?_) (fun c_117 => ?_)
  rotate_left
  · exact absurd c_117 (fun y => y h)
  refine g_iconst (v := (-1)) d_Model_match_546 (by decide) ?_
  refine g_iret rfl d_Model_match_547 ?_
  exact kk
set_option maxHeartbeats 400000 in
set_option maxRecDepth 100000 in
theorem m_W_mt_t (hmn : m < n) {x q2 pa b6 : Int32} {A K : Nat} (bA : A < 41640) (K1 : 1 ≤ K) (bK : K < 1000) (h27 : s.2 27 A = 0) {c : Nat} (h26 : s.2 26 A = nI c) (bc : c < 20) (hg : s.2 12 c = 0) (kk : GT E Y_Model_match (d + 4) G0 166 [(0, .ref m), (1, .int x), (2, .int q2), (3, .int (nI A)), (4, .int (nI K)), (5, .int (pa)), (6, .int (b6)), (7, .int (s.1 46)), (8, .int (nI c)), (9, .int 0)] [] (mW E G m n s) Q) : GT E Y_Model_match (d + 4) G0 115 [(0, .ref m), (1, .int x), (2, .int q2), (3, .int (nI A)), (4, .int (nI K)), (5, .int (pa)), (6, .int (b6))] [] (mW E G m n s) Q := by
  refine g_iload d_Model_match_115 rfl ?_
  refine g_if_le (tgt := 546) d_Model_match_117 (by decide) (fun c_117 => ?_) (fun c_117 => ?_)
  · exact absurd c_117 (fun y => absurd ((le_hi (nI_hi (n := K) (by omega)) (show (0 : Int32).toInt = ((0 : Nat) : Int) by decide)).mp y) (by omega))
  refine g_aload_n d_Model_match_120 rfl ?_
  refine w_get (k := 46) (x := .int (s.1 46)) fl_Model_192 (by decide) rfl d_Model_match_121 ?_
  refine g_istore d_Model_match_124 (by decide) rfl ?_
  refine g_aload_n d_Model_match_126 rfl ?_
  refine w_get (k := 42) fl_Model_94 (by decide) rfl d_Model_match_127 ?_
  refine g_iload_n d_Model_match_130 rfl ?_
  refine w_ald (j := 27) (q := A) (x := s.2 27 A) hmn (by decide) (by decide) (nI_hi (by omega)) (by show _ < 41640; omega) rfl d_Model_match_131 ?_
  refine g_if_ne (tgt := 238) d_Model_match_132 (by decide) (fun c_132 => ?_) (fun c_132 => ?_)
  · exact absurd c_132 (fun y => y h27)
  refine g_aload_n d_Model_match_135 rfl ?_
  refine w_get (k := 41) fl_Model_91 (by decide) rfl d_Model_match_136 ?_
  refine g_iload_n d_Model_match_139 rfl ?_
  refine w_ald (j := 26) (q := A) (x := nI c) hmn (by decide) (by decide) (nI_hi (by omega)) (by show _ < 41640; omega) h26 d_Model_match_140 ?_
  refine g_istore d_Model_match_141 (by decide) rfl ?_
  refine g_aload_n d_Model_match_143 rfl ?_
  refine w_get (k := 18) fl_Model_46 (by decide) rfl d_Model_match_144 ?_
  refine g_iload d_Model_match_147 rfl ?_
  refine w_zld (j := 12) (q := c) (x := s.2 12 c) hmn (by decide) (by decide) (nI_hi (by omega)) (by show _ < 20; omega) rfl d_Model_match_149 ?_
  refine g_if_eq (tgt := 163) d_Model_match_150 (by decide) (fun c_150 => ?_) (fun c_150 => ?_)
  rotate_left
  · exact absurd c_150 (fun y => y hg)
  refine g_iconst (v := 0) d_Model_match_163 (by decide) ?_
  refine g_istore d_Model_match_164 (by decide) rfl ?_
  exact kk
set_option maxHeartbeats 400000 in
set_option maxRecDepth 100000 in
theorem m_W_mt_u (hmn : m < n) {x q2 pa b6 : Int32} {A K : Nat} (bA : A < 41640) (K1 : 1 ≤ K) (bK : K < 1000) (h27 : s.2 27 A = 0) {c : Nat} (h26 : s.2 26 A = nI c) (bc : c < 20) (hg : ¬ s.2 12 c = 0) (hb : (x >>> (nI c &&& 31)) &&& 1 = 1) (kk : GT E Y_Model_match (d + 4) G0 166 [(0, .ref m), (1, .int x), (2, .int q2), (3, .int (nI A)), (4, .int (nI K)), (5, .int (pa)), (6, .int (b6)), (7, .int (s.1 46)), (8, .int (nI c)), (9, .int 0)] [] (mW E G m n s) Q) : GT E Y_Model_match (d + 4) G0 115 [(0, .ref m), (1, .int x), (2, .int q2), (3, .int (nI A)), (4, .int (nI K)), (5, .int (pa)), (6, .int (b6))] [] (mW E G m n s) Q := by
  refine g_iload d_Model_match_115 rfl ?_
  refine g_if_le (tgt := 546) d_Model_match_117 (by decide) (fun c_117 => ?_) (fun c_117 => ?_)
  · exact absurd c_117 (fun y => absurd ((le_hi (nI_hi (n := K) (by omega)) (show (0 : Int32).toInt = ((0 : Nat) : Int) by decide)).mp y) (by omega))
  refine g_aload_n d_Model_match_120 rfl ?_
  refine w_get (k := 46) (x := .int (s.1 46)) fl_Model_192 (by decide) rfl d_Model_match_121 ?_
  refine g_istore d_Model_match_124 (by decide) rfl ?_
  refine g_aload_n d_Model_match_126 rfl ?_
  refine w_get (k := 42) fl_Model_94 (by decide) rfl d_Model_match_127 ?_
  refine g_iload_n d_Model_match_130 rfl ?_
  refine w_ald (j := 27) (q := A) (x := s.2 27 A) hmn (by decide) (by decide) (nI_hi (by omega)) (by show _ < 41640; omega) rfl d_Model_match_131 ?_
  refine g_if_ne (tgt := 238) d_Model_match_132 (by decide) (fun c_132 => ?_) (fun c_132 => ?_)
  · exact absurd c_132 (fun y => y h27)
  refine g_aload_n d_Model_match_135 rfl ?_
  refine w_get (k := 41) fl_Model_91 (by decide) rfl d_Model_match_136 ?_
  refine g_iload_n d_Model_match_139 rfl ?_
  refine w_ald (j := 26) (q := A) (x := nI c) hmn (by decide) (by decide) (nI_hi (by omega)) (by show _ < 41640; omega) h26 d_Model_match_140 ?_
  refine g_istore d_Model_match_141 (by decide) rfl ?_
  refine g_aload_n d_Model_match_143 rfl ?_
  refine w_get (k := 18) fl_Model_46 (by decide) rfl d_Model_match_144 ?_
  refine g_iload d_Model_match_147 rfl ?_
  refine w_zld (j := 12) (q := c) (x := s.2 12 c) hmn (by decide) (by decide) (nI_hi (by omega)) (by show _ < 20; omega) rfl d_Model_match_149 ?_
  refine g_if_eq (tgt := 163) d_Model_match_150 (by decide) (fun c_150 => ?_) (fun c_150 => ?_)
  · exact absurd c_150 hg
  refine g_iload_n d_Model_match_153 rfl ?_
  refine g_iload d_Model_match_154 rfl ?_
  refine g_ishr d_Model_match_156 ?_
  refine g_iconst (v := 1) d_Model_match_157 (by decide) ?_
  refine g_iand d_Model_match_158 ?_
  refine g_iconst (v := 1) d_Model_match_159 (by decide) ?_
  refine g_icmp_ne (tgt := 226) d_Model_match_160 (by decide) (fun c_160 => ?_) (fun c_160 => ?_)
  · exact absurd c_160 (fun y => y hb)
  refine g_iconst (v := 0) d_Model_match_163 (by decide) ?_
  refine g_istore d_Model_match_164 (by decide) rfl ?_
  exact kk
set_option maxHeartbeats 400000 in
set_option maxRecDepth 100000 in
theorem m_W_mt_o (hmn : m < n) {x q2 pa b6 : Int32} {A K : Nat} (bA : A < 41640) (K1 : 1 ≤ K) (bK : K < 1000) (h27 : s.2 27 A = 0) {c : Nat} (h26 : s.2 26 A = nI c) (bc : c < 20) (hg : ¬ s.2 12 c = 0) (hb : ¬ (x >>> (nI c &&& 31)) &&& 1 = 1) (kk : GT E Y_Model_match (d + 4) G0 232 [(0, .ref m), (1, .int x), (2, .int q2), (3, .int (nI A)), (4, .int (nI K)), (5, .int (pa)), (6, .int (b6)), (7, .int (s.1 46)), (8, .int (nI c))] [.int (nI c), .int (nI K), .int (nI A), .ref m] (mW E G m n s) Q) : GT E Y_Model_match (d + 4) G0 115 [(0, .ref m), (1, .int x), (2, .int q2), (3, .int (nI A)), (4, .int (nI K)), (5, .int (pa)), (6, .int (b6))] [] (mW E G m n s) Q := by
  refine g_iload d_Model_match_115 rfl ?_
  refine g_if_le (tgt := 546) d_Model_match_117 (by decide) (fun c_117 => ?_) (fun c_117 => ?_)
  · exact absurd c_117 (fun y => absurd ((le_hi (nI_hi (n := K) (by omega)) (show (0 : Int32).toInt = ((0 : Nat) : Int) by decide)).mp y) (by omega))
  refine g_aload_n d_Model_match_120 rfl ?_
  refine w_get (k := 46) (x := .int (s.1 46)) fl_Model_192 (by decide) rfl d_Model_match_121 ?_
  refine g_istore d_Model_match_124 (by decide) rfl ?_
  refine g_aload_n d_Model_match_126 rfl ?_
  refine w_get (k := 42) fl_Model_94 (by decide) rfl d_Model_match_127 ?_
  refine g_iload_n d_Model_match_130 rfl ?_
  refine w_ald (j := 27) (q := A) (x := s.2 27 A) hmn (by decide) (by decide) (nI_hi (by omega)) (by show _ < 41640; omega) rfl d_Model_match_131 ?_
  refine g_if_ne (tgt := 238) d_Model_match_132 (by decide) (fun c_132 => ?_) (fun c_132 => ?_)
  · exact absurd c_132 (fun y => y h27)
  refine g_aload_n d_Model_match_135 rfl ?_
  refine w_get (k := 41) fl_Model_91 (by decide) rfl d_Model_match_136 ?_
  refine g_iload_n d_Model_match_139 rfl ?_
  refine w_ald (j := 26) (q := A) (x := nI c) hmn (by decide) (by decide) (nI_hi (by omega)) (by show _ < 41640; omega) h26 d_Model_match_140 ?_
  refine g_istore d_Model_match_141 (by decide) rfl ?_
  refine g_aload_n d_Model_match_143 rfl ?_
  refine w_get (k := 18) fl_Model_46 (by decide) rfl d_Model_match_144 ?_
  refine g_iload d_Model_match_147 rfl ?_
  refine w_zld (j := 12) (q := c) (x := s.2 12 c) hmn (by decide) (by decide) (nI_hi (by omega)) (by show _ < 20; omega) rfl d_Model_match_149 ?_
  refine g_if_eq (tgt := 163) d_Model_match_150 (by decide) (fun c_150 => ?_) (fun c_150 => ?_)
  · exact absurd c_150 hg
  refine g_iload_n d_Model_match_153 rfl ?_
  refine g_iload d_Model_match_154 rfl ?_
  refine g_ishr d_Model_match_156 ?_
  refine g_iconst (v := 1) d_Model_match_157 (by decide) ?_
  refine g_iand d_Model_match_158 ?_
  refine g_iconst (v := 1) d_Model_match_159 (by decide) ?_
  refine g_icmp_ne (tgt := 226) d_Model_match_160 (by decide) (fun c_160 => ?_) (fun c_160 => ?_)
  rotate_left
  · exact absurd c_160 hb
  refine g_aload_n d_Model_match_226 rfl ?_
  refine g_iload_n d_Model_match_227 rfl ?_
  refine g_iload d_Model_match_228 rfl ?_
  refine g_iload d_Model_match_230 rfl ?_
  exact kk
set_option maxHeartbeats 400000 in
set_option maxRecDepth 100000 in
theorem m_W_mt_o2 (hmn : m < n) {x q2 pa b6 : Int32} {A K : Nat} {q7 q8 : Int32} (kk : GT E Y_Model_match (d + 4) G0 115 [(0, .ref m), (1, .int x), (2, .int q2), (3, .int (q7)), (4, .int (s.1 46 - q7)), (5, .int (pa)), (6, .int (b6))] [] (mW E G m n s) Q) : GT E Y_Model_match (d + 4) G0 235 [(0, .ref m), (1, .int x), (2, .int q2), (3, .int (nI A)), (4, .int (nI K)), (5, .int (pa)), (6, .int (b6)), (7, .int q7), (8, .int q8)] [] (mW E G m n s) Q := by
  refine g_goto (tgt := 531) d_Model_match_235 (by decide) ?_
  refine g_iload d_Model_match_531 rfl ?_
  refine g_istore_n d_Model_match_533 (by decide) rfl ?_
  refine g_aload_n d_Model_match_534 rfl ?_
  refine w_get (k := 46) (x := .int (s.1 46)) fl_Model_192 (by decide) rfl d_Model_match_535 ?_
  refine g_iload d_Model_match_538 rfl ?_
  refine g_isub d_Model_match_540 ?_
  refine g_istore d_Model_match_541 (by decide) rfl ?_
  refine g_goto (tgt := 115) d_Model_match_543 (by decide) ?_
  exact g_weak (lv := [(0, .ref (m)), (1, .int (x)), (2, .int (q2)), (3, .int (q7)), (4, .int ((s.1 46) - (q7))), (5, .int (pa)), (6, .int (b6)), (7, .int (q7)), (8, .int (q8))]) (by simp) (by simp) (kk)
set_option maxHeartbeats 400000 in
set_option maxRecDepth 100000 in
theorem m_W_mt_b0 (hmn : m < n) {x q2 pa b6 : Int32} {A K : Nat} {q7 q8 : Int32} {k : Nat} (bA : A < 41600) (bk : k < 8) (h30 : s.2 30 (8 * A + k) = -1) (kk : GT E Y_Model_match (d + 4) G0 166 [(0, .ref m), (1, .int x), (2, .int q2), (3, .int (nI A)), (4, .int (nI K)), (5, .int (pa)), (6, .int (b6)), (7, .int q7), (8, .int (q8)), (9, .int (nI (k + 1)))] [] (mW E G m n (wA s 38 k (-1))) Q) : GT E Y_Model_match (d + 4) G0 166 [(0, .ref m), (1, .int x), (2, .int q2), (3, .int (nI A)), (4, .int (nI K)), (5, .int (pa)), (6, .int (b6)), (7, .int q7), (8, .int (q8)), (9, .int (nI k))] [] (mW E G m n s) Q := by
  refine g_iload d_Model_match_166 rfl ?_
  refine g_bipush (v := 8) d_Model_match_168 (by decide) ?_
  refine g_icmp_ge (tgt := 223) d_Model_match_170 (by decide) (fun c_170 => ?_) (fun c_170 => ?_)
  · exact absurd c_170 (fun y => absurd ((le_hi i8 (nI_hi (n := k) (by omega))).mp y) (by omega))
  refine g_aload_n d_Model_match_173 rfl ?_
  refine w_get (k := 56) fl_Model_129 (by decide) rfl d_Model_match_174 ?_
  refine g_iload d_Model_match_177 rfl ?_
  refine g_aload_n d_Model_match_179 rfl ?_
  refine w_get (k := 45) fl_Model_105 (by decide) rfl d_Model_match_180 ?_
  refine g_bipush (v := 8) d_Model_match_183 (by decide) ?_
  refine g_iload_n d_Model_match_185 rfl ?_
  refine g_imul d_Model_match_186 ?_
  refine g_iload d_Model_match_187 rfl ?_
  refine g_iadd d_Model_match_189 ?_
  refine w_ald (j := 30) (q := 8 * A + k) (x := -1) hmn (by decide) (by decide) (add_hi (mul_hi i8 (nI_hi (n := A) (by omega)) (by omega)) (nI_hi (n := k) (by omega)) (by omega)) (by show _ < 333120; omega) h30 d_Model_match_190 ?_
  refine g_iconst (v := (-1)) d_Model_match_191 (by decide) ?_
  refine g_icmp_ne (tgt := 199) d_Model_match_192 (by decide) (fun c_192 => ?_) (fun c_192 => ?_)
  · exact absurd c_192 (fun y => y rfl)
  refine g_iconst (v := (-1)) d_Model_match_195 (by decide) ?_
  refine g_goto (tgt := 216) d_Model_match_196 (by decide) ?_
  refine w_ast (j := 38) (q := k) hmn (by decide) (by decide) (nI_hi (by omega)) (by show _ < 8; omega) d_Model_match_216 ?_
  refine g_iinc (v := nI k + 1) d_Model_match_217 rfl (by rfl) (by decide) rfl ?_
  refine g_goto (tgt := 166) d_Model_match_220 (by decide) ?_
  rw [nI_1]
  exact kk
set_option maxHeartbeats 400000 in
set_option maxRecDepth 100000 in
theorem m_W_mt_b1 (hmn : m < n) {x q2 pa b6 : Int32} {A K : Nat} {q7 q8 : Int32} {k p : Nat} (bA : A < 41600) (bk : k < 8) (h30 : s.2 30 (8 * A + k) = nI p) (bp : p < 2200) (kk : GT E Y_Model_match (d + 4) G0 166 [(0, .ref m), (1, .int x), (2, .int q2), (3, .int (nI A)), (4, .int (nI K)), (5, .int (pa)), (6, .int (b6)), (7, .int q7), (8, .int (q8)), (9, .int (nI (k + 1)))] [] (mW E G m n (wA s 38 k (s.2 25 p))) Q) : GT E Y_Model_match (d + 4) G0 166 [(0, .ref m), (1, .int x), (2, .int q2), (3, .int (nI A)), (4, .int (nI K)), (5, .int (pa)), (6, .int (b6)), (7, .int q7), (8, .int (q8)), (9, .int (nI k))] [] (mW E G m n s) Q := by
  refine g_iload d_Model_match_166 rfl ?_
  refine g_bipush (v := 8) d_Model_match_168 (by decide) ?_
  refine g_icmp_ge (tgt := 223) d_Model_match_170 (by decide) (fun c_170 => ?_) (fun c_170 => ?_)
  · exact absurd c_170 (fun y => absurd ((le_hi i8 (nI_hi (n := k) (by omega))).mp y) (by omega))
  refine g_aload_n d_Model_match_173 rfl ?_
  refine w_get (k := 56) fl_Model_129 (by decide) rfl d_Model_match_174 ?_
  refine g_iload d_Model_match_177 rfl ?_
  refine g_aload_n d_Model_match_179 rfl ?_
  refine w_get (k := 45) fl_Model_105 (by decide) rfl d_Model_match_180 ?_
  refine g_bipush (v := 8) d_Model_match_183 (by decide) ?_
  refine g_iload_n d_Model_match_185 rfl ?_
  refine g_imul d_Model_match_186 ?_
  refine g_iload d_Model_match_187 rfl ?_
  refine g_iadd d_Model_match_189 ?_
  refine w_ald (j := 30) (q := 8 * A + k) (x := nI p) hmn (by decide) (by decide) (add_hi (mul_hi i8 (nI_hi (n := A) (by omega)) (by omega)) (nI_hi (n := k) (by omega)) (by omega)) (by show _ < 333120; omega) h30 d_Model_match_190 ?_
  refine g_iconst (v := (-1)) d_Model_match_191 (by decide) ?_
  refine g_icmp_ne (tgt := 199) d_Model_match_192 (by decide) (fun c_192 => ?_) (fun c_192 => ?_)
  rotate_left
  · exact absurd c_192 (nI_ne1 (by omega))
  refine g_aload_n d_Model_match_199 rfl ?_
  refine w_get (k := 40) fl_Model_87 (by decide) rfl d_Model_match_200 ?_
  refine g_aload_n d_Model_match_203 rfl ?_
  refine w_get (k := 45) fl_Model_105 (by decide) rfl d_Model_match_204 ?_
  refine g_bipush (v := 8) d_Model_match_207 (by decide) ?_
  refine g_iload_n d_Model_match_209 rfl ?_
  refine g_imul d_Model_match_210 ?_
  refine g_iload d_Model_match_211 rfl ?_
  refine g_iadd d_Model_match_213 ?_
  refine w_ald (j := 30) (q := 8 * A + k) (x := nI p) hmn (by decide) (by decide) (add_hi (mul_hi i8 (nI_hi (n := A) (by omega)) (by omega)) (nI_hi (n := k) (by omega)) (by omega)) (by show _ < 333120; omega) h30 d_Model_match_214 ?_
  refine w_ald (j := 25) (q := p) (x := s.2 25 p) hmn (by decide) (by decide) (nI_hi (by omega)) (by show _ < 2200; omega) rfl d_Model_match_215 ?_
  refine w_ast (j := 38) (q := k) hmn (by decide) (by decide) (nI_hi (by omega)) (by show _ < 8; omega) d_Model_match_216 ?_
  refine g_iinc (v := nI k + 1) d_Model_match_217 rfl (by rfl) (by decide) rfl ?_
  refine g_goto (tgt := 166) d_Model_match_220 (by decide) ?_
  rw [nI_1]
  exact kk
set_option maxHeartbeats 400000 in
set_option maxRecDepth 100000 in
theorem m_W_mt_b2 (hmn : m < n) {x q2 pa b6 : Int32} {A K : Nat} {q7 q8 : Int32} (kk : Q (.inl (some (.int q8))) (mW E G m n s)) : GT E Y_Model_match (d + 4) G0 166 [(0, .ref m), (1, .int x), (2, .int q2), (3, .int (nI A)), (4, .int (nI K)), (5, .int (pa)), (6, .int (b6)), (7, .int q7), (8, .int (q8)), (9, .int (nI 8))] [] (mW E G m n s) Q := by
  refine g_iload d_Model_match_166 rfl ?_
  refine g_bipush (v := 8) d_Model_match_168 (by decide) ?_
  refine g_icmp_ge (tgt := 223) d_Model_match_170 (by decide) (fun c_170 => ?_) (fun c_170 => ?_)
  rotate_left
  · exact absurd c_170 (fun y => y (by decide))
  refine g_iload d_Model_match_223 rfl ?_
  refine g_iret rfl d_Model_match_225 ?_
  exact kk
set_option maxHeartbeats 400000 in
set_option maxRecDepth 100000 in
theorem m_W_mt_s (hmn : m < n) {x q2 pa b6 : Int32} {A K : Nat} (bA : A < 41640) (K1 : 1 ≤ K) (bK : K < 1000) (h27 : ¬ s.2 27 A = 0) (kk : GT E Y_Model_match (d + 4) G0 252 [(0, .ref m), (1, .int x), (2, .int q2), (3, .int (nI A)), (4, .int (nI K)), (5, .int (pa)), (6, .int (b6)), (7, .int (s.1 46)), (8, .int (s.2 28 (26 * A))), (9, .int 0)] [] (mW E G m n s) Q) : GT E Y_Model_match (d + 4) G0 115 [(0, .ref m), (1, .int x), (2, .int q2), (3, .int (nI A)), (4, .int (nI K)), (5, .int (pa)), (6, .int (b6))] [] (mW E G m n s) Q := by
  refine g_iload d_Model_match_115 rfl ?_
  refine g_if_le (tgt := 546) d_Model_match_117 (by decide) (fun c_117 => ?_) (fun c_117 => ?_)
  · exact absurd c_117 (fun y => absurd ((le_hi (nI_hi (n := K) (by omega)) (show (0 : Int32).toInt = ((0 : Nat) : Int) by decide)).mp y) (by omega))
  refine g_aload_n d_Model_match_120 rfl ?_
  refine w_get (k := 46) (x := .int (s.1 46)) fl_Model_192 (by decide) rfl d_Model_match_121 ?_
  refine g_istore d_Model_match_124 (by decide) rfl ?_
  refine g_aload_n d_Model_match_126 rfl ?_
  refine w_get (k := 42) fl_Model_94 (by decide) rfl d_Model_match_127 ?_
  refine g_iload_n d_Model_match_130 rfl ?_
  refine w_ald (j := 27) (q := A) (x := s.2 27 A) hmn (by decide) (by decide) (nI_hi (by omega)) (by show _ < 41640; omega) rfl d_Model_match_131 ?_
  refine g_if_ne (tgt := 238) d_Model_match_132 (by decide) (fun c_132 => ?_) (fun c_132 => ?_)
  rotate_left
  · exact absurd c_132 h27
  refine g_aload_n d_Model_match_238 rfl ?_
  refine w_get (k := 43) fl_Model_98 (by decide) rfl d_Model_match_239 ?_
  refine g_bipush (v := 26) d_Model_match_242 (by decide) ?_
  refine g_iload_n d_Model_match_244 rfl ?_
  refine g_imul d_Model_match_245 ?_
  refine w_ald (j := 28) (q := 26 * A) (x := s.2 28 (26 * A)) hmn (by decide) (by decide) (mul_hi (a := 26) (m := 26) (by decide) (nI_hi (n := A) (by omega)) (by omega)) (by show _ < 1082640; omega) rfl d_Model_match_246 ?_
  refine g_istore d_Model_match_247 (by decide) rfl ?_
  refine g_iconst (v := 0) d_Model_match_249 (by decide) ?_
  refine g_istore d_Model_match_250 (by decide) rfl ?_
  exact kk
set_option maxHeartbeats 400000 in
set_option maxRecDepth 100000 in
theorem m_W_mt_s1 (hmn : m < n) {x q2 pa b6 : Int32} {A K : Nat} {q7 q8 : Int32} {q : Nat} (bq : q < 1001) (h : ¬ (s.2 18 q = pa ∧ s.2 19 q = b6)) (kk : GT E Y_Model_match (d + 4) G0 252 [(0, .ref m), (1, .int x), (2, .int q2), (3, .int (nI A)), (4, .int (nI K)), (5, .int (pa)), (6, .int (b6)), (7, .int q7), (8, .int q8), (9, .int (nI (q + 1)))] [] (mW E G m n s) Q) : GT E Y_Model_match (d + 4) G0 252 [(0, .ref m), (1, .int x), (2, .int q2), (3, .int (nI A)), (4, .int (nI K)), (5, .int (pa)), (6, .int (b6)), (7, .int q7), (8, .int q8), (9, .int (nI q))] [] (mW E G m n s) Q := by
  refine g_aload_n d_Model_match_252 rfl ?_
  refine w_get (k := 32) fl_Model_65 (by decide) rfl d_Model_match_253 ?_
  refine g_iload d_Model_match_256 rfl ?_
  refine w_ald (j := 18) (q := q) (x := s.2 18 q) hmn (by decide) (by decide) (nI_hi (by omega)) (by show _ < 1001; omega) rfl d_Model_match_258 ?_
  refine g_iload d_Model_match_259 rfl ?_
  refine g_icmp_ne (tgt := 276) d_Model_match_261 (by decide) (fun c_261 => ?_) (fun c_261 => ?_)
  · refine g_iinc (v := nI q + 1) d_Model_match_276 rfl (by rfl) (by decide) rfl ?_
    refine g_goto (tgt := 252) d_Model_match_279 (by decide) ?_
    rw [nI_1]
    exact kk
  · refine g_aload_n d_Model_match_264 rfl ?_
    refine w_get (k := 33) fl_Model_68 (by decide) rfl d_Model_match_265 ?_
    refine g_iload d_Model_match_268 rfl ?_
    refine w_ald (j := 19) (q := q) (x := s.2 19 q) hmn (by decide) (by decide) (nI_hi (by omega)) (by show _ < 1001; omega) rfl d_Model_match_270 ?_
    refine g_iload d_Model_match_271 rfl ?_
    refine g_icmp_eq (tgt := 282) d_Model_match_273 (by decide) (fun c_273 => ?_) (fun c_273 => ?_)
    · exact absurd c_273 (fun y => h ⟨by first | exact c_261 | exact Classical.byContradiction (fun z => c_261 z), y⟩)
    refine g_iinc (v := nI q + 1) d_Model_match_276 rfl (by rfl) (by decide) rfl ?_
    refine g_goto (tgt := 252) d_Model_match_279 (by decide) ?_
    rw [nI_1]
    exact kk
set_option maxHeartbeats 400000 in
set_option maxRecDepth 100000 in
theorem m_W_mt_s2 (hmn : m < n) {x q2 pa b6 : Int32} {A K : Nat} {q7 q8 : Int32} {q : Nat} (bq : q < 1001) (h1 : s.2 18 q = pa) (h2 : s.2 19 q = b6) (h54 : ¬ s.1 54 < 0) (b54 : tn (s.1 54) < 520) (kk : GT E Y_Model_match (d + 4) G0 303 [(0, .ref m), (1, .int x), (2, .int q2), (3, .int (nI A)), (4, .int (nI K)), (5, .int (pa)), (6, .int (b6)), (7, .int q7), (8, .int q8), (9, .int (nI q))] [] (mW E G m n (wF (wA s 37 (tn (s.1 54)) (nI q)) 54 (s.1 54 + 1))) Q) : GT E Y_Model_match (d + 4) G0 252 [(0, .ref m), (1, .int x), (2, .int q2), (3, .int (nI A)), (4, .int (nI K)), (5, .int (pa)), (6, .int (b6)), (7, .int q7), (8, .int q8), (9, .int (nI q))] [] (mW E G m n s) Q := by
  refine g_aload_n d_Model_match_252 rfl ?_
  refine w_get (k := 32) fl_Model_65 (by decide) rfl d_Model_match_253 ?_
  refine g_iload d_Model_match_256 rfl ?_
  refine w_ald (j := 18) (q := q) (x := s.2 18 q) hmn (by decide) (by decide) (nI_hi (by omega)) (by show _ < 1001; omega) rfl d_Model_match_258 ?_
  refine g_iload d_Model_match_259 rfl ?_
  refine g_icmp_ne (tgt := 276) d_Model_match_261 (by decide) (fun c_261 => ?_) (fun c_261 => ?_)
  · exact absurd c_261 (fun y => y h1)
  refine g_aload_n d_Model_match_264 rfl ?_
  refine w_get (k := 33) fl_Model_68 (by decide) rfl d_Model_match_265 ?_
  refine g_iload d_Model_match_268 rfl ?_
  refine w_ald (j := 19) (q := q) (x := s.2 19 q) hmn (by decide) (by decide) (nI_hi (by omega)) (by show _ < 1001; omega) rfl d_Model_match_270 ?_
  refine g_iload d_Model_match_271 rfl ?_
  refine g_icmp_eq (tgt := 282) d_Model_match_273 (by decide) (fun c_273 => ?_) (fun c_273 => ?_)
  rotate_left
  · exact absurd c_273 (fun y => y h2)
  refine g_aload_n d_Model_match_282 rfl ?_
  refine w_get (k := 55) fl_Model_126 (by decide) rfl d_Model_match_283 ?_
  refine g_aload_n d_Model_match_286 rfl ?_
  refine w_get (k := 54) (x := .int (s.1 54)) fl_Model_142 (by decide) rfl d_Model_match_287 ?_
  refine g_iload d_Model_match_290 rfl ?_
  refine w_ast (j := 37) (q := tn (s.1 54)) hmn (by decide) (by decide) (tn_hi h54) (by show _ < 520; omega) d_Model_match_292 ?_
  refine g_aload_n d_Model_match_293 rfl ?_
  refine g_dup d_Model_match_294 rfl ?_
  refine w_get (k := 54) (x := .int (s.1 54)) fl_Model_142 (by decide) rfl d_Model_match_295 ?_
  refine g_iconst (v := 1) d_Model_match_298 (by decide) ?_
  refine g_iadd d_Model_match_299 ?_
  refine w_put (k := 54) fl_Model_142 (by decide) rfl rfl rfl rfl (Nat.le_of_ble_eq_true rfl) d_Model_match_300 ?_
  exact kk
end MZ
