/-! The reference: build, its beginning -/
section MV
variable {E : gE} {d : Nat} {G G0 : gS} {m n : Nat} {s : mS} {Q : gO → gS → Prop}
def rB0 (s : mS) : mS := wF (wF (wF (wF (wF (wF (wF (wF (wF (wF s 0 0) 19 0) 20 0) 21 0) 22 0) 23 0) 24 0) 25 0) 26 0) 34 1
def rB1 (s : mS) : mS := wA (wA (wA (rB0 s) 20 0 0) 21 0 (s.2 4 (tn (s.2 11 0)))) 23 0 0
def rB2 (s : mS) : mS := wR (rB1 s) 22 (blk (s.2 22) 0 32 0)
set_option maxHeartbeats 400000 in
set_option maxRecDepth 100000 in
theorem m_W_b_il (hmn : m < n) (kk : GT E Y_Model_build d G0 118 [(0, .ref m)] [] (mW E G m n (wR s 22 (blk (s.2 22) 0 32 0))) Q) : ∀ (w k : Nat), 32 < k + w → k ≤ 32 → GT E Y_Model_build d G0 99 [(0, .ref m), (1, .int (nI k))] [] (mW E G m n (wR s 22 (blk (s.2 22) 0 k 0))) Q := by
  intro w
  induction w with
  | zero => intro k h1 h2; omega
  | succ w ih =>
    intro k h1 h2
    refine g_iload_n d_Model_build_99 rfl ?_
    refine g_bipush (v := 32) d_Model_build_100 (by decide) ?_
    refine g_icmp_ge (tgt := 118) d_Model_build_102 (by decide) (fun c_102 => ?_) (fun c_102 => ?_)
    · have e : k = 32 := by have := (le_hi (show (32 : Int32).toInt = ((32 : Nat) : Int) by decide) (nI_hi (n := k) (by omega))).mp c_102; omega
      subst e
      exact g_weak (lv := [(0, .ref m), (1, .int (nI 32))]) (by simp) (by simp) kk
    · refine g_aload_n d_Model_build_105 rfl ?_
      refine w_get (k := 37) fl_Model_78 (by decide) rfl d_Model_build_106 ?_
      refine g_iload_n d_Model_build_109 rfl ?_
      refine g_iconst (v := 0) d_Model_build_110 (by decide) ?_
      refine w_ast (j := 22) (q := k) hmn (by decide) (by decide) (nI_hi (by omega)) (by show _ < 70400; omega) d_Model_build_111 ?_
      refine g_iinc (v := nI k + 1) d_Model_build_112 rfl (by rfl) (by decide) rfl ?_
      refine g_goto (tgt := 99) d_Model_build_115 (by decide) ?_
      have hk_ : k < 32 := Nat.not_le.mp (fun q => c_102 ((le_hi (show (32 : Int32).toInt = ((32 : Nat) : Int) by decide) (nI_hi (n := k) (by omega))).mpr q))
      have e : wA (wR s 22 (blk (s.2 22) 0 k 0)) 22 k 0 = wR s 22 (blk (s.2 22) 0 (k + 1) 0) := by
        have e1 := blk_s (f := s.2 22) (b := 0) (k := k) (x := 0)
        rw [Nat.zero_add] at e1
        unfold wA wR
        refine Prod.ext rfl (funext fun j => ?_)
        show upA (upA s.2 22 _) 22 (upd (upA s.2 22 (blk (s.2 22) 0 k 0) 22) k 0) j = upA s.2 22 _ j
        rw [upA_at, e1]
        unfold upA
        by_cases e : j = 22
        · rw [if_pos e, if_pos e]
        · rw [if_neg e, if_neg e, if_neg e]
      rw [e, nI_1]
      exact ih (k + 1) (by omega) (by omega)
set_option maxHeartbeats 400000 in
set_option maxRecDepth 100000 in
theorem m_W_b_i (hmn : m < n) (h16 : ¬ s.1 16 = 0) (h11 : ¬ s.2 11 0 < 0 ∧ tn (s.2 11 0) < 700) (kk : GT E Y_Model_build (d + 1) (mW E G m n s) 119 [(0, .ref m)] [.ref m] (mW E G m n (rB2 s)) Q) : GM E Y_Model_build (d + 1) [.ref m] (mW E G m n s) Q := by
  refine g_entry (by decide) (by simp [Value.category]) (Nat.le_of_ble_eq_true rfl) ?_
  refine g_aload_n d_Model_build_0 rfl ?_
  refine g_aload_n d_Model_build_1 rfl ?_
  refine w_get (k := 16) (x := .int (s.1 16)) fl_Model_181 (by decide) rfl d_Model_build_2 ?_
  refine g_if_ne (tgt := 12) d_Model_build_5 (by decide) (fun c_5 => ?_) (fun c_5 => ?_)
  rotate_left
  · exact absurd c_5 h16
  refine g_iconst (v := 0) d_Model_build_12 (by decide) ?_
  refine c_Vr (as := [.int (0)]) kv_Model_refuses ml_Model_153 rfl mw_f (m_W_refuses0 (s := s) hmn) rfl (Nat.le_of_ble_eq_true rfl) rfl d_Model_build_13 rfl ?_
  refine g_if_eq (tgt := 21) d_Model_build_16 (by decide) (fun c_16 => ?_) (fun c_16 => absurd c_16 (by decide))
  refine g_aload_n d_Model_build_21 rfl ?_
  refine g_iconst (v := 0) d_Model_build_22 (by decide) ?_
  refine w_put (k := 19) fl_Model_184 (by decide) rfl rfl rfl rfl (Nat.le_of_ble_eq_true rfl) d_Model_build_23 ?_
  refine g_aload_n d_Model_build_26 rfl ?_
  refine g_iconst (v := 0) d_Model_build_27 (by decide) ?_
  refine w_put (k := 20) fl_Model_225 (by decide) rfl rfl rfl rfl (Nat.le_of_ble_eq_true rfl) d_Model_build_28 ?_
  refine g_aload_n d_Model_build_31 rfl ?_
  refine g_iconst (v := 0) d_Model_build_32 (by decide) ?_
  refine w_put (k := 21) fl_Model_228 (by decide) rfl rfl rfl rfl (Nat.le_of_ble_eq_true rfl) d_Model_build_33 ?_
  refine g_aload_n d_Model_build_36 rfl ?_
  refine g_iconst (v := 0) d_Model_build_37 (by decide) ?_
  refine w_put (k := 22) fl_Model_231 (by decide) rfl rfl rfl rfl (Nat.le_of_ble_eq_true rfl) d_Model_build_38 ?_
  refine g_aload_n d_Model_build_41 rfl ?_
  refine g_iconst (v := 0) d_Model_build_42 (by decide) ?_
  refine w_put (k := 23) fl_Model_234 (by decide) rfl rfl rfl rfl (Nat.le_of_ble_eq_true rfl) d_Model_build_43 ?_
  refine g_aload_n d_Model_build_46 rfl ?_
  refine g_iconst (v := 0) d_Model_build_47 (by decide) ?_
  refine w_put (k := 24) fl_Model_237 (by decide) rfl rfl rfl rfl (Nat.le_of_ble_eq_true rfl) d_Model_build_48 ?_
  refine g_aload_n d_Model_build_51 rfl ?_
  refine g_iconst (v := 0) d_Model_build_52 (by decide) ?_
  refine w_put (k := 25) fl_Model_240 (by decide) rfl rfl rfl rfl (Nat.le_of_ble_eq_true rfl) d_Model_build_53 ?_
  refine g_aload_n d_Model_build_56 rfl ?_
  refine g_iconst (v := 0) d_Model_build_57 (by decide) ?_
  refine w_put (k := 26) fl_Model_243 (by decide) rfl rfl rfl rfl (Nat.le_of_ble_eq_true rfl) d_Model_build_58 ?_
  refine g_aload_n d_Model_build_61 rfl ?_
  refine g_iconst (v := 1) d_Model_build_62 (by decide) ?_
  refine w_put (k := 34) fl_Model_202 (by decide) rfl rfl rfl rfl (Nat.le_of_ble_eq_true rfl) d_Model_build_63 ?_
  refine g_aload_n d_Model_build_66 rfl ?_
  refine w_get (k := 35) fl_Model_71 (by decide) rfl d_Model_build_67 ?_
  refine g_iconst (v := 0) d_Model_build_70 (by decide) ?_
  refine g_iconst (v := 0) d_Model_build_71 (by decide) ?_
  refine w_ast (j := 20) (q := 0) hmn (by decide) (by decide) (by decide) (by decide) d_Model_build_72 ?_
  refine g_aload_n d_Model_build_73 rfl ?_
  refine w_get (k := 36) fl_Model_74 (by decide) rfl d_Model_build_74 ?_
  refine g_iconst (v := 0) d_Model_build_77 (by decide) ?_
  refine g_aload_n d_Model_build_78 rfl ?_
  refine w_get (k := 7) fl_Model_22 (by decide) rfl d_Model_build_79 ?_
  refine g_aload_n d_Model_build_82 rfl ?_
  refine w_get (k := 17) fl_Model_43 (by decide) rfl d_Model_build_83 ?_
  refine g_iconst (v := 0) d_Model_build_86 (by decide) ?_
  refine w_ald (j := 11) (q := 0) (x := s.2 11 0) hmn (by decide) (by decide) (by decide) (by decide) rfl d_Model_build_87 ?_
  refine w_ald (j := 4) (q := tn (s.2 11 0)) (x := s.2 4 (tn (s.2 11 0))) hmn (by decide) (by decide) (tn_hi h11.1) h11.2 rfl d_Model_build_88 ?_
  refine w_ast (j := 21) (q := 0) hmn (by decide) (by decide) (by decide) (by decide) d_Model_build_89 ?_
  refine g_aload_n d_Model_build_90 rfl ?_
  refine w_get (k := 38) fl_Model_81 (by decide) rfl d_Model_build_91 ?_
  refine g_iconst (v := 0) d_Model_build_94 (by decide) ?_
  refine g_iconst (v := 0) d_Model_build_95 (by decide) ?_
  refine w_ast (j := 23) (q := 0) hmn (by decide) (by decide) (by decide) (by decide) d_Model_build_96 ?_
  refine g_iconst (v := 0) d_Model_build_97 (by decide) ?_
  refine g_istore_n d_Model_build_98 (by decide) rfl ?_
  have K_ := m_W_b_il (E := E) (d := d + 1) (G := G) (G0 := mW E G m n s) (m := m) (n := n) (s := rB1 s) (Q := Q) hmn ?_ 33 0 (by omega) (by omega)
  · have e : wR (rB1 s) 22 (blk ((rB1 s).2 22) 0 0 0) = rB1 s := by
      rw [blk_0]
      refine Prod.ext rfl (funext fun j => ?_)
      show upA (rB1 s).2 22 _ j = _
      unfold upA
      by_cases e : j = 22
      · rw [if_pos e, e]
      · rw [if_neg e]
    rw [e] at K_
    exact K_
  · refine g_aload_n d_Model_build_118 rfl ?_
    exact kk
set_option maxHeartbeats 400000 in
set_option maxRecDepth 100000 in
theorem m_W_b_j (hmn : m < n) (kk : GT E Y_Model_build d G0 145 [(0, .ref m), (1, .int 0), (2, .int 0), (3, .int 1)] [] (mW E G m n (wA (wA s 31 0 0) 32 0 (s.1 46))) Q) : GT E Y_Model_build d G0 122 [(0, .ref m)] [] (mW E G m n s) Q := by
  refine g_iconst (v := 0) d_Model_build_122 (by decide) ?_
  refine g_istore_n d_Model_build_123 (by decide) rfl ?_
  refine g_iconst (v := 0) d_Model_build_124 (by decide) ?_
  refine g_istore_n d_Model_build_125 (by decide) rfl ?_
  refine g_aload_n d_Model_build_126 rfl ?_
  refine w_get (k := 48) fl_Model_108 (by decide) rfl d_Model_build_127 ?_
  refine g_iconst (v := 0) d_Model_build_130 (by decide) ?_
  refine g_iconst (v := 0) d_Model_build_131 (by decide) ?_
  refine w_ast (j := 31) (q := 0) hmn (by decide) (by decide) (by decide) (by decide) d_Model_build_132 ?_
  refine g_aload_n d_Model_build_133 rfl ?_
  refine w_get (k := 49) fl_Model_111 (by decide) rfl d_Model_build_134 ?_
  refine g_iconst (v := 0) d_Model_build_137 (by decide) ?_
  refine g_aload_n d_Model_build_138 rfl ?_
  refine w_get (k := 46) (x := .int (s.1 46)) fl_Model_192 (by decide) rfl d_Model_build_139 ?_
  refine w_ast (j := 32) (q := 0) hmn (by decide) (by decide) (by decide) (by decide) d_Model_build_142 ?_
  refine g_iconst (v := 1) d_Model_build_143 (by decide) ?_
  refine g_istore_n d_Model_build_144 (by decide) rfl ?_
  exact kk
end MV
