/-! The reference: firstRows -/
theorem d_Model_firstRows_0 : decode Y_Model_firstRows.2.1 0 = .ok (.aload_n 0, 1) := by decide +kernel
theorem d_Model_firstRows_1 : decode Y_Model_firstRows.2.1 1 = .ok (.iconst 0, 1) := by decide +kernel
theorem d_Model_firstRows_2 : decode Y_Model_firstRows.2.1 2 = .ok (.putfield 192, 3) := by decide +kernel
theorem d_Model_firstRows_5 : decode Y_Model_firstRows.2.1 5 = .ok (.aload_n 0, 1) := by decide +kernel
theorem d_Model_firstRows_6 : decode Y_Model_firstRows.2.1 6 = .ok (.iconst 0, 1) := by decide +kernel
theorem d_Model_firstRows_7 : decode Y_Model_firstRows.2.1 7 = .ok (.putfield 195, 3) := by decide +kernel
theorem d_Model_firstRows_10 : decode Y_Model_firstRows.2.1 10 = .ok (.ldc 187, 2) := by decide +kernel
theorem d_Model_firstRows_12 : decode Y_Model_firstRows.2.1 12 = .ok (.istore_n 1, 1) := by decide +kernel
theorem d_Model_firstRows_13 : decode Y_Model_firstRows.2.1 13 = .ok (.iconst 0, 1) := by decide +kernel
theorem d_Model_firstRows_14 : decode Y_Model_firstRows.2.1 14 = .ok (.istore_n 2, 1) := by decide +kernel
theorem d_Model_firstRows_15 : decode Y_Model_firstRows.2.1 15 = .ok (.iload_n 2, 1) := by decide +kernel
theorem d_Model_firstRows_16 : decode Y_Model_firstRows.2.1 16 = .ok (.aload_n 0, 1) := by decide +kernel
theorem d_Model_firstRows_17 : decode Y_Model_firstRows.2.1 17 = .ok (.getfield 181, 3) := by decide +kernel
theorem d_Model_firstRows_20 : decode Y_Model_firstRows.2.1 20 = .ok (.if_icmp .ge 86, 3) := by decide +kernel
theorem d_Model_firstRows_23 : decode Y_Model_firstRows.2.1 23 = .ok (.aload_n 0, 1) := by decide +kernel
theorem d_Model_firstRows_24 : decode Y_Model_firstRows.2.1 24 = .ok (.getfield 195, 3) := by decide +kernel
theorem d_Model_firstRows_27 : decode Y_Model_firstRows.2.1 27 = .ok (.ifCond .ne 79, 3) := by decide +kernel
theorem d_Model_firstRows_30 : decode Y_Model_firstRows.2.1 30 = .ok (.aload_n 0, 1) := by decide +kernel
theorem d_Model_firstRows_31 : decode Y_Model_firstRows.2.1 31 = .ok (.getfield 91, 3) := by decide +kernel
theorem d_Model_firstRows_34 : decode Y_Model_firstRows.2.1 34 = .ok (.iload_n 1, 1) := by decide +kernel
theorem d_Model_firstRows_35 : decode Y_Model_firstRows.2.1 35 = .ok (.iload_n 2, 1) := by decide +kernel
theorem d_Model_firstRows_36 : decode Y_Model_firstRows.2.1 36 = .ok (.iastore, 1) := by decide +kernel
theorem d_Model_firstRows_37 : decode Y_Model_firstRows.2.1 37 = .ok (.aload_n 0, 1) := by decide +kernel
theorem d_Model_firstRows_38 : decode Y_Model_firstRows.2.1 38 = .ok (.getfield 94, 3) := by decide +kernel
theorem d_Model_firstRows_41 : decode Y_Model_firstRows.2.1 41 = .ok (.iload_n 1, 1) := by decide +kernel
theorem d_Model_firstRows_42 : decode Y_Model_firstRows.2.1 42 = .ok (.iconst 1, 1) := by decide +kernel
theorem d_Model_firstRows_43 : decode Y_Model_firstRows.2.1 43 = .ok (.iastore, 1) := by decide +kernel
theorem d_Model_firstRows_44 : decode Y_Model_firstRows.2.1 44 = .ok (.aload_n 0, 1) := by decide +kernel
theorem d_Model_firstRows_45 : decode Y_Model_firstRows.2.1 45 = .ok (.getfield 98, 3) := by decide +kernel
theorem d_Model_firstRows_48 : decode Y_Model_firstRows.2.1 48 = .ok (.bipush 26, 2) := by decide +kernel
theorem d_Model_firstRows_50 : decode Y_Model_firstRows.2.1 50 = .ok (.iload_n 1, 1) := by decide +kernel
theorem d_Model_firstRows_51 : decode Y_Model_firstRows.2.1 51 = .ok (.imul, 1) := by decide +kernel
theorem d_Model_firstRows_52 : decode Y_Model_firstRows.2.1 52 = .ok (.iconst 0, 1) := by decide +kernel
theorem d_Model_firstRows_53 : decode Y_Model_firstRows.2.1 53 = .ok (.iastore, 1) := by decide +kernel
theorem d_Model_firstRows_54 : decode Y_Model_firstRows.2.1 54 = .ok (.aload_n 0, 1) := by decide +kernel
theorem d_Model_firstRows_55 : decode Y_Model_firstRows.2.1 55 = .ok (.getfield 101, 3) := by decide +kernel
theorem d_Model_firstRows_58 : decode Y_Model_firstRows.2.1 58 = .ok (.bipush 26, 2) := by decide +kernel
theorem d_Model_firstRows_60 : decode Y_Model_firstRows.2.1 60 = .ok (.iload_n 1, 1) := by decide +kernel
theorem d_Model_firstRows_61 : decode Y_Model_firstRows.2.1 61 = .ok (.imul, 1) := by decide +kernel
theorem d_Model_firstRows_62 : decode Y_Model_firstRows.2.1 62 = .ok (.aload_n 0, 1) := by decide +kernel
theorem d_Model_firstRows_63 : decode Y_Model_firstRows.2.1 63 = .ok (.getfield 43, 3) := by decide +kernel
theorem d_Model_firstRows_66 : decode Y_Model_firstRows.2.1 66 = .ok (.iload_n 2, 1) := by decide +kernel
theorem d_Model_firstRows_67 : decode Y_Model_firstRows.2.1 67 = .ok (.iaload, 1) := by decide +kernel
theorem d_Model_firstRows_68 : decode Y_Model_firstRows.2.1 68 = .ok (.iastore, 1) := by decide +kernel
theorem d_Model_firstRows_69 : decode Y_Model_firstRows.2.1 69 = .ok (.iconst 0, 1) := by decide +kernel
theorem d_Model_firstRows_70 : decode Y_Model_firstRows.2.1 70 = .ok (.istore_n 3, 1) := by decide +kernel
theorem d_Model_firstRows_71 : decode Y_Model_firstRows.2.1 71 = .ok (.iload_n 3, 1) := by decide +kernel
theorem d_Model_firstRows_72 : decode Y_Model_firstRows.2.1 72 = .ok (.bipush 8, 2) := by decide +kernel
theorem d_Model_firstRows_74 : decode Y_Model_firstRows.2.1 74 = .ok (.if_icmp .ge 21, 3) := by decide +kernel
theorem d_Model_firstRows_77 : decode Y_Model_firstRows.2.1 77 = .ok (.aload_n 0, 1) := by decide +kernel
theorem d_Model_firstRows_78 : decode Y_Model_firstRows.2.1 78 = .ok (.getfield 105, 3) := by decide +kernel
theorem d_Model_firstRows_81 : decode Y_Model_firstRows.2.1 81 = .ok (.bipush 8, 2) := by decide +kernel
theorem d_Model_firstRows_83 : decode Y_Model_firstRows.2.1 83 = .ok (.iload_n 1, 1) := by decide +kernel
theorem d_Model_firstRows_84 : decode Y_Model_firstRows.2.1 84 = .ok (.imul, 1) := by decide +kernel
theorem d_Model_firstRows_85 : decode Y_Model_firstRows.2.1 85 = .ok (.iload_n 3, 1) := by decide +kernel
theorem d_Model_firstRows_86 : decode Y_Model_firstRows.2.1 86 = .ok (.iadd, 1) := by decide +kernel
theorem d_Model_firstRows_87 : decode Y_Model_firstRows.2.1 87 = .ok (.iconst (-1), 1) := by decide +kernel
theorem d_Model_firstRows_88 : decode Y_Model_firstRows.2.1 88 = .ok (.iastore, 1) := by decide +kernel
theorem d_Model_firstRows_89 : decode Y_Model_firstRows.2.1 89 = .ok (.iinc 3 1, 3) := by decide +kernel
theorem d_Model_firstRows_92 : decode Y_Model_firstRows.2.1 92 = .ok (.goto (-21), 3) := by decide +kernel
theorem d_Model_firstRows_95 : decode Y_Model_firstRows.2.1 95 = .ok (.aload_n 0, 1) := by decide +kernel
theorem d_Model_firstRows_96 : decode Y_Model_firstRows.2.1 96 = .ok (.iconst 0, 1) := by decide +kernel
theorem d_Model_firstRows_97 : decode Y_Model_firstRows.2.1 97 = .ok (.invokevirtual 198, 3) := by decide +kernel
theorem d_Model_firstRows_100 : decode Y_Model_firstRows.2.1 100 = .ok (.iinc 2 1, 3) := by decide +kernel
theorem d_Model_firstRows_103 : decode Y_Model_firstRows.2.1 103 = .ok (.goto (-88), 3) := by decide +kernel
theorem d_Model_firstRows_106 : decode Y_Model_firstRows.2.1 106 = .ok (.return_, 1) := by decide +kernel
section MQ
variable {E : gE} {d : Nat} {G G0 : gS} {m n : Nat} {s : mS} {Q : gO → gS → Prop}
/-- the work row of case c -/
def rFst0 (s : mS) (c : Nat) : mS := wA (wA (wA (wA s 26 41600 (nI c)) 27 41600 1) 28 (26 * 41600) 0) 29 (26 * 41600) (s.2 11 c)
def rFst (s : mS) (c : Nat) : mS := wR (rFst0 s c) 30 (blk (s.2 30) (8 * 41600) 8 (-1))
set_option maxHeartbeats 400000 in
set_option maxRecDepth 100000 in
theorem m_W_first_l (hmn : m < n) {c : Nat} (kk : GT E Y_Model_firstRows d G0 95 [(0, .ref m), (1, .int 41600), (2, .int (nI c)), (3, .int (nI 8))] [] (mW E G m n (wR s 30 (blk (s.2 30) (8 * 41600) 8 (-1)))) Q) : ∀ (w k : Nat), 8 < k + w → k ≤ 8 → GT E Y_Model_firstRows d G0 71 [(0, .ref m), (1, .int 41600), (2, .int (nI c)), (3, .int (nI k))] [] (mW E G m n (wR s 30 (blk (s.2 30) (8 * 41600) k (-1)))) Q := by
  intro w
  induction w with
  | zero => intro k h1 h2; omega
  | succ w ih =>
    intro k h1 h2
    refine g_iload_n d_Model_firstRows_71 rfl ?_
    refine g_bipush (v := 8) d_Model_firstRows_72 (by decide) ?_
    refine g_icmp_ge (tgt := 95) d_Model_firstRows_74 (by decide) (fun c_74 => ?_) (fun c_74 => ?_)
    · have e : k = 8 := by have := (le_hi i8 (nI_hi (n := k) (by omega))).mp c_74; omega
      subst e
      exact kk
    · refine g_aload_n d_Model_firstRows_77 rfl ?_
      refine w_get (k := 45) fl_Model_105 (by decide) rfl d_Model_firstRows_78 ?_
      refine g_bipush (v := 8) d_Model_firstRows_81 (by decide) ?_
      refine g_iload_n d_Model_firstRows_83 rfl ?_
      refine g_imul d_Model_firstRows_84 ?_
      refine g_iload_n d_Model_firstRows_85 rfl ?_
      refine g_iadd d_Model_firstRows_86 ?_
      refine g_iconst (v := (-1)) d_Model_firstRows_87 (by decide) ?_
      refine w_ast (j := 30) (q := 8 * 41600 + k) hmn (by decide) (by decide) (add_hi (m := 8 * 41600) (by decide) (nI_hi (n := k) (by omega)) (by omega)) (by show _ < 333120; omega) d_Model_firstRows_88 ?_
      refine g_iinc (v := nI k + 1) d_Model_firstRows_89 rfl (by rfl) (by decide) rfl ?_
      refine g_goto (tgt := 71) d_Model_firstRows_92 (by decide) ?_
      have e : wA (wR s 30 (blk (s.2 30) (8 * 41600) k (-1))) 30 (8 * 41600 + k) (-1) = wR s 30 (blk (s.2 30) (8 * 41600) (k + 1) (-1)) := by
        unfold wA wR
        refine Prod.ext rfl ?_
        show upA (upA s.2 30 _) 30 (upd (upA s.2 30 (blk (s.2 30) (8 * 41600) k (-1)) 30) (8 * 41600 + k) (-1)) = _
        rw [upA_at, blk_s]
        funext j
        unfold upA
        by_cases e : j = 30
        · subst e
          rfl
        · rw [if_neg e, if_neg e]
          exact (if_neg e).symm
      rw [e, nI_1]
      exact ih (k + 1) (by omega) (by have := Nat.not_le.mp (fun q => c_74 ((le_hi i8 (nI_hi (n := k) (by omega))).mpr q)); omega)
set_option maxHeartbeats 400000 in
set_option maxRecDepth 100000 in
theorem m_W_first_s (hmn : m < n) {c C : Nat} (h16 : s.1 16 = nI C) (hc : c < C) (bC : C ≤ 20) (h47 : s.1 47 = 0) (kk : GT E Y_Model_firstRows d G0 97 [(0, .ref m), (1, .int 41600), (2, .int (nI c)), (3, .int (nI 8))] [.int 0, .ref m] (mW E G m n (rFst s c)) Q) : GT E Y_Model_firstRows d G0 15 [(0, .ref m), (1, .int 41600), (2, .int (nI c))] [] (mW E G m n s) Q := by
  refine g_iload_n d_Model_firstRows_15 rfl ?_
  refine g_aload_n d_Model_firstRows_16 rfl ?_
  refine w_get (k := 16) (x := .int (s.1 16)) fl_Model_181 (by decide) rfl d_Model_firstRows_17 ?_
  refine g_icmp_ge (tgt := 106) d_Model_firstRows_20 (by decide) (fun c_20 => ?_) (fun c_20 => ?_)
  · exact absurd c_20 (fun y => absurd hc (Nat.not_lt.mpr ((le_hi (nI_hi (n := C) (by omega)) (nI_hi (n := c) (by omega))).mp (by rw [h16] at y; exact y))))
  refine g_aload_n d_Model_firstRows_23 rfl ?_
  refine w_get (k := 47) (x := .int (s.1 47)) fl_Model_195 (by decide) rfl d_Model_firstRows_24 ?_
  refine g_if_ne (tgt := 106) d_Model_firstRows_27 (by decide) (fun c_27 => ?_) (fun c_27 => ?_)
  · exact absurd c_27 (fun y => y h47)
  refine g_aload_n d_Model_firstRows_30 rfl ?_
  refine w_get (k := 41) fl_Model_91 (by decide) rfl d_Model_firstRows_31 ?_
  refine g_iload_n d_Model_firstRows_34 rfl ?_
  refine g_iload_n d_Model_firstRows_35 rfl ?_
  refine w_ast (j := 26) (q := 41600) hmn (by decide) (by decide) (by decide) (by show _ < 41640; omega) d_Model_firstRows_36 ?_
  refine g_aload_n d_Model_firstRows_37 rfl ?_
  refine w_get (k := 42) fl_Model_94 (by decide) rfl d_Model_firstRows_38 ?_
  refine g_iload_n d_Model_firstRows_41 rfl ?_
  refine g_iconst (v := 1) d_Model_firstRows_42 (by decide) ?_
  refine w_ast (j := 27) (q := 41600) hmn (by decide) (by decide) (by decide) (by show _ < 41640; omega) d_Model_firstRows_43 ?_
  refine g_aload_n d_Model_firstRows_44 rfl ?_
  refine w_get (k := 43) fl_Model_98 (by decide) rfl d_Model_firstRows_45 ?_
  refine g_bipush (v := 26) d_Model_firstRows_48 (by decide) ?_
  refine g_iload_n d_Model_firstRows_50 rfl ?_
  refine g_imul d_Model_firstRows_51 ?_
  refine g_iconst (v := 0) d_Model_firstRows_52 (by decide) ?_
  refine w_ast (j := 28) (q := 26 * 41600) hmn (by decide) (by decide) (by decide) (by show _ < 1082640; omega) d_Model_firstRows_53 ?_
  refine g_aload_n d_Model_firstRows_54 rfl ?_
  refine w_get (k := 44) fl_Model_101 (by decide) rfl d_Model_firstRows_55 ?_
  refine g_bipush (v := 26) d_Model_firstRows_58 (by decide) ?_
  refine g_iload_n d_Model_firstRows_60 rfl ?_
  refine g_imul d_Model_firstRows_61 ?_
  refine g_aload_n d_Model_firstRows_62 rfl ?_
  refine w_get (k := 17) fl_Model_43 (by decide) rfl d_Model_firstRows_63 ?_
  refine g_iload_n d_Model_firstRows_66 rfl ?_
  refine w_ald (j := 11) (q := c) (x := s.2 11 c) hmn (by decide) (by decide) (nI_hi (by omega)) (by show _ < 20; omega) rfl d_Model_firstRows_67 ?_
  refine w_ast (j := 29) (q := 26 * 41600) hmn (by decide) (by decide) (by decide) (by show _ < 1082640; omega) d_Model_firstRows_68 ?_
  refine g_iconst (v := 0) d_Model_firstRows_69 (by decide) ?_
  refine g_istore_n d_Model_firstRows_70 (by decide) rfl ?_
  have K_ := m_W_first_l (E := E) (d := d) (G := G) (G0 := G0) (m := m) (n := n) (s := rFst0 s c) (c := c) (Q := Q) hmn ?_ 9 0 (by omega) (by omega)
  · have e : wR (rFst0 s c) 30 (blk ((rFst0 s c).2 30) (8 * 41600) 0 (-1)) = rFst0 s c := by
      rw [blk_0]
      refine Prod.ext rfl (funext fun j => ?_)
      show upA (rFst0 s c).2 30 _ j = _
      unfold upA
      by_cases e : j = 30
      · rw [if_pos e, e]
      · rw [if_neg e]
    rw [e] at K_
    exact K_
  · refine g_aload_n d_Model_firstRows_95 rfl ?_
    refine g_iconst (v := 0) d_Model_firstRows_96 (by decide) ?_
    exact kk
set_option maxHeartbeats 400000 in
set_option maxRecDepth 100000 in
theorem m_W_first_e (hmn : m < n) {c C : Nat} (h16 : s.1 16 = nI C) (hc : ¬ c < C ∨ ¬ s.1 47 = 0) (bC : c ≤ 20 ∧ C ≤ 20) (kk : Q (.inl none) (mW E G m n s)) : GT E Y_Model_firstRows d G0 15 [(0, .ref m), (1, .int 41600), (2, .int (nI c))] [] (mW E G m n s) Q := by
  refine g_iload_n d_Model_firstRows_15 rfl ?_
  refine g_aload_n d_Model_firstRows_16 rfl ?_
  refine w_get (k := 16) (x := .int (s.1 16)) fl_Model_181 (by decide) rfl d_Model_firstRows_17 ?_
  refine g_icmp_ge (tgt := 106) d_Model_firstRows_20 (by decide) (fun c_20 => ?_) (fun c_20 => ?_)
  · refine g_vret rfl d_Model_firstRows_106 ?_
    exact kk
  · have hc47 : ¬ s.1 47 = 0 := hc.resolve_left (fun f => f (Nat.not_le.mp (fun q => c_20 (by rw [h16]; exact (le_hi (nI_hi (n := C) (by omega)) (nI_hi (n := c) (by omega))).mpr q))))
    refine g_aload_n d_Model_firstRows_23 rfl ?_
    refine w_get (k := 47) (x := .int (s.1 47)) fl_Model_195 (by decide) rfl d_Model_firstRows_24 ?_
    refine g_if_ne (tgt := 106) d_Model_firstRows_27 (by decide) (fun c_27 => ?_) (fun c_27 => ?_)
    rotate_left
    · exact absurd c_27 hc47
    refine g_vret rfl d_Model_firstRows_106 ?_
    exact kk
set_option maxHeartbeats 400000 in
set_option maxRecDepth 100000 in
theorem m_W_first_i (hmn : m < n) (kk : GT E Y_Model_firstRows d (mW E G m n s) 15 [(0, .ref m), (1, .int 41600), (2, .int 0)] [] (mW E G m n (wF (wF s 46 0) 47 0)) Q) : GM E Y_Model_firstRows d [.ref m] (mW E G m n s) Q := by
  refine g_entry (by decide) (by simp [Value.category]) (Nat.le_of_ble_eq_true rfl) ?_
  refine g_aload_n d_Model_firstRows_0 rfl ?_
  refine g_iconst (v := 0) d_Model_firstRows_1 (by decide) ?_
  refine w_put (k := 46) fl_Model_192 (by decide) rfl rfl rfl rfl (Nat.le_of_ble_eq_true rfl) d_Model_firstRows_2 ?_
  refine g_aload_n d_Model_firstRows_5 rfl ?_
  refine g_iconst (v := 0) d_Model_firstRows_6 (by decide) ?_
  refine w_put (k := 47) fl_Model_195 (by decide) rfl rfl rfl rfl (Nat.le_of_ble_eq_true rfl) d_Model_firstRows_7 ?_
  refine g_ldc cn_Model_187 d_Model_firstRows_10 ?_
  refine g_istore_n d_Model_firstRows_12 (by decide) rfl ?_
  refine g_iconst (v := 0) d_Model_firstRows_13 (by decide) ?_
  refine g_istore_n d_Model_firstRows_14 (by decide) rfl ?_
  exact kk
end MQ
