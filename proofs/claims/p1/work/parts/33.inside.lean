/-! The reference: inside -/
theorem d_Model_inside_0 : decode Y_Model_inside.2.1 0 = .ok (.bipush 32, 2) := by decide +kernel
theorem d_Model_inside_2 : decode Y_Model_inside.2.1 2 = .ok (.iload_n 1, 1) := by decide +kernel
theorem d_Model_inside_3 : decode Y_Model_inside.2.1 3 = .ok (.imul, 1) := by decide +kernel
theorem d_Model_inside_4 : decode Y_Model_inside.2.1 4 = .ok (.iconst 4, 1) := by decide +kernel
theorem d_Model_inside_5 : decode Y_Model_inside.2.1 5 = .ok (.iload_n 2, 1) := by decide +kernel
theorem d_Model_inside_6 : decode Y_Model_inside.2.1 6 = .ok (.imul, 1) := by decide +kernel
theorem d_Model_inside_7 : decode Y_Model_inside.2.1 7 = .ok (.iadd, 1) := by decide +kernel
theorem d_Model_inside_8 : decode Y_Model_inside.2.1 8 = .ok (.iload_n 3, 1) := by decide +kernel
theorem d_Model_inside_9 : decode Y_Model_inside.2.1 9 = .ok (.iadd, 1) := by decide +kernel
theorem d_Model_inside_10 : decode Y_Model_inside.2.1 10 = .ok (.istore 4, 2) := by decide +kernel
theorem d_Model_inside_12 : decode Y_Model_inside.2.1 12 = .ok (.aload_n 0, 1) := by decide +kernel
theorem d_Model_inside_13 : decode Y_Model_inside.2.1 13 = .ok (.getfield 78, 3) := by decide +kernel
theorem d_Model_inside_16 : decode Y_Model_inside.2.1 16 = .ok (.iload 4, 2) := by decide +kernel
theorem d_Model_inside_18 : decode Y_Model_inside.2.1 18 = .ok (.iaload, 1) := by decide +kernel
theorem d_Model_inside_19 : decode Y_Model_inside.2.1 19 = .ok (.ifCond .ne 112, 3) := by decide +kernel
theorem d_Model_inside_22 : decode Y_Model_inside.2.1 22 = .ok (.aload_n 0, 1) := by decide +kernel
theorem d_Model_inside_23 : decode Y_Model_inside.2.1 23 = .ok (.getfield 78, 3) := by decide +kernel
theorem d_Model_inside_26 : decode Y_Model_inside.2.1 26 = .ok (.iload 4, 2) := by decide +kernel
theorem d_Model_inside_28 : decode Y_Model_inside.2.1 28 = .ok (.aload_n 0, 1) := by decide +kernel
theorem d_Model_inside_29 : decode Y_Model_inside.2.1 29 = .ok (.getfield 202, 3) := by decide +kernel
theorem d_Model_inside_32 : decode Y_Model_inside.2.1 32 = .ok (.iastore, 1) := by decide +kernel
theorem d_Model_inside_33 : decode Y_Model_inside.2.1 33 = .ok (.aload_n 0, 1) := by decide +kernel
theorem d_Model_inside_34 : decode Y_Model_inside.2.1 34 = .ok (.getfield 71, 3) := by decide +kernel
theorem d_Model_inside_37 : decode Y_Model_inside.2.1 37 = .ok (.aload_n 0, 1) := by decide +kernel
theorem d_Model_inside_38 : decode Y_Model_inside.2.1 38 = .ok (.getfield 202, 3) := by decide +kernel
theorem d_Model_inside_41 : decode Y_Model_inside.2.1 41 = .ok (.aload_n 0, 1) := by decide +kernel
theorem d_Model_inside_42 : decode Y_Model_inside.2.1 42 = .ok (.getfield 71, 3) := by decide +kernel
theorem d_Model_inside_45 : decode Y_Model_inside.2.1 45 = .ok (.iload_n 1, 1) := by decide +kernel
theorem d_Model_inside_46 : decode Y_Model_inside.2.1 46 = .ok (.iaload, 1) := by decide +kernel
theorem d_Model_inside_47 : decode Y_Model_inside.2.1 47 = .ok (.iconst 1, 1) := by decide +kernel
theorem d_Model_inside_48 : decode Y_Model_inside.2.1 48 = .ok (.iadd, 1) := by decide +kernel
theorem d_Model_inside_49 : decode Y_Model_inside.2.1 49 = .ok (.iastore, 1) := by decide +kernel
theorem d_Model_inside_50 : decode Y_Model_inside.2.1 50 = .ok (.aload_n 0, 1) := by decide +kernel
theorem d_Model_inside_51 : decode Y_Model_inside.2.1 51 = .ok (.getfield 74, 3) := by decide +kernel
theorem d_Model_inside_54 : decode Y_Model_inside.2.1 54 = .ok (.aload_n 0, 1) := by decide +kernel
theorem d_Model_inside_55 : decode Y_Model_inside.2.1 55 = .ok (.getfield 202, 3) := by decide +kernel
theorem d_Model_inside_58 : decode Y_Model_inside.2.1 58 = .ok (.aload_n 0, 1) := by decide +kernel
theorem d_Model_inside_59 : decode Y_Model_inside.2.1 59 = .ok (.getfield 16, 3) := by decide +kernel
theorem d_Model_inside_62 : decode Y_Model_inside.2.1 62 = .ok (.iconst 4, 1) := by decide +kernel
theorem d_Model_inside_63 : decode Y_Model_inside.2.1 63 = .ok (.bipush 8, 2) := by decide +kernel
theorem d_Model_inside_65 : decode Y_Model_inside.2.1 65 = .ok (.aload_n 0, 1) := by decide +kernel
theorem d_Model_inside_66 : decode Y_Model_inside.2.1 66 = .ok (.getfield 74, 3) := by decide +kernel
theorem d_Model_inside_69 : decode Y_Model_inside.2.1 69 = .ok (.iload_n 1, 1) := by decide +kernel
theorem d_Model_inside_70 : decode Y_Model_inside.2.1 70 = .ok (.iaload, 1) := by decide +kernel
theorem d_Model_inside_71 : decode Y_Model_inside.2.1 71 = .ok (.imul, 1) := by decide +kernel
theorem d_Model_inside_72 : decode Y_Model_inside.2.1 72 = .ok (.iload_n 2, 1) := by decide +kernel
theorem d_Model_inside_73 : decode Y_Model_inside.2.1 73 = .ok (.iadd, 1) := by decide +kernel
theorem d_Model_inside_74 : decode Y_Model_inside.2.1 74 = .ok (.imul, 1) := by decide +kernel
theorem d_Model_inside_75 : decode Y_Model_inside.2.1 75 = .ok (.iload_n 3, 1) := by decide +kernel
theorem d_Model_inside_76 : decode Y_Model_inside.2.1 76 = .ok (.iadd, 1) := by decide +kernel
theorem d_Model_inside_77 : decode Y_Model_inside.2.1 77 = .ok (.iaload, 1) := by decide +kernel
theorem d_Model_inside_78 : decode Y_Model_inside.2.1 78 = .ok (.iastore, 1) := by decide +kernel
theorem d_Model_inside_79 : decode Y_Model_inside.2.1 79 = .ok (.aload_n 0, 1) := by decide +kernel
theorem d_Model_inside_80 : decode Y_Model_inside.2.1 80 = .ok (.getfield 81, 3) := by decide +kernel
theorem d_Model_inside_83 : decode Y_Model_inside.2.1 83 = .ok (.aload_n 0, 1) := by decide +kernel
theorem d_Model_inside_84 : decode Y_Model_inside.2.1 84 = .ok (.getfield 202, 3) := by decide +kernel
theorem d_Model_inside_87 : decode Y_Model_inside.2.1 87 = .ok (.iconst 0, 1) := by decide +kernel
theorem d_Model_inside_88 : decode Y_Model_inside.2.1 88 = .ok (.iastore, 1) := by decide +kernel
theorem d_Model_inside_89 : decode Y_Model_inside.2.1 89 = .ok (.iconst 0, 1) := by decide +kernel
theorem d_Model_inside_90 : decode Y_Model_inside.2.1 90 = .ok (.istore 5, 2) := by decide +kernel
theorem d_Model_inside_92 : decode Y_Model_inside.2.1 92 = .ok (.iload 5, 2) := by decide +kernel
theorem d_Model_inside_94 : decode Y_Model_inside.2.1 94 = .ok (.bipush 32, 2) := by decide +kernel
theorem d_Model_inside_96 : decode Y_Model_inside.2.1 96 = .ok (.if_icmp .ge 25, 3) := by decide +kernel
theorem d_Model_inside_99 : decode Y_Model_inside.2.1 99 = .ok (.aload_n 0, 1) := by decide +kernel
theorem d_Model_inside_100 : decode Y_Model_inside.2.1 100 = .ok (.getfield 78, 3) := by decide +kernel
theorem d_Model_inside_103 : decode Y_Model_inside.2.1 103 = .ok (.bipush 32, 2) := by decide +kernel
theorem d_Model_inside_105 : decode Y_Model_inside.2.1 105 = .ok (.aload_n 0, 1) := by decide +kernel
theorem d_Model_inside_106 : decode Y_Model_inside.2.1 106 = .ok (.getfield 202, 3) := by decide +kernel
theorem d_Model_inside_109 : decode Y_Model_inside.2.1 109 = .ok (.imul, 1) := by decide +kernel
theorem d_Model_inside_110 : decode Y_Model_inside.2.1 110 = .ok (.iload 5, 2) := by decide +kernel
theorem d_Model_inside_112 : decode Y_Model_inside.2.1 112 = .ok (.iadd, 1) := by decide +kernel
theorem d_Model_inside_113 : decode Y_Model_inside.2.1 113 = .ok (.iconst 0, 1) := by decide +kernel
theorem d_Model_inside_114 : decode Y_Model_inside.2.1 114 = .ok (.iastore, 1) := by decide +kernel
theorem d_Model_inside_115 : decode Y_Model_inside.2.1 115 = .ok (.iinc 5 1, 3) := by decide +kernel
theorem d_Model_inside_118 : decode Y_Model_inside.2.1 118 = .ok (.goto (-26), 3) := by decide +kernel
theorem d_Model_inside_121 : decode Y_Model_inside.2.1 121 = .ok (.aload_n 0, 1) := by decide +kernel
theorem d_Model_inside_122 : decode Y_Model_inside.2.1 122 = .ok (.dup, 1) := by decide +kernel
theorem d_Model_inside_123 : decode Y_Model_inside.2.1 123 = .ok (.getfield 202, 3) := by decide +kernel
theorem d_Model_inside_126 : decode Y_Model_inside.2.1 126 = .ok (.iconst 1, 1) := by decide +kernel
theorem d_Model_inside_127 : decode Y_Model_inside.2.1 127 = .ok (.iadd, 1) := by decide +kernel
theorem d_Model_inside_128 : decode Y_Model_inside.2.1 128 = .ok (.putfield 202, 3) := by decide +kernel
theorem d_Model_inside_131 : decode Y_Model_inside.2.1 131 = .ok (.aload_n 0, 1) := by decide +kernel
theorem d_Model_inside_132 : decode Y_Model_inside.2.1 132 = .ok (.getfield 78, 3) := by decide +kernel
theorem d_Model_inside_135 : decode Y_Model_inside.2.1 135 = .ok (.iload 4, 2) := by decide +kernel
theorem d_Model_inside_137 : decode Y_Model_inside.2.1 137 = .ok (.iaload, 1) := by decide +kernel
theorem d_Model_inside_138 : decode Y_Model_inside.2.1 138 = .ok (.ireturn, 1) := by decide +kernel
section MJ
variable {E : gE} {d : Nat} {G G0 : gS} {m n : Nat} {s : mS} {Q : gO → gS → Prop}
def rInS (s : mS) (P C K : Nat) : mS := wA (wA (wA (wA s 22 (32 * P + 4 * C + K) (s.1 34)) 20 (tn (s.1 34)) (s.2 20 P + 1)) 21 (tn (s.1 34)) (s.2 2 (4 * (8 * tn (s.2 21 P) + C) + K))) 23 (tn (s.1 34)) 0
/-- the place of argument K of constructor C at place P: made, where there is none yet -/
def rIn (s : mS) (P C K : Nat) : mS := if s.2 22 (32 * P + 4 * C + K) = 0 then wF (wR (rInS s P C K) 22 (blk ((rInS s P C K).2 22) (32 * tn (s.1 34)) 32 0)) 34 (s.1 34 + 1) else s
set_option maxHeartbeats 400000 in
set_option maxRecDepth 100000 in
theorem m_W_inside_l (hmn : m < n) {p c k3 q4 : Int32} {X : Nat} (hX : (s.1 34).toInt = (X : Int)) (bX : X < 2200) (kk : GT E Y_Model_inside d G0 121 [(0, .ref m), (1, .int p), (2, .int c), (3, .int k3), (4, .int q4)] [] (mW E G m n (wR s 22 (blk (s.2 22) (32 * X) 32 0))) Q) : ∀ (w k : Nat), 33 ≤ k + w → k ≤ 32 → GT E Y_Model_inside d G0 92 [(0, .ref m), (1, .int p), (2, .int c), (3, .int k3), (4, .int q4), (5, .int (nI k))] [] (mW E G m n (wR s 22 (blk (s.2 22) (32 * X) k 0))) Q := by
  intro w
  induction w with
  | zero => intro k h1 h2; omega
  | succ w ih =>
    intro k hm hkN
    refine g_iload d_Model_inside_92 rfl ?_
    refine g_bipush (v := 32) d_Model_inside_94 (by decide) ?_
    refine g_icmp_ge (tgt := 121) d_Model_inside_96 (by decide) (fun c_96 => ?_) (fun c_96 => ?_)
    · have e : k = 32 := by have := (le_hi (nI_hi (n := 32) (by decide)) (nI_hi (n := k) (by omega))).mp c_96; omega
      subst e
      exact g_weak (lv := [(0, .ref m), (1, .int p), (2, .int c), (3, .int k3), (4, .int q4), (5, .int (nI 32))]) (by simp) (by simp) kk
    · have hk : k < 32 := Nat.not_le.mp (fun q => c_96 ((le_hi (nI_hi (n := 32) (by decide)) (nI_hi (n := k) (by omega))).mpr q))
      refine g_aload_n d_Model_inside_99 rfl ?_
      refine w_get (k := 37) fl_Model_78 (by decide) rfl d_Model_inside_100 ?_
      refine g_bipush (v := 32) d_Model_inside_103 (by decide) ?_
      refine g_aload_n d_Model_inside_105 rfl ?_
      refine w_get (k := 34) (x := .int (s.1 34)) fl_Model_202 (by decide) rfl d_Model_inside_106 ?_
      refine g_imul d_Model_inside_109 ?_
      refine g_iload d_Model_inside_110 rfl ?_
      refine g_iadd d_Model_inside_112 ?_
      refine g_iconst (v := 0) d_Model_inside_113 (by decide) ?_
      refine w_ast (j := 22) (q := 32 * X + k) hmn (by decide) (by decide) (add_hi (mul_hi (m := 32) (by decide) hX (by omega)) (nI_hi (n := k) (by omega)) (by omega)) (by show _ < 70400; omega) d_Model_inside_114 ?_
      refine g_iinc (v := nI k + 1) d_Model_inside_115 rfl (by rfl) (by decide) rfl ?_
      refine g_goto (tgt := 92) d_Model_inside_118 (by decide) ?_
      rw [wR_s, nI_1]
      exact ih (k + 1) (by omega) (by omega)
set_option maxHeartbeats 400000 in
set_option maxRecDepth 100000 in
theorem m_W_inside (hmn : m < n) {p c k3 : Int32} {P C K : Nat} (hp : p.toInt = (P : Int)) (hc : c.toInt = (C : Int)) (hk : k3.toInt = (K : Int)) (bP : P < 2200) (bC : C < 8) (bK : K < 4) (h34 : ¬ s.1 34 < 0) (bX : tn (s.1 34) < 2200) (hT : ¬ s.2 21 P < 0 ∧ tn (s.2 21 P) < 16) : GM E Y_Model_inside d [.ref m, .int p, .int c, .int k3] (mW E G m n s) (rIs (some (.int ((rIn s P C K).2 22 (32 * P + 4 * C + K)))) (mW E G m n (rIn s P C K))) := by
  refine g_entry (by decide) (by simp [Value.category]) (Nat.le_of_ble_eq_true rfl) ?_
  have hX := tn_hi h34
  have bT := hT.2
  refine g_bipush (v := 32) d_Model_inside_0 (by decide) ?_
  refine g_iload_n d_Model_inside_2 rfl ?_
  refine g_imul d_Model_inside_3 ?_
  refine g_iconst (v := 4) d_Model_inside_4 (by decide) ?_
  refine g_iload_n d_Model_inside_5 rfl ?_
  refine g_imul d_Model_inside_6 ?_
  refine g_iadd d_Model_inside_7 ?_
  refine g_iload_n d_Model_inside_8 rfl ?_
  refine g_iadd d_Model_inside_9 ?_
  refine g_istore d_Model_inside_10 (by decide) rfl ?_
  refine g_aload_n d_Model_inside_12 rfl ?_
  refine w_get (k := 37) fl_Model_78 (by decide) rfl d_Model_inside_13 ?_
  refine g_iload d_Model_inside_16 rfl ?_
  refine w_ald (j := 22) (q := 32 * P + 4 * C + K) (x := s.2 22 (32 * P + 4 * C + K)) hmn (by decide) (by decide) (add_hi (add_hi (mul_hi (m := 32) (by decide) hp (by omega)) (mul_hi i4 hc (by omega)) (by omega)) hk (by omega)) (by show _ < 70400; omega) rfl d_Model_inside_18 ?_
  refine g_if_ne (tgt := 131) d_Model_inside_19 (by decide) (fun c_19 => ?_) (fun c_19 => ?_)
  · refine g_aload_n d_Model_inside_131 rfl ?_
    refine w_get (k := 37) fl_Model_78 (by decide) rfl d_Model_inside_132 ?_
    refine g_iload d_Model_inside_135 rfl ?_
    refine w_ald (j := 22) (q := 32 * P + 4 * C + K) (x := s.2 22 (32 * P + 4 * C + K)) hmn (by decide) (by decide) (add_hi (add_hi (mul_hi (m := 32) (by decide) hp (by omega)) (mul_hi i4 hc (by omega)) (by omega)) hk (by omega)) (by show _ < 70400; omega) rfl d_Model_inside_137 ?_
    refine g_iret rfl d_Model_inside_138 ?_
    have e : rIn s P C K = s := if_neg c_19
    rw [e]
    exact ⟨rfl, rfl⟩
  · refine g_aload_n d_Model_inside_22 rfl ?_
    refine w_get (k := 37) fl_Model_78 (by decide) rfl d_Model_inside_23 ?_
    refine g_iload d_Model_inside_26 rfl ?_
    refine g_aload_n d_Model_inside_28 rfl ?_
    refine w_get (k := 34) (x := .int (s.1 34)) fl_Model_202 (by decide) rfl d_Model_inside_29 ?_
    refine w_ast (j := 22) (q := 32 * P + 4 * C + K) hmn (by decide) (by decide) (add_hi (add_hi (mul_hi (m := 32) (by decide) hp (by omega)) (mul_hi i4 hc (by omega)) (by omega)) hk (by omega)) (by show _ < 70400; omega) d_Model_inside_32 ?_
    refine g_aload_n d_Model_inside_33 rfl ?_
    refine w_get (k := 35) fl_Model_71 (by decide) rfl d_Model_inside_34 ?_
    refine g_aload_n d_Model_inside_37 rfl ?_
    refine w_get (k := 34) (x := .int (s.1 34)) fl_Model_202 (by decide) rfl d_Model_inside_38 ?_
    refine g_aload_n d_Model_inside_41 rfl ?_
    refine w_get (k := 35) fl_Model_71 (by decide) rfl d_Model_inside_42 ?_
    refine g_iload_n d_Model_inside_45 rfl ?_
    refine w_ald (j := 20) (q := P) (x := s.2 20 (P)) hmn (by decide) (by decide) hp (by show _ < 2200; omega) rfl d_Model_inside_46 ?_
    refine g_iconst (v := 1) d_Model_inside_47 (by decide) ?_
    refine g_iadd d_Model_inside_48 ?_
    refine w_ast (j := 20) (q := tn (s.1 34)) hmn (by decide) (by decide) hX (by show _ < 2200; omega) d_Model_inside_49 ?_
    refine g_aload_n d_Model_inside_50 rfl ?_
    refine w_get (k := 36) fl_Model_74 (by decide) rfl d_Model_inside_51 ?_
    refine g_aload_n d_Model_inside_54 rfl ?_
    refine w_get (k := 34) (x := .int (s.1 34)) fl_Model_202 (by decide) rfl d_Model_inside_55 ?_
    refine g_aload_n d_Model_inside_58 rfl ?_
    refine w_get (k := 3) fl_Model_16 (by decide) rfl d_Model_inside_59 ?_
    refine g_iconst (v := 4) d_Model_inside_62 (by decide) ?_
    refine g_bipush (v := 8) d_Model_inside_63 (by decide) ?_
    refine g_aload_n d_Model_inside_65 rfl ?_
    refine w_get (k := 36) fl_Model_74 (by decide) rfl d_Model_inside_66 ?_
    refine g_iload_n d_Model_inside_69 rfl ?_
    refine w_ald (j := 21) (q := P) (x := s.2 21 (P)) hmn (by decide) (by decide) hp (by show _ < 2200; omega) rfl d_Model_inside_70 ?_
    refine g_imul d_Model_inside_71 ?_
    refine g_iload_n d_Model_inside_72 rfl ?_
    refine g_iadd d_Model_inside_73 ?_
    refine g_imul d_Model_inside_74 ?_
    refine g_iload_n d_Model_inside_75 rfl ?_
    refine g_iadd d_Model_inside_76 ?_
    refine w_ald (j := 2) (q := 4 * (8 * tn (s.2 21 P) + C) + K) (x := s.2 2 (4 * (8 * tn (s.2 21 P) + C) + K)) hmn (by decide) (by decide) (add_hi (mul_hi i4 (add_hi (mul_hi i8 (tn_hi hT.1) (by omega)) hc (by omega)) (by omega)) hk (by omega)) (by show _ < 512; omega) rfl d_Model_inside_77 ?_
    refine w_ast (j := 21) (q := tn (s.1 34)) hmn (by decide) (by decide) hX (by show _ < 2200; omega) d_Model_inside_78 ?_
    refine g_aload_n d_Model_inside_79 rfl ?_
    refine w_get (k := 38) fl_Model_81 (by decide) rfl d_Model_inside_80 ?_
    refine g_aload_n d_Model_inside_83 rfl ?_
    refine w_get (k := 34) (x := .int (s.1 34)) fl_Model_202 (by decide) rfl d_Model_inside_84 ?_
    refine g_iconst (v := 0) d_Model_inside_87 (by decide) ?_
    refine w_ast (j := 23) (q := tn (s.1 34)) hmn (by decide) (by decide) hX (by show _ < 2200; omega) d_Model_inside_88 ?_
    refine g_iconst (v := 0) d_Model_inside_89 (by decide) ?_
    refine g_istore d_Model_inside_90 (by decide) rfl ?_
    rw [← wR_0 (s := (wA (wA (wA (wA s 22 (32 * P + 4 * C + K) (s.1 34)) 20 (tn (s.1 34)) ((s.2 20 (P)) + (1))) 21 (tn (s.1 34)) (s.2 2 (4 * (8 * tn (s.2 21 P) + C) + K))) 23 (tn (s.1 34)) (0))) (j := 22) (b := 32 * tn (s.1 34)) (x := 0)]
    refine m_W_inside_l (s := (rInS s P C K)) (X := tn (s.1 34)) hmn hX bX ?_ 33 0 (by omega) (by omega)
    refine g_aload_n d_Model_inside_121 rfl ?_
    refine g_dup d_Model_inside_122 rfl ?_
    refine w_get (k := 34) (x := .int (s.1 34)) fl_Model_202 (by decide) rfl d_Model_inside_123 ?_
    refine g_iconst (v := 1) d_Model_inside_126 (by decide) ?_
    refine g_iadd d_Model_inside_127 ?_
    refine w_put (k := 34) fl_Model_202 (by decide) rfl rfl rfl rfl (Nat.le_of_ble_eq_true rfl) d_Model_inside_128 ?_
    refine g_aload_n d_Model_inside_131 rfl ?_
    refine w_get (k := 37) fl_Model_78 (by decide) rfl d_Model_inside_132 ?_
    refine g_iload d_Model_inside_135 rfl ?_
    refine w_ald (j := 22) (q := 32 * P + 4 * C + K) (x := (wF (wR (rInS s P C K) 22 (blk ((rInS s P C K).2 22) (32 * tn (s.1 34)) 32 0)) 34 (s.1 34 + 1)).2 22 (32 * P + 4 * C + K)) hmn (by decide) (by decide) (add_hi (add_hi (mul_hi (m := 32) (by decide) hp (by omega)) (mul_hi i4 hc (by omega)) (by omega)) hk (by omega)) (by show _ < 70400; omega) rfl d_Model_inside_137 ?_
    refine g_iret rfl d_Model_inside_138 ?_
    have e : rIn s P C K = (wF (wR (rInS s P C K) 22 (blk ((rInS s P C K).2 22) (32 * tn (s.1 34)) 32 0)) 34 (s.1 34 + 1)) := if_pos c_19
    rw [e]
    exact ⟨rfl, rfl⟩
end MJ
