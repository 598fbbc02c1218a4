/-! The reference: bound, boundAt of a name that has nothing -/
section MO
variable {E : gE} {d : Nat} {G : gS} {m n : Nat} {s : mS}
set_option maxHeartbeats 400000 in
set_option maxRecDepth 100000 in
theorem m_W_bound_n1 (hmn : m < n) (x : Int32) (h : ¬ x < 0 → x ≤ 7 → s.2 38 (tn x) = -1) : GM E Y_Model_bound (d + 1) [.ref m, .int x] (mW E G m n s) (rIs (some (.int ((if x < 0 ∨ ¬ x ≤ 7 then ((0 : Int32), wF s 0 1) else (0, wF s 0 0))).1)) (mW E G m n ((if x < 0 ∨ ¬ x ≤ 7 then ((0 : Int32), wF s 0 1) else (0, wF s 0 0))).2)) := by
  refine g_entry (by decide) (by simp [Value.category]) (Nat.le_of_ble_eq_true rfl) ?_
  refine g_aload_n d_Model_bound_0 rfl ?_
  refine g_iload_n d_Model_bound_1 rfl ?_
  refine g_if_lt (tgt := 11) d_Model_bound_2 (by decide) (fun c_2 => ?_) (fun c_2 => ?_)
  · refine g_iconst (v := 1) d_Model_bound_11 (by decide) ?_
    refine g_goto (tgt := 16) d_Model_bound_12 (by decide) ?_
    refine c_Vr (as := [.int (1)]) kv_Model_refuses ml_Model_153 rfl mw_f (m_W_refuses1 (s := s) hmn) rfl (Nat.le_of_ble_eq_true rfl) rfl d_Model_bound_16 rfl ?_
    refine g_if_ne (tgt := 32) d_Model_bound_19 (by decide) (fun c_19 => ?_) (fun c_19 => absurd c_19 (by decide))
    refine g_iconst (v := 0) d_Model_bound_32 (by decide) ?_
    refine g_iret rfl d_Model_bound_33 ?_
    rw [if_pos (show x < 0 ∨ ¬ x ≤ 7 from by first | exact Or.inl c_2 | exact Or.inr c_8)]
    exact ⟨rfl, rfl⟩
  · refine g_iload_n d_Model_bound_5 rfl ?_
    refine g_bipush (v := 7) d_Model_bound_6 (by decide) ?_
    refine g_icmp_le (tgt := 15) d_Model_bound_8 (by decide) (fun c_8 => ?_) (fun c_8 => ?_)
    · refine g_iconst (v := 0) d_Model_bound_15 (by decide) ?_
      refine c_Vr (as := [.int (0)]) kv_Model_refuses ml_Model_153 rfl mw_f (m_W_refuses0 (s := s) hmn) rfl (Nat.le_of_ble_eq_true rfl) rfl d_Model_bound_16 rfl ?_
      refine g_if_ne (tgt := 32) d_Model_bound_19 (by decide) (fun c_19 => absurd c_19 (by decide)) (fun c_19 => ?_)
      refine g_aload_n d_Model_bound_22 rfl ?_
      refine w_get (k := 56) fl_Model_129 (by decide) rfl d_Model_bound_23 ?_
      refine g_iload_n d_Model_bound_26 rfl ?_
      refine w_ald (j := 38) (q := tn x) (x := s.2 38 (tn x)) hmn (by decide) (by decide) (tn_hi c_2) (by have := tn_ly c_2 c_8 (k := 7) (by decide); show _ < 8; omega) rfl d_Model_bound_27 ?_
      refine g_iconst (v := (-1)) d_Model_bound_28 (by decide) ?_
      refine g_icmp_ne (tgt := 34) d_Model_bound_29 (by decide) (fun c_29 => ?_) (fun c_29 => ?_)
      · exact absurd c_29 (fun e => e (h c_2 c_8))
      refine g_iconst (v := 0) d_Model_bound_32 (by decide) ?_
      refine g_iret rfl d_Model_bound_33 ?_
      rw [if_neg (show ¬ (x < 0 ∨ ¬ x ≤ 7) from fun q => q.elim c_2 (fun w => w c_8))]
      exact ⟨rfl, rfl⟩
    · refine g_iconst (v := 1) d_Model_bound_11 (by decide) ?_
      refine g_goto (tgt := 16) d_Model_bound_12 (by decide) ?_
      refine c_Vr (as := [.int (1)]) kv_Model_refuses ml_Model_153 rfl mw_f (m_W_refuses1 (s := s) hmn) rfl (Nat.le_of_ble_eq_true rfl) rfl d_Model_bound_16 rfl ?_
      refine g_if_ne (tgt := 32) d_Model_bound_19 (by decide) (fun c_19 => ?_) (fun c_19 => absurd c_19 (by decide))
      refine g_iconst (v := 0) d_Model_bound_32 (by decide) ?_
      refine g_iret rfl d_Model_bound_33 ?_
      rw [if_pos (show x < 0 ∨ ¬ x ≤ 7 from by first | exact Or.inl c_2 | exact Or.inr c_8)]
      exact ⟨rfl, rfl⟩
set_option maxHeartbeats 400000 in
set_option maxRecDepth 100000 in
theorem m_W_boundAt_n1 (hmn : m < n) (x y : Int32) (h : ¬ x < 0 → x ≤ 7 → s.2 38 (tn x) = -1) : GM E Y_Model_boundAt (d + 1) [.ref m, .int x, .int y] (mW E G m n s) (rIs (some (.int ((if x < 0 ∨ ¬ x ≤ 7 then ((0 : Int32), wF s 0 1) else (-1, wF s 0 0))).1)) (mW E G m n ((if x < 0 ∨ ¬ x ≤ 7 then ((0 : Int32), wF s 0 1) else (-1, wF s 0 0))).2)) := by
  refine g_entry (by decide) (by simp [Value.category]) (Nat.le_of_ble_eq_true rfl) ?_
  refine g_aload_n d_Model_boundAt_0 rfl ?_
  refine g_iload_n d_Model_boundAt_1 rfl ?_
  refine g_if_lt (tgt := 11) d_Model_boundAt_2 (by decide) (fun c_2 => ?_) (fun c_2 => ?_)
  · refine g_iconst (v := 1) d_Model_boundAt_11 (by decide) ?_
    refine g_goto (tgt := 16) d_Model_boundAt_12 (by decide) ?_
    refine c_Vr (as := [.int (1)]) kv_Model_refuses ml_Model_153 rfl mw_f (m_W_refuses1 (s := s) hmn) rfl (Nat.le_of_ble_eq_true rfl) rfl d_Model_boundAt_16 rfl ?_
    refine g_if_eq (tgt := 24) d_Model_boundAt_19 (by decide) (fun c_19 => absurd c_19 (by decide)) (fun c_19 => ?_)
    refine g_iconst (v := 0) d_Model_boundAt_22 (by decide) ?_
    refine g_iret rfl d_Model_boundAt_23 ?_
    rw [if_pos (show x < 0 ∨ ¬ x ≤ 7 from by first | exact Or.inl c_2 | exact Or.inr c_8)]
    exact ⟨rfl, rfl⟩
  · refine g_iload_n d_Model_boundAt_5 rfl ?_
    refine g_bipush (v := 7) d_Model_boundAt_6 (by decide) ?_
    refine g_icmp_le (tgt := 15) d_Model_boundAt_8 (by decide) (fun c_8 => ?_) (fun c_8 => ?_)
    · refine g_iconst (v := 0) d_Model_boundAt_15 (by decide) ?_
      refine c_Vr (as := [.int (0)]) kv_Model_refuses ml_Model_153 rfl mw_f (m_W_refuses0 (s := s) hmn) rfl (Nat.le_of_ble_eq_true rfl) rfl d_Model_boundAt_16 rfl ?_
      refine g_if_eq (tgt := 24) d_Model_boundAt_19 (by decide) (fun c_19 => ?_) (fun c_19 => absurd c_19 (by decide))
      refine g_aload_n d_Model_boundAt_24 rfl ?_
      refine w_get (k := 56) fl_Model_129 (by decide) rfl d_Model_boundAt_25 ?_
      refine g_iload_n d_Model_boundAt_28 rfl ?_
      refine w_ald (j := 38) (q := tn x) (x := s.2 38 (tn x)) hmn (by decide) (by decide) (tn_hi c_2) (by have := tn_ly c_2 c_8 (k := 7) (by decide); show _ < 8; omega) rfl d_Model_boundAt_29 ?_
      refine g_iconst (v := (-1)) d_Model_boundAt_30 (by decide) ?_
      refine g_icmp_ne (tgt := 36) d_Model_boundAt_31 (by decide) (fun c_31 => ?_) (fun c_31 => ?_)
      · exact absurd c_31 (fun e => e (h c_2 c_8))
      refine g_iconst (v := (-1)) d_Model_boundAt_34 (by decide) ?_
      refine g_iret rfl d_Model_boundAt_35 ?_
      rw [if_neg (show ¬ (x < 0 ∨ ¬ x ≤ 7) from fun q => q.elim c_2 (fun w => w c_8))]
      exact ⟨rfl, rfl⟩
    · refine g_iconst (v := 1) d_Model_boundAt_11 (by decide) ?_
      refine g_goto (tgt := 16) d_Model_boundAt_12 (by decide) ?_
      refine c_Vr (as := [.int (1)]) kv_Model_refuses ml_Model_153 rfl mw_f (m_W_refuses1 (s := s) hmn) rfl (Nat.le_of_ble_eq_true rfl) rfl d_Model_boundAt_16 rfl ?_
      refine g_if_eq (tgt := 24) d_Model_boundAt_19 (by decide) (fun c_19 => absurd c_19 (by decide)) (fun c_19 => ?_)
      refine g_iconst (v := 0) d_Model_boundAt_22 (by decide) ?_
      refine g_iret rfl d_Model_boundAt_23 ?_
      rw [if_pos (show x < 0 ∨ ¬ x ≤ 7 from by first | exact Or.inl c_2 | exact Or.inr c_8)]
      exact ⟨rfl, rfl⟩
end MO
/-! missing and question where nothing is built -/
section MP
variable {E : gE} {d : Nat} {G : gS} {m n a : Nat} {s : mS} {c : cS}
set_option maxHeartbeats 400000 in
set_option maxRecDepth 100000 in
theorem m_X_missing0 (h : c.1 1 = 0) (x : Int32) : GM E Y_Mill_missing (d + 1) [.ref a, .int x] (xW E G a c) (rIs (some (.int (-1))) (xW E G a c)) := by
  refine g_entry (by decide) (by simp [Value.category]) (Nat.le_of_ble_eq_true rfl) ?_
  refine g_aload_n d_Mill_missing_0 rfl ?_
  refine x_get (k := 0) (j := 7) (v := .int (c.1 1)) kc_Mill fl_Mill_157 (by decide) (by decide) rfl rfl d_Mill_missing_1 ?_
  refine g_if_eq (tgt := 18) d_Mill_missing_4 (by decide) (fun c_4 => ?_) (fun c_4 => absurd h c_4)
  refine g_iconst (v := (-1)) d_Mill_missing_18 (by decide) ?_
  refine g_iret rfl d_Mill_missing_19 ?_
  exact ⟨rfl, rfl⟩
set_option maxHeartbeats 400000 in
set_option maxRecDepth 100000 in
theorem m_W_missing0 (hmn : m < n) (h : s.1 19 = 0) (x : Int32) : GM E Y_Model_missing d [.ref m, .int x] (mW E G m n s) (rIs (some (.int (-1))) (mW E G m n (wF s 0 0))) := by
  refine g_entry (by decide) (by simp [Value.category]) (Nat.le_of_ble_eq_true rfl) ?_
  refine g_aload_n d_Model_missing_0 rfl ?_
  refine g_iconst (v := 0) d_Model_missing_1 (by decide) ?_
  refine w_put (k := 0) fl_Model_138 (by decide) rfl rfl rfl rfl (Nat.le_of_ble_eq_true rfl) d_Model_missing_2 ?_
  refine g_aload_n d_Model_missing_5 rfl ?_
  refine w_get (k := 19) (x := .int (s.1 19)) fl_Model_184 (by decide) rfl d_Model_missing_6 ?_
  refine g_if_eq (tgt := 33) d_Model_missing_9 (by decide) (fun c_9 => ?_) (fun c_9 => absurd h c_9)
  refine g_iconst (v := (-1)) d_Model_missing_33 (by decide) ?_
  refine g_iret rfl d_Model_missing_34 ?_
  exact ⟨rfl, rfl⟩
set_option maxHeartbeats 400000 in
set_option maxRecDepth 100000 in
theorem m_W_question0 (hmn : m < n) (h : s.1 19 = 0) (q w : Int32) : GM E Y_Model_question (d + 1) [.ref m, .int q, .int w] (mW E G m n s) (rIs (some (.int 0)) (mW E G m n (wF s 0 1))) := by
  refine g_entry (by decide) (by simp [Value.category]) (Nat.le_of_ble_eq_true rfl) ?_
  refine g_aload_n d_Model_question_0 rfl ?_
  refine g_aload_n d_Model_question_1 rfl ?_
  refine w_get (k := 19) (x := .int (s.1 19)) fl_Model_184 (by decide) rfl d_Model_question_2 ?_
  refine g_if_eq (tgt := 29) d_Model_question_5 (by decide) (fun c_5 => ?_) (fun c_5 => absurd h c_5)
  refine g_iconst (v := 1) d_Model_question_29 (by decide) ?_
  refine g_goto (tgt := 34) d_Model_question_30 (by decide) ?_
  refine c_Vr (as := [.int (1)]) kv_Model_refuses ml_Model_153 rfl mw_f (m_W_refuses1 (s := s) hmn) rfl (Nat.le_of_ble_eq_true rfl) rfl d_Model_question_34 rfl ?_
  refine g_if_eq (tgt := 42) d_Model_question_37 (by decide) (fun c_37 => absurd c_37 (by decide)) (fun c_37 => ?_)
  refine g_iconst (v := 0) d_Model_question_40 (by decide) ?_
  refine g_iret rfl d_Model_question_41 ?_
  exact ⟨rfl, rfl⟩
end MP
