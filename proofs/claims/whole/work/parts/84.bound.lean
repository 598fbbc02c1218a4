/-! The reference: bound and boundAt: contracts -/
section MY
variable {E : gE} {d : Nat} {G G0 : gS} {m n : Nat} {s : mS} {Q : gO → gS → Prop} {P : Nat → Nat → Int32}
set_option maxHeartbeats 400000 in
set_option maxRecDepth 100000 in
theorem m_W_bound_r (hmn : m < n) {q1 : Int32} (kk : Q (.inl (some (.int (s.1 58)))) (mW E G m n s)) : GT E Y_Model_bound d G0 44 [(0, .ref m), (1, .int q1)] [] (mW E G m n s) Q := by
  refine g_aload_n d_Model_bound_44 rfl ?_
  refine w_get (k := 58) (x := .int (s.1 58)) fl_Model_275 (by decide) rfl d_Model_bound_45 ?_
  refine g_iret rfl d_Model_bound_48 ?_
  exact kk
set_option maxHeartbeats 400000 in
set_option maxRecDepth 100000 in
theorem m_W_boundAt_r (hmn : m < n) {q1 y : Int32} (hc : s.1 58 ≤ 130) (kk : Q (.inl (some (.int (kAt (s.1 58) (s.2 39) y)))) (mW E G m n s)) : GT E Y_Model_boundAt d G0 46 [(0, .ref m), (1, .int q1), (2, .int y)] [] (mW E G m n s) Q := by
  refine g_iload_n d_Model_boundAt_46 rfl ?_
  refine g_if_lt (tgt := 67) d_Model_boundAt_47 (by decide) (fun c_47 => ?_) (fun c_47 => ?_)
  · refine g_iconst (v := (-1)) d_Model_boundAt_67 (by decide) ?_
    refine g_iret rfl d_Model_boundAt_68 ?_
    have e_ : kAt (s.1 58) (s.2 39) y = -1 := if_neg (fun q => q.1 c_47)
    rw [e_] at kk
    exact kk
  · refine g_iload_n d_Model_boundAt_50 rfl ?_
    refine g_aload_n d_Model_boundAt_51 rfl ?_
    refine w_get (k := 58) (x := .int (s.1 58)) fl_Model_275 (by decide) rfl d_Model_boundAt_52 ?_
    refine g_icmp_ge (tgt := 67) d_Model_boundAt_55 (by decide) (fun c_55 => ?_) (fun c_55 => ?_)
    · refine g_iconst (v := (-1)) d_Model_boundAt_67 (by decide) ?_
      refine g_iret rfl d_Model_boundAt_68 ?_
      have e_ : kAt (s.1 58) (s.2 39) y = -1 := if_neg (fun q => q.2 c_55)
      rw [e_] at kk
      exact kk
    · refine g_aload_n d_Model_boundAt_58 rfl ?_
      refine w_get (k := 57) fl_Model_132 (by decide) rfl d_Model_boundAt_59 ?_
      refine g_iload_n d_Model_boundAt_62 rfl ?_
      refine w_ald (j := 39) (q := tn y) (x := s.2 39 (tn y)) hmn (by decide) (by decide) (tn_hi c_47) (by show _ < 130; exact tn_lt c_47 (c := 130) (fun q => c_55 (Int32.le_trans hc q)) (by decide)) rfl d_Model_boundAt_63 ?_
      refine g_goto (tgt := 68) d_Model_boundAt_64 (by decide) ?_
      refine g_iret rfl d_Model_boundAt_68 ?_
      have e_ : kAt (s.1 58) (s.2 39) y = s.2 39 (tn y) := if_pos ⟨c_47, c_55⟩
      rw [e_] at kk
      exact kk
theorem m_W_bound (hmn : m < n) (hP : sPA s P) {k v F : Nat} (bk : k < 8) (h38 : s.2 38 k = nI v) (hv : vOk P F v) (bv : v < 512) (hb : (aVl P F v).length ≤ 120) : GM E Y_Model_bound (d + 1) [.ref m, .int (nI k)] (mW E G m n s) (fun o G' => o = .inl (some (.int (nI (aVl P F v).length))) ∧ ∃ s', G' = mW E G m n s' ∧ fV (wF s 0 0) s') := by
  refine m_W_bound_c hmn bk h38 (by omega) ?_
  refine c_V (as := [.int (nI v)]) kv_Model_tell ml_Model_278 rfl mw_f (m_W_tell (E := E) (d := d) (G := G) (m := m) (n := n) (s := wF s 0 0) hmn hP hv hb) rfl (Nat.le_of_ble_eq_true rfl) rfl d_Model_bound_41 (fun v' G' hq => ?_) (fun C G' hq => absurd hq.1 (by simp))
  obtain ⟨hv', s2, rfl, f2, h58, ht⟩ := hq
  cases hv'
  show GT E Y_Model_bound (d + 1) (mW E G m n s) 44 [(0, .ref m), (1, .int (nI k))] [] (mW E G m n s2) _
  refine m_W_bound_r hmn ⟨by rw [h58], s2, rfl, f2⟩
theorem m_W_boundAt (hmn : m < n) (hP : sPA s P) {k v F : Nat} (y : Int32) (bk : k < 8) (h38 : s.2 38 k = nI v) (hv : vOk P F v) (bv : v < 512) (hb : (aVl P F v).length ≤ 120) : GM E Y_Model_boundAt (d + 1) [.ref m, .int (nI k), .int y] (mW E G m n s) (fun o G' => o = .inl (some (.int (kAt (nI (aVl P F v).length) (fun i => (aVl P F v).getD i 0) y))) ∧ ∃ s', G' = mW E G m n s' ∧ fV (wF s 0 0) s') := by
  refine m_W_boundAt_c hmn y bk h38 (by omega) ?_
  refine c_V (as := [.int (nI v)]) kv_Model_tell ml_Model_278 rfl mw_f (m_W_tell (E := E) (d := d) (G := G) (m := m) (n := n) (s := wF s 0 0) hmn hP hv hb) rfl (Nat.le_of_ble_eq_true rfl) rfl d_Model_boundAt_43 (fun v' G' hq => ?_) (fun C G' hq => absurd hq.1 (by simp))
  obtain ⟨hv', s2, rfl, f2, h58, ht⟩ := hq
  cases hv'
  show GT E Y_Model_boundAt (d + 1) (mW E G m n s) 46 [(0, .ref m), (1, .int (nI k)), (2, .int y)] [] (mW E G m n s2) _
  refine m_W_boundAt_r hmn (by rw [h58]; exact (le_hi (nI_hi (by omega)) (show (130 : Int32).toInt = ((130 : Nat) : Int) by decide)).mpr (by omega)) ⟨?_, s2, rfl, f2⟩
  have e : kAt (s2.1 58) (s2.2 39) y = kAt (nI (aVl P F v).length) (fun i => (aVl P F v).getD i 0) y := by
    rw [h58]
    unfold kAt
    by_cases c : ¬ y < 0 ∧ ¬ nI (aVl P F v).length ≤ y
    · rw [if_pos c, if_pos c]
      have hlt : tn y < (aVl P F v).length := tn_lt c.1 c.2 (nI_hi (by omega))
      rw [ht (tn y) _ (List.getElem?_eq_getElem hlt)]
      show (aVl P F v)[tn y] = (aVl P F v).getD (tn y) 0
      rw [List.getD_eq_getElem?_getD, List.getElem?_eq_getElem hlt]
      rfl
    · rw [if_neg c, if_neg c]
  rw [e]
end MY
