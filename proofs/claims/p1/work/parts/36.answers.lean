/-! The reference: answers -/
theorem d_Model_answers_0 : decode Y_Model_answers.2.1 0 = .ok (.aload_n 0, 1) := by decide +kernel
theorem d_Model_answers_1 : decode Y_Model_answers.2.1 1 = .ok (.getfield 7, 3) := by decide +kernel
theorem d_Model_answers_4 : decode Y_Model_answers.2.1 4 = .ok (.aload_n 0, 1) := by decide +kernel
theorem d_Model_answers_5 : decode Y_Model_answers.2.1 5 = .ok (.getfield 74, 3) := by decide +kernel
theorem d_Model_answers_8 : decode Y_Model_answers.2.1 8 = .ok (.iload_n 3, 1) := by decide +kernel
theorem d_Model_answers_9 : decode Y_Model_answers.2.1 9 = .ok (.iaload, 1) := by decide +kernel
theorem d_Model_answers_10 : decode Y_Model_answers.2.1 10 = .ok (.iaload, 1) := by decide +kernel
theorem d_Model_answers_11 : decode Y_Model_answers.2.1 11 = .ok (.iconst 1, 1) := by decide +kernel
theorem d_Model_answers_12 : decode Y_Model_answers.2.1 12 = .ok (.if_icmp .le 17, 3) := by decide +kernel
theorem d_Model_answers_15 : decode Y_Model_answers.2.1 15 = .ok (.aload_n 0, 1) := by decide +kernel
theorem d_Model_answers_16 : decode Y_Model_answers.2.1 16 = .ok (.getfield 7, 3) := by decide +kernel
theorem d_Model_answers_19 : decode Y_Model_answers.2.1 19 = .ok (.aload_n 0, 1) := by decide +kernel
theorem d_Model_answers_20 : decode Y_Model_answers.2.1 20 = .ok (.getfield 74, 3) := by decide +kernel
theorem d_Model_answers_23 : decode Y_Model_answers.2.1 23 = .ok (.iload_n 3, 1) := by decide +kernel
theorem d_Model_answers_24 : decode Y_Model_answers.2.1 24 = .ok (.iaload, 1) := by decide +kernel
theorem d_Model_answers_25 : decode Y_Model_answers.2.1 25 = .ok (.iaload, 1) := by decide +kernel
theorem d_Model_answers_26 : decode Y_Model_answers.2.1 26 = .ok (.iconst 1, 1) := by decide +kernel
theorem d_Model_answers_27 : decode Y_Model_answers.2.1 27 = .ok (.isub, 1) := by decide +kernel
theorem d_Model_answers_28 : decode Y_Model_answers.2.1 28 = .ok (.ireturn, 1) := by decide +kernel
theorem d_Model_answers_29 : decode Y_Model_answers.2.1 29 = .ok (.iconst 0, 1) := by decide +kernel
theorem d_Model_answers_30 : decode Y_Model_answers.2.1 30 = .ok (.istore 4, 2) := by decide +kernel
theorem d_Model_answers_32 : decode Y_Model_answers.2.1 32 = .ok (.aload_n 0, 1) := by decide +kernel
theorem d_Model_answers_33 : decode Y_Model_answers.2.1 33 = .ok (.iload_n 1, 1) := by decide +kernel
theorem d_Model_answers_34 : decode Y_Model_answers.2.1 34 = .ok (.iload_n 2, 1) := by decide +kernel
theorem d_Model_answers_35 : decode Y_Model_answers.2.1 35 = .ok (.iload_n 3, 1) := by decide +kernel
theorem d_Model_answers_36 : decode Y_Model_answers.2.1 36 = .ok (.iconst 0, 1) := by decide +kernel
theorem d_Model_answers_37 : decode Y_Model_answers.2.1 37 = .ok (.iconst 1, 1) := by decide +kernel
theorem d_Model_answers_38 : decode Y_Model_answers.2.1 38 = .ok (.invokevirtual 217, 3) := by decide +kernel
theorem d_Model_answers_41 : decode Y_Model_answers.2.1 41 = .ok (.istore 5, 2) := by decide +kernel
theorem d_Model_answers_43 : decode Y_Model_answers.2.1 43 = .ok (.aload_n 0, 1) := by decide +kernel
theorem d_Model_answers_44 : decode Y_Model_answers.2.1 44 = .ok (.getfield 132, 3) := by decide +kernel
theorem d_Model_answers_47 : decode Y_Model_answers.2.1 47 = .ok (.iconst 0, 1) := by decide +kernel
theorem d_Model_answers_48 : decode Y_Model_answers.2.1 48 = .ok (.iaload, 1) := by decide +kernel
theorem d_Model_answers_49 : decode Y_Model_answers.2.1 49 = .ok (.iconst 1, 1) := by decide +kernel
theorem d_Model_answers_50 : decode Y_Model_answers.2.1 50 = .ok (.if_icmp .ne 21, 3) := by decide +kernel
theorem d_Model_answers_53 : decode Y_Model_answers.2.1 53 = .ok (.iinc 4 1, 3) := by decide +kernel
theorem d_Model_answers_56 : decode Y_Model_answers.2.1 56 = .ok (.aload_n 0, 1) := by decide +kernel
theorem d_Model_answers_57 : decode Y_Model_answers.2.1 57 = .ok (.iload_n 1, 1) := by decide +kernel
theorem d_Model_answers_58 : decode Y_Model_answers.2.1 58 = .ok (.iload_n 2, 1) := by decide +kernel
theorem d_Model_answers_59 : decode Y_Model_answers.2.1 59 = .ok (.iload_n 3, 1) := by decide +kernel
theorem d_Model_answers_60 : decode Y_Model_answers.2.1 60 = .ok (.iload 5, 2) := by decide +kernel
theorem d_Model_answers_62 : decode Y_Model_answers.2.1 62 = .ok (.iconst 0, 1) := by decide +kernel
theorem d_Model_answers_63 : decode Y_Model_answers.2.1 63 = .ok (.invokevirtual 217, 3) := by decide +kernel
theorem d_Model_answers_66 : decode Y_Model_answers.2.1 66 = .ok (.istore 5, 2) := by decide +kernel
theorem d_Model_answers_68 : decode Y_Model_answers.2.1 68 = .ok (.goto (-25), 3) := by decide +kernel
theorem d_Model_answers_71 : decode Y_Model_answers.2.1 71 = .ok (.iload 4, 2) := by decide +kernel
theorem d_Model_answers_73 : decode Y_Model_answers.2.1 73 = .ok (.iconst 1, 1) := by decide +kernel
theorem d_Model_answers_74 : decode Y_Model_answers.2.1 74 = .ok (.iadd, 1) := by decide +kernel
theorem d_Model_answers_75 : decode Y_Model_answers.2.1 75 = .ok (.ireturn, 1) := by decide +kernel
section MM2
variable {E : gE} {d : Nat} {G G0 : gS} {m n : Nat} {s : mS} {Q : gO → gS → Prop}
/-- how many numbers are wished: from v on, told t, counted c -/
def rCnt (s : mS) (A K : Nat) (p : Int32) : Nat → Int32 → Int32 → Int32 → Int32 × Int32
  | 0, _, t, c => (c, t)
  | w + 1, v, t, c => if ¬ t = 1 then (c, t) else rCnt s A K p w (rAb s A p v 0 K).1 (rAb s A p v 0 K).2 (c + 1)
def rAnsw (s : mS) (A K P : Nat) (p : Int32) : Int32 × mS := if s.2 0 (tn (s.2 21 P)) ≤ 1 then ((rCnt s A K p (K + 2) (rAb s A p 0 1 K).1 (rAb s A p 0 1 K).2 0).1 + 1, wA s 39 0 (rCnt s A K p (K + 2) (rAb s A p 0 1 K).1 (rAb s A p 0 1 K).2 0).2) else (s.2 0 (tn (s.2 21 P)) - 1, s)
set_option maxHeartbeats 400000 in
set_option maxRecDepth 100000 in
theorem m_W_answers_l (hmn : m < n) {p : Int32} {f q : Int32} {A K : Nat} (hf : f.toInt = (A : Int)) (hq : q.toInt = (K : Int)) (hR : ∀ R, R < A + K → ¬ s.2 27 R < 0 ∧ tn (s.2 27 R) ≤ 26) (hW : ∀ R, R < A + K → ∀ j, j < tn (s.2 27 R) → ¬ s.2 29 (26 * R + j) < 0 ∧ tn (s.2 29 (26 * R + j)) < 700) (bA : A + K ≤ 41640) : ∀ (w : Nat) (v t c : Int32), 1 ≤ w → (t = 1 → cAb s A p v K + 2 ≤ w) → GT E Y_Model_answers (d + 2) G0 43 [(0, .ref m), (1, .int f), (2, .int q), (3, .int p), (4, .int c), (5, .int v)] [] (mW E G m n (wA s 39 0 t)) (rIs (some (.int ((rCnt s A K p w v t c).1 + 1))) (mW E G m n (wA s 39 0 (rCnt s A K p w v t c).2))) := by
  intro w
  induction w with
  | zero => intro v t c h1 h2; omega
  | succ w ih =>
    intro v t c h1 h2
    refine g_aload_n d_Model_answers_43 rfl ?_
    refine w_get (k := 57) fl_Model_132 (by decide) rfl d_Model_answers_44 ?_
    refine g_iconst (v := 0) d_Model_answers_47 (by decide) ?_
    refine w_ald (j := 39) (q := 0) (x := t) hmn (by decide) (by decide) (by decide) (by decide) rfl d_Model_answers_48 ?_
    refine g_iconst (v := 1) d_Model_answers_49 (by decide) ?_
    refine g_icmp_ne (tgt := 71) d_Model_answers_50 (by decide) (fun c_50 => ?_) (fun c_50 => ?_)
    · refine g_iload d_Model_answers_71 rfl ?_
      refine g_iconst (v := 1) d_Model_answers_73 (by decide) ?_
      refine g_iadd d_Model_answers_74 ?_
      refine g_iret rfl d_Model_answers_75 ?_
      have e : rCnt s A K p (w + 1) v t c = (c, t) := if_pos c_50
      rw [e]
      exact ⟨rfl, rfl⟩
    · refine g_iinc (v := c + 1) d_Model_answers_53 rfl (by rfl) (by decide) rfl ?_
      refine g_aload_n d_Model_answers_56 rfl ?_
      refine g_iload_n d_Model_answers_57 rfl ?_
      refine g_iload_n d_Model_answers_58 rfl ?_
      refine g_iload_n d_Model_answers_59 rfl ?_
      refine g_iload d_Model_answers_60 rfl ?_
      refine g_iconst (v := 0) d_Model_answers_62 (by decide) ?_
      refine c_Vr (as := [.int (f), .int (q), .int (p), .int (v), .int (0)]) kv_Model_above ml_Model_217 rfl mw_f (m_W_aboveA (d := d) (s := s) (T := t) (p := p) (y := v) (al := 0) hmn hf hq hR hW bA) rfl (Nat.le_of_ble_eq_true rfl) rfl d_Model_answers_63 rfl ?_
      refine g_istore d_Model_answers_66 (by decide) rfl ?_
      refine g_goto (tgt := 43) d_Model_answers_68 (by decide) ?_
      have e : rCnt s A K p (w + 1) v t c = rCnt s A K p w (rAb s A p v 0 K).1 (rAb s A p v 0 K).2 (c + 1) := if_neg (fun y => y c_50)
      rw [e]
      have h3 := h2 c_50
      exact ih _ _ _ (by omega) (fun y => by have := cAb_lt y; omega)
set_option maxHeartbeats 400000 in
set_option maxRecDepth 100000 in
theorem m_W_answers (hmn : m < n) {p : Int32} {P : Nat} {f q : Int32} {A K : Nat} (hf : f.toInt = (A : Int)) (hq : q.toInt = (K : Int)) (hR : ∀ R, R < A + K → ¬ s.2 27 R < 0 ∧ tn (s.2 27 R) ≤ 26) (hW : ∀ R, R < A + K → ∀ j, j < tn (s.2 27 R) → ¬ s.2 29 (26 * R + j) < 0 ∧ tn (s.2 29 (26 * R + j)) < 700) (bA : A + K ≤ 41640) (hp : p.toInt = (P : Int)) (bP : P < 2200) (hT : ¬ s.2 21 P < 0 ∧ tn (s.2 21 P) < 16) : GM E Y_Model_answers (d + 2) [.ref m, .int f, .int q, .int p] (mW E G m n s) (rIs (some (.int (rAnsw s A K P p).1)) (mW E G m n (rAnsw s A K P p).2)) := by
  refine g_entry (by decide) (by simp [Value.category]) (Nat.le_of_ble_eq_true rfl) ?_
  refine g_aload_n d_Model_answers_0 rfl ?_
  refine w_get (k := 1) fl_Model_7 (by decide) rfl d_Model_answers_1 ?_
  refine g_aload_n d_Model_answers_4 rfl ?_
  refine w_get (k := 36) fl_Model_74 (by decide) rfl d_Model_answers_5 ?_
  refine g_iload_n d_Model_answers_8 rfl ?_
  refine w_ald (j := 21) (q := P) (x := s.2 21 (P)) hmn (by decide) (by decide) hp (by show _ < 2200; omega) rfl d_Model_answers_9 ?_
  refine w_ald (j := 0) (q := tn (s.2 21 P)) (x := s.2 0 (tn (s.2 21 P))) hmn (by decide) (by decide) (tn_hi hT.1) hT.2 rfl d_Model_answers_10 ?_
  refine g_iconst (v := 1) d_Model_answers_11 (by decide) ?_
  refine g_icmp_le (tgt := 29) d_Model_answers_12 (by decide) (fun c_12 => ?_) (fun c_12 => ?_)
  · refine g_iconst (v := 0) d_Model_answers_29 (by decide) ?_
    refine g_istore d_Model_answers_30 (by decide) rfl ?_
    refine g_aload_n d_Model_answers_32 rfl ?_
    refine g_iload_n d_Model_answers_33 rfl ?_
    refine g_iload_n d_Model_answers_34 rfl ?_
    refine g_iload_n d_Model_answers_35 rfl ?_
    refine g_iconst (v := 0) d_Model_answers_36 (by decide) ?_
    refine g_iconst (v := 1) d_Model_answers_37 (by decide) ?_
    refine c_Vr (as := [.int (f), .int (q), .int (p), .int (0), .int (1)]) kv_Model_above ml_Model_217 rfl mw_f (m_W_above (d := d) (s := s) (p := p) (y := 0) (al := 1) hmn hf hq hR hW bA) rfl (Nat.le_of_ble_eq_true rfl) rfl d_Model_answers_38 rfl ?_
    refine g_istore d_Model_answers_41 (by decide) rfl ?_
    have e : rAnsw s A K P p = ((rCnt s A K p (K + 2) (rAb s A p 0 1 K).1 (rAb s A p 0 1 K).2 0).1 + 1, wA s 39 0 (rCnt s A K p (K + 2) (rAb s A p 0 1 K).1 (rAb s A p 0 1 K).2 0).2) := if_pos c_12
    rw [e]
    exact m_W_answers_l (s := s) hmn hf hq hR hW bA (K + 2) _ _ _ (by omega) (fun _ => by have := cn_bd (f := fun k => decide (0 ≤ rWs s (A + k) p ∧ ¬ rWv s (A + k) p ≤ (rAb s A p 0 1 K).1)) K; show cn _ K + 2 ≤ K + 2; omega)
  · refine g_aload_n d_Model_answers_15 rfl ?_
    refine w_get (k := 1) fl_Model_7 (by decide) rfl d_Model_answers_16 ?_
    refine g_aload_n d_Model_answers_19 rfl ?_
    refine w_get (k := 36) fl_Model_74 (by decide) rfl d_Model_answers_20 ?_
    refine g_iload_n d_Model_answers_23 rfl ?_
    refine w_ald (j := 21) (q := P) (x := s.2 21 (P)) hmn (by decide) (by decide) hp (by show _ < 2200; omega) rfl d_Model_answers_24 ?_
    refine w_ald (j := 0) (q := tn (s.2 21 P)) (x := s.2 0 (tn (s.2 21 P))) hmn (by decide) (by decide) (tn_hi hT.1) hT.2 rfl d_Model_answers_25 ?_
    refine g_iconst (v := 1) d_Model_answers_26 (by decide) ?_
    refine g_isub d_Model_answers_27 ?_
    refine g_iret rfl d_Model_answers_28 ?_
    have e : rAnsw s A K P p = (s.2 0 (tn (s.2 21 P)) - 1, s) := if_neg c_12
    rw [e]
    exact ⟨rfl, rfl⟩
end MM2
