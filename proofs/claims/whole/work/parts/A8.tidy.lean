/-! Row's tidy -/
section AQ
variable {E : gE} {d : Nat} {G G0 : gS} {a n sl : Nat} {c : cS} {u : uS} {b : Nat} {x x0 : xS} {Q : gO → gS → Prop}
/-- what tidy does: names are bound, wishes for any are left out, as far as an either -/
def tdF (kd on : Nat → Int32) : List (Nat × Nat) → List (Nat × Nat) → (Nat → Option Nat) → List (Nat × Nat) × List (Nat × Nat) × (Nat → Option Nat)
  | done, [], bd => (done, [], bd)
  | done, q :: r, bd => if kd q.2 = 3 then (done, q :: r, bdN bd (on q.2) q.1) else if kd q.2 = 2 then tdF kd on done r (bdN bd (on q.2) q.1) else tdF kd on (done ++ [q]) r (bdN bd (on q.2) q.1)
theorem bdN_0 {bd : Nat → Option Nat} {p : Nat} : bdN bd 0 p = bd := by
  funext k
  unfold bdN
  have e : ∀ z : Int32, ((0 : Int32) >>> z) &&& 1 = 0 := fun z => by
    have : (0 : Int32) >>> z = 0 := by
      apply Int32.toBitVec_inj.mp
      simp
    rw [this]
    rfl
  rw [e, if_neg (by decide)]
/-- a term lies in none of the row's cells -/
theorem row_ne {t k : Nat} (h : rowW u a b) (ht : zIs u a t k) (hk : 4 < k) : t < b ∨ b + 4 ≤ t := by
  obtain ⟨h1, h2, h3, h4⟩ := h
  have e : ∀ j, zIs u a (b + j) (j + 1) → t ≠ b + j ∨ k = j + 1 := fun j hj => by
    by_cases e : t = b + j
    · subst e
      exact Or.inr (ht.1.symm.trans hj.1)
    · exact Or.inl e
  have e0 := e 0 h1
  have e1 := e 1 h2
  have e2 := e 2 h3
  have e3 := e 3 h4
  omega
/-- what tidy answers -/
def tdQ (E : gE) (G : gS) (a : Nat) (c : cS) (u : uS) (n sl b ow : Nat) (R : List (Nat × Nat) × List (Nat × Nat) × (Nat → Option Nat)) : gO → gS → Prop := fun o G' =>
  o = .inl (some (.int (if R.2.1 = [] then -1 else nI R.1.length))) ∧ ∃ x', G' = yW E G a c (uR u b x') n sl ∧ hX x' ow (R.1 ++ R.2.1) R.2.2
set_option maxHeartbeats 1000000 in
set_option maxRecDepth 100000 in
theorem m_R_td (hw : rowW u a b) {ow : Nat} : ∀ (pend done : List (Nat × Nat)) (bd : Nat → Option Nat) (s : Nat) (x : xS), s + pend.length ≤ 24 → hX x ow (done ++ pend) bd → (done ++ pend).length ≤ 24 → (∀ y ∈ done ++ pend, zIs u a y.2 7) → GT E Y_Row_tidy (d + 1) G0 4 [(0, .ref b), (1, .int (nI done.length)), (2, .int (nI s))] [] (yW E G a c (uR u b x) n sl) (tdQ E G a c u n sl b ow (tdF (fun t => u.2.2.1 t 1) (fun t => u.2.2.1 t 5) done pend bd)) := by
  intro pend
  induction pend with
  | nil =>
    intro done bd s x hs hx hl ht
    have hlen : (done ++ ([] : List (Nat × Nat))).length = done.length := by simp
    simp only [List.length_nil] at hs
    refine g_iload_n d_Row_tidy_4 rfl ?_
    refine g_bipush (v := 24) d_Row_tidy_5 (by decide) ?_
    refine g_icmp_ge (tgt := 84) d_Row_tidy_7 (by decide) (fun c_7 => ?_) (fun c_7 => ?_)
    · refine g_iconst (v := (-1)) d_Row_tidy_84 (by decide) ?_
      refine g_iret rfl d_Row_tidy_85 ?_
      exact ⟨rfl, x, rfl, hx⟩
    · refine g_iload_n d_Row_tidy_10 rfl ?_
      refine g_aload_n d_Row_tidy_11 rfl ?_
      refine r_getF (j := 4) fl_Row_34 hw (by decide) d_Row_tidy_12 ?_
      rw [hx.2.1]
      refine g_icmp_ge (tgt := 84) d_Row_tidy_15 (by decide) (fun c_15 => ?_) (fun c_15 => ?_)
      rotate_left
      · exact absurd c_15 (ilt (by omega) (by omega) (by omega))
      refine g_iconst (v := (-1)) d_Row_tidy_84 (by decide) ?_
      refine g_iret rfl d_Row_tidy_85 ?_
      exact ⟨rfl, x, rfl, hx⟩
  | cons q r ih =>
    intro done bd s x hs hx hl ht
    have hlen : (done ++ q :: r).length = done.length + r.length + 1 := by simp; omega
    have hq7 := ht q (by simp)
    have hqo := row_ne hw hq7 (by decide)
    have K46 : ∀ x1, hX x1 ow (done ++ q :: r) (bdN bd (u.2.2.1 q.2 5) q.1) → GT E Y_Row_tidy (d + 1) G0 46 [(0, .ref b), (1, .int (nI done.length)), (2, .int (nI s)), (3, .ref q.2)] [] (yW E G a c (uR u b x1) n sl) (tdQ E G a c u n sl b ow (tdF (fun t => u.2.2.1 t 1) (fun t => u.2.2.1 t 5) done (q :: r) bd)) := by
      intro x1 hx1
      by_cases e3 : u.2.2.1 q.2 1 = 3
      · refine g_aload_n d_Row_tidy_46 rfl ?_
        refine z_get (k := 7) (j := 1) (v := .int ((uR u b x1).2.2.1 q.2 1)) kc_Term fl_Row_44 (by decide) hq7 (by decide) rfl rfl d_Row_tidy_47 ?_
        rw [(uRo hqo).1]
        refine g_iconst (v := 3) d_Row_tidy_50 (by decide) ?_
        refine g_icmp_ne (tgt := 56) d_Row_tidy_51 (by decide) (fun c_51 => ?_) (fun c_51 => ?_)
        · exact absurd c_51 (fun e => e e3)
        refine g_iload_n d_Row_tidy_54 rfl ?_
        refine g_iret rfl d_Row_tidy_55 ?_
        have e : tdF (fun t => u.2.2.1 t 1) (fun t => u.2.2.1 t 5) done (q :: r) bd = (done, q :: r, bdN bd (u.2.2.1 q.2 5) q.1) := if_pos e3
        rw [e]
        exact ⟨rfl, x1, rfl, hx1⟩
      · by_cases e2 : u.2.2.1 q.2 1 = 2
        · refine g_aload_n d_Row_tidy_46 rfl ?_
          refine z_get (k := 7) (j := 1) (v := .int ((uR u b x1).2.2.1 q.2 1)) kc_Term fl_Row_44 (by decide) hq7 (by decide) rfl rfl d_Row_tidy_47 ?_
          rw [(uRo hqo).1]
          refine g_iconst (v := 3) d_Row_tidy_50 (by decide) ?_
          refine g_icmp_ne (tgt := 56) d_Row_tidy_51 (by decide) (fun c_51 => ?_) (fun c_51 => ?_)
          rotate_left
          · exact absurd c_51 e3
          refine g_aload_n d_Row_tidy_56 rfl ?_
          refine z_get (k := 7) (j := 1) (v := .int ((uR u b x1).2.2.1 q.2 1)) kc_Term fl_Row_44 (by decide) hq7 (by decide) rfl rfl d_Row_tidy_57 ?_
          rw [(uRo hqo).1]
          refine g_iconst (v := 2) d_Row_tidy_60 (by decide) ?_
          refine g_icmp_ne (tgt := 75) d_Row_tidy_61 (by decide) (fun c_61 => ?_) (fun c_61 => ?_)
          · exact absurd c_61 (fun e => e e2)
          refine g_aload_n d_Row_tidy_64 rfl ?_
          refine g_iload_n d_Row_tidy_65 rfl ?_
          refine g_iconst (v := 1) d_Row_tidy_66 (by decide) ?_
          refine g_iadd d_Row_tidy_67 ?_
          refine g_top (nI (done.length + 1)) (nI_1 _) ?_
          refine g_iconst (v := (-1)) d_Row_tidy_68 (by decide) ?_
          refine c_Vx (as := [.int (nI (done.length + 1)), .int ((-1))]) kv_Row_moveWishes ml_Row_47 rfl (z_at (u := uR u b x1) hw.1 (by decide)) (m_R_moveL hw hx1 hl ht) rfl (Nat.le_of_ble_eq_true rfl) rfl d_Row_tidy_69 rfl (fun G_69 h_69 => ?_)
          obtain ⟨x2, rfl, hg⟩ := h_69
          have hx2 := hG_X hg
          refine g_goto (tgt := 78) d_Row_tidy_72 (by decide) ?_
          have e1 : nI s + Int32.ofInt 1 = nI (s + 1) := nI_1 s
          refine g_iinc (v := nI (s + 1)) d_Row_tidy_78 rfl e1 (by decide) rfl ?_
          refine g_goto (tgt := 4) d_Row_tidy_81 (by decide) ?_
          refine g_weak (lv := [(0, .ref b), (1, .int (nI done.length)), (2, .int (nI (s + 1))), (3, .ref q.2)]) (lv' := [(0, .ref b), (1, .int (nI done.length)), (2, .int (nI (s + 1)))]) (by simp) (by simp) ?_
          have e : tdF (fun t => u.2.2.1 t 1) (fun t => u.2.2.1 t 5) done (q :: r) bd = tdF (fun t => u.2.2.1 t 1) (fun t => u.2.2.1 t 5) done r (bdN bd (u.2.2.1 q.2 5) q.1) := by
            simp only [tdF]
            rw [if_neg e3, if_pos e2]
          rw [e]
          exact ih done _ (s + 1) x2 (by simp only [List.length_cons] at hs; omega) hx2 (by simp only [List.length_append, List.length_cons] at hl ⊢; omega) (fun y hy => ht y (by simp only [List.mem_append, List.mem_cons] at hy ⊢; rcases hy with hy | hy; exact Or.inl hy; exact Or.inr (Or.inr hy)))
        · refine g_aload_n d_Row_tidy_46 rfl ?_
          refine z_get (k := 7) (j := 1) (v := .int ((uR u b x1).2.2.1 q.2 1)) kc_Term fl_Row_44 (by decide) hq7 (by decide) rfl rfl d_Row_tidy_47 ?_
          rw [(uRo hqo).1]
          refine g_iconst (v := 3) d_Row_tidy_50 (by decide) ?_
          refine g_icmp_ne (tgt := 56) d_Row_tidy_51 (by decide) (fun c_51 => ?_) (fun c_51 => ?_)
          rotate_left
          · exact absurd c_51 e3
          refine g_aload_n d_Row_tidy_56 rfl ?_
          refine z_get (k := 7) (j := 1) (v := .int ((uR u b x1).2.2.1 q.2 1)) kc_Term fl_Row_44 (by decide) hq7 (by decide) rfl rfl d_Row_tidy_57 ?_
          rw [(uRo hqo).1]
          refine g_iconst (v := 2) d_Row_tidy_60 (by decide) ?_
          refine g_icmp_ne (tgt := 75) d_Row_tidy_61 (by decide) (fun c_61 => ?_) (fun c_61 => ?_)
          rotate_left
          · exact absurd c_61 e2
          have e0 : nI done.length + Int32.ofInt 1 = nI (done ++ [q]).length := by rw [List.length_append]; exact nI_1 _
          refine g_iinc (v := nI (done ++ [q]).length) d_Row_tidy_75 rfl e0 (by decide) rfl ?_
          have e1 : nI s + Int32.ofInt 1 = nI (s + 1) := nI_1 s
          refine g_iinc (v := nI (s + 1)) d_Row_tidy_78 rfl e1 (by decide) rfl ?_
          refine g_goto (tgt := 4) d_Row_tidy_81 (by decide) ?_
          refine g_weak (lv := [(0, .ref b), (1, .int (nI (done ++ [q]).length)), (2, .int (nI (s + 1))), (3, .ref q.2)]) (lv' := [(0, .ref b), (1, .int (nI (done ++ [q]).length)), (2, .int (nI (s + 1)))]) (by simp) (by simp) ?_
          have e : tdF (fun t => u.2.2.1 t 1) (fun t => u.2.2.1 t 5) done (q :: r) bd = tdF (fun t => u.2.2.1 t 1) (fun t => u.2.2.1 t 5) (done ++ [q]) r (bdN bd (u.2.2.1 q.2 5) q.1) := by
            simp only [tdF]
            rw [if_neg e3, if_neg e2]
          rw [e]
          have ea : done ++ q :: r = (done ++ [q]) ++ r := by simp
          rw [ea] at hx1 hl ht
          exact ih (done ++ [q]) _ (s + 1) x1 (by simp only [List.length_cons] at hs; omega) hx1 hl ht
    by_cases on0 : u.2.2.1 q.2 5 = 0
    · refine g_iload_n d_Row_tidy_4 rfl ?_
      refine g_bipush (v := 24) d_Row_tidy_5 (by decide) ?_
      refine g_icmp_ge (tgt := 84) d_Row_tidy_7 (by decide) (fun c_7 => ?_) (fun c_7 => ?_)
      · exact absurd c_7 (ige (m := 24) (by omega) (by omega) (by simp only [List.length_cons] at hs; omega))
      refine g_iload_n d_Row_tidy_10 rfl ?_
      refine g_aload_n d_Row_tidy_11 rfl ?_
      refine r_getF (j := 4) fl_Row_34 hw (by decide) d_Row_tidy_12 ?_
      rw [hx.2.1]
      refine g_icmp_ge (tgt := 84) d_Row_tidy_15 (by decide) (fun c_15 => ?_) (fun c_15 => ?_)
      · exact absurd c_15 (ige (by omega) (by omega) (by omega))
      refine g_aload_n d_Row_tidy_18 rfl ?_
      refine r_getA (j := 1) fl_Row_17 hw (by decide) d_Row_tidy_19 ?_
      refine g_iload_n d_Row_tidy_22 rfl ?_
      refine r_tald (j := done.length) hw (nI_hi (by omega)) (by omega) (hx.2.2.1 _ _ (mid_at (l := done) (r := r) (x := q))).2 d_Row_tidy_23 ?_
      refine g_astore_n d_Row_tidy_24 (by decide) rfl ?_
      refine g_aload_n d_Row_tidy_25 rfl ?_
      refine z_get (k := 7) (j := 5) (v := .int ((uR u b x).2.2.1 q.2 5)) kc_Term fl_Row_37 (by decide) hq7 (by decide) rfl rfl d_Row_tidy_26 ?_
      rw [(uRo hqo).1]
      refine g_if_eq (tgt := 46) d_Row_tidy_29 (by decide) (fun c_29 => ?_) (fun c_29 => ?_)
      rotate_left
      · exact absurd c_29 (fun e => e on0)
      exact K46 x (by rw [on0, bdN_0]; exact hx)
    · refine g_iload_n d_Row_tidy_4 rfl ?_
      refine g_bipush (v := 24) d_Row_tidy_5 (by decide) ?_
      refine g_icmp_ge (tgt := 84) d_Row_tidy_7 (by decide) (fun c_7 => ?_) (fun c_7 => ?_)
      · exact absurd c_7 (ige (m := 24) (by omega) (by omega) (by simp only [List.length_cons] at hs; omega))
      refine g_iload_n d_Row_tidy_10 rfl ?_
      refine g_aload_n d_Row_tidy_11 rfl ?_
      refine r_getF (j := 4) fl_Row_34 hw (by decide) d_Row_tidy_12 ?_
      rw [hx.2.1]
      refine g_icmp_ge (tgt := 84) d_Row_tidy_15 (by decide) (fun c_15 => ?_) (fun c_15 => ?_)
      · exact absurd c_15 (ige (by omega) (by omega) (by omega))
      refine g_aload_n d_Row_tidy_18 rfl ?_
      refine r_getA (j := 1) fl_Row_17 hw (by decide) d_Row_tidy_19 ?_
      refine g_iload_n d_Row_tidy_22 rfl ?_
      refine r_tald (j := done.length) hw (nI_hi (by omega)) (by omega) (hx.2.2.1 _ _ (mid_at (l := done) (r := r) (x := q))).2 d_Row_tidy_23 ?_
      refine g_astore_n d_Row_tidy_24 (by decide) rfl ?_
      refine g_aload_n d_Row_tidy_25 rfl ?_
      refine z_get (k := 7) (j := 5) (v := .int ((uR u b x).2.2.1 q.2 5)) kc_Term fl_Row_37 (by decide) hq7 (by decide) rfl rfl d_Row_tidy_26 ?_
      rw [(uRo hqo).1]
      refine g_if_eq (tgt := 46) d_Row_tidy_29 (by decide) (fun c_29 => ?_) (fun c_29 => ?_)
      · exact absurd c_29 on0
      refine g_aload_n d_Row_tidy_32 rfl ?_
      refine g_aload_n d_Row_tidy_33 rfl ?_
      refine z_get (k := 7) (j := 5) (v := .int ((uR u b x).2.2.1 q.2 5)) kc_Term fl_Row_37 (by decide) hq7 (by decide) rfl rfl d_Row_tidy_34 ?_
      rw [(uRo hqo).1]
      refine g_aload_n d_Row_tidy_37 rfl ?_
      refine r_getA (j := 0) fl_Row_9 hw (by decide) d_Row_tidy_38 ?_
      refine g_iload_n d_Row_tidy_41 rfl ?_
      refine r_ald1 (j := done.length) hw (nI_hi (by omega)) (by omega) d_Row_tidy_42 ?_
      rw [(hx.2.2.1 _ _ (mid_at (l := done) (r := r) (x := q))).1]
      refine c_Vx (as := [.int (u.2.2.1 q.2 5), .int (nI q.1)]) kv_Row_bindNames ml_Row_40 rfl (z_at (u := uR u b x) hw.1 (by decide)) (m_R_bindNames hw hx) rfl (Nat.le_of_ble_eq_true rfl) rfl d_Row_tidy_43 rfl (fun G_43 h_43 => ?_)
      obtain ⟨x1, rfl, hx1⟩ := h_43
      exact K46 x1 hx1
set_option maxHeartbeats 400000 in
set_option maxRecDepth 100000 in
theorem m_R_tidy (hw : rowW u a b) {ow : Nat} {ws : List (Nat × Nat)} {bd : Nat → Option Nat} (hx : hX x ow ws bd) (hl : ws.length ≤ 24) (ht : ∀ y ∈ ws, zIs u a y.2 7) : GM E Y_Row_tidy (d + 1) [.ref b] (yW E G a c (uR u b x) n sl) (tdQ E G a c u n sl b ow (tdF (fun t => u.2.2.1 t 1) (fun t => u.2.2.1 t 5) [] ws bd)) := by
  refine g_entry (by decide) (by simp [Value.category]) (Nat.le_of_ble_eq_true rfl) ?_
  refine g_iconst (v := 0) d_Row_tidy_0 (by decide) ?_
  refine g_istore_n d_Row_tidy_1 (by decide) rfl ?_
  refine g_iconst (v := 0) d_Row_tidy_2 (by decide) ?_
  refine g_istore_n d_Row_tidy_3 (by decide) rfl ?_
  have K := m_R_td (E := E) (d := d) (G := G) (G0 := yW E G a c (uR u b x) n sl) (c := c) (n := n) (sl := sl) (ow := ow) hw ws [] bd 0 x (by omega) hx hl ht
  exact K
end AQ
