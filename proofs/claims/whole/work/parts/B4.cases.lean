/-! Rows.putCases -/
section BZ
variable {E : gE} {d : Nat} {G G0 : gS} {a : Nat} {c c' c0 : cS} {u u' u0 : uS} {n n' n0 sl sl' : Nat} {Q : gO → gS → Prop} {Nb Sb : Nat} {P : Nat → Nat → Int32} {N : Nat} {tm : Nat → Nat} {ob : Nat → Int32} {T : Nat → Prop} {b : Nat} {x : xS}
theorem m_T_begin (hw : rowW u a b) {ow t : Nat} (ht : zIs u a t 7) : GM E Y_Row_begin (d + 1) [.ref b, .int (nI ow), .ref t] (yW E G a c u n sl) (rPost none (fun G' => ∃ x', G' = yW E G a c (uR u b x') n sl ∧ hX x' ow [(0, t)] (fun _ => none))) := by
  have K := m_R_begin (E := E) (d := d) (G := G) (c := c) (n := n) (sl := sl) (x := xOf u b) (ow := ow) hw ht
  rw [uR_self] at K
  exact K
theorem pB_app {l0 ks ms bs sp sp' : List Nat} {fr : Nat} (h : pB E a Nb Sb c0 u0 n0 l0 fr c u n sl sp (ks ++ ms)) (h' : pB E a Nb Sb c u n (l0 ++ ks) fr c' u' n' sl' sp' bs) : pB E a Nb Sb c0 u0 n0 l0 fr c' u' n' sl' sp' (ks ++ bs) ∧ ∀ y ∈ ks, xOf u' y = xOf u y := by
  obtain ⟨h1, h2, h3, h4, h5, h6⟩ := h
  obtain ⟨g1, g2, g3, g4, g5, g6⟩ := h'
  refine ⟨⟨by rw [← List.append_assoc]; exact g1, rFc_tr h2 g2, rFr_tr h3 g3 h4, Nat.le_trans h4 g4, fun y hy => (g5 y (List.mem_append_left _ hy)).trans (h5 y hy), ?_⟩, fun y hy => g5 y (List.mem_append_right _ hy)⟩
  rw [List.length_append] at g6 ⊢
  omega
theorem pB_bad {l0 ks ms bs sp sp' : List Nat} {fr : Nat} (h : pB E a Nb Sb c0 u0 n0 l0 fr c u n sl sp (ks ++ ms)) (h' : pB E a Nb Sb c u n (l0 ++ ks) fr c' u' n' sl' sp' bs) : pB E a Nb Sb c0 u0 n0 l0 fr c' u' n' sl' sp' (ks ++ bs) := (pB_app h h').1
/-- a new row behind -/
theorem pB_in {l0 ks sp sp' : List Nat} {fr : Nat} (h : pB E a Nb Sb c0 u0 n0 l0 fr c u n sl sp ks) (h1 : rwOk E a Nb Sb c' u' n' sl' ((l0 ++ ks) ++ b :: []) sp') (h2 : rFc c c') (h3 : rFr u u' n) (h4 : n ≤ n') (h5 : ∀ y ∈ (l0 ++ ks) ++ [], xOf u' y = xOf u y) (hn : ¬ l0.length + ks.length = fr + 80) : pB E a Nb Sb c0 u0 n0 l0 fr c' u' n' sl' sp' (ks ++ [b]) ∧ ∀ y ∈ ks, xOf u' y = xOf u y := by
  rw [List.append_nil] at h5
  refine ⟨⟨by rw [← List.append_assoc]; exact h1, rFc_tr h.2.1 h2, rFr_tr h.2.2.1 h3 h.2.2.2.1, Nat.le_trans h.2.2.2.1 h4, fun y hy => (h5 y (List.mem_append_left _ hy)).trans (h.2.2.2.2.1 y hy), ?_⟩, fun y hy => h5 y (List.mem_append_right _ hy)⟩
  have := h.2.2.2.2.2
  rw [List.length_append, List.length_cons, List.length_nil]
  omega
set_option maxHeartbeats 400000 in
set_option maxRecDepth 100000 in
theorem m_C_pat {k t : Nat} (hk : k < 20) (h : c.2.2.1 0 k = some t) : GM E Y_Cases_patternOf d [.ref (a + 5), .int (nI k)] (yW E G a c u n sl) (rIs (some (.ref t)) (yW E G a c u n sl)) := by
  refine g_entry (by decide) (by simp [Value.category]) (Nat.le_of_ble_eq_true rfl) ?_
  refine g_aload_n d_Cases_patternOf_0 rfl ?_
  refine x_get (k := 5) (j := 0) (v := .ref (a + 6)) kc_Cases fl_Cases_11 (by decide) (by decide) rfl rfl d_Cases_patternOf_1 ?_
  refine g_iload_n d_Cases_patternOf_4 rfl ?_
  refine g_taldS (j := k) (x_at (k := 6) (by decide) rfl) (nI_hi (by omega)) hk h d_Cases_patternOf_5 ?_
  refine g_aret rfl (by first | exact Or.inl ⟨_, rfl⟩ | exact Or.inr ⟨_, rfl⟩) (by first | exact Or.inl rfl | exact Or.inr ⟨_, rfl⟩) d_Cases_patternOf_6 ?_
  exact ⟨rfl, rfl⟩
set_option maxHeartbeats 400000 in
set_option maxRecDepth 100000 in
theorem m_C_size : GM E Y_Cases_size d [.ref (a + 5)] (yW E G a c u n sl) (rIs (some (.int (c.1 3))) (yW E G a c u n sl)) := by
  refine g_entry (by decide) (by simp [Value.category]) (Nat.le_of_ble_eq_true rfl) ?_
  refine g_aload_n d_Cases_size_0 rfl ?_
  refine x_get (k := 5) (j := 2) (v := .int (c.1 3)) kc_Cases fl_Cases_21 (by decide) (by decide) rfl rfl d_Cases_size_1 ?_
  refine g_iret rfl d_Cases_size_4 ?_
  exact ⟨rfl, rfl⟩
set_option maxHeartbeats 400000 in
set_option maxRecDepth 100000 in
theorem m_S_pc7 (wf : wfN P N) (wb : wfB P N) (wk : wfK P N) (tp : tmP P N tm ob T) (tw0 : tmW P u0 a tm ob T) (ho0 : uOk u0 a n0) {l0 : List Nat} {C : Nat} {cp : Nat → Nat} (hC : C ≤ 20) (hl0 : l0.length ≤ 800) (hcp : ∀ k, k < C → T (cp k) ∧ tn (P 7 (cp k)) ≤ 24 ∧ c0.2.2.1 0 k = some (tm (cp k))) (h3 : c0.1 3 = nI C) : ∀ (w k : Nat) (ks : List Nat) (c : cS) (u : uS) (n sl : Nat) (sp : List Nat), k + w = C → pB E a Nb Sb c0 u0 n0 l0 l0.length c u n sl sp ks → rcs u tm ks (aF P 0 cp k) →
    GT E Y_Rows_putCases (d + 9) G0 7 [(0, .ref (a + 13)), (1, .ref (a + 5)), (2, .int (nI l0.length)), (3, .int (nI k))] [] (yW E G a c u n sl) (prQ E G a Nb Sb tm c0 u0 n0 l0 l0.length (aF P 0 cp C)) := by
  intro w
  induction w with
  | zero =>
    intro k ks c u n sl sp hk hB hc
    obtain rfl : k = C := by omega
    have e3 : c.1 3 = nI k := (hB.2.1.1 3 (by decide) (by decide) (by decide)).trans h3
    refine g_iload_n d_Rows_putCases_7 rfl ?_
    refine g_aload_n d_Rows_putCases_8 rfl ?_
    refine c_Vr (as := []) kv_Cases_size ml_Rows_34 rfl (x_at (k := 5) (by decide) rfl) ((m_C_size.mono (fun _ _ h => by rw [e3] at h; exact h) : GM E Y_Cases_size (d + 8) [.ref (a + 5)] (yW E G a c u n sl) (rIs (some (.int (nI k))) (yW E G a c u n sl)))) rfl (Nat.le_of_ble_eq_true rfl) rfl d_Rows_putCases_9 rfl ?_
    refine g_icmp_ge (tgt := 66) d_Rows_putCases_12 (by decide) (fun c_12 => ?_) (fun c_12 => ?_)
    rotate_left
    · exact absurd c_12 (fun q => q (Int32.le_refl _))
    refine g_iconst (v := 1) d_Rows_putCases_66 (by decide) ?_
    refine g_zret rfl rfl d_Rows_putCases_67 ?_
    exact Or.inl ⟨rfl, c, u, n, sl, sp, ks, rfl, hB, hc⟩
  | succ w ih =>
    intro k ks c u n sl sp hk hB hc
    have e3 : c.1 3 = nI C := (hB.2.1.1 3 (by decide) (by decide) (by decide)).trans h3
    have h13 := hB.1.2.2.2.2.2.2.1
    obtain ⟨hT, h24, ht⟩ := hcp k (by omega)
    have hcnt := hB.2.2.2.2.2
    have hll : (l0 ++ ks).length = l0.length + ks.length := List.length_append
    have hlen := rcs_len hc
    have hkN := (tp _ hT).1
    have hI : tI P N ob T [((0 : Nat), cp k)] (fun _ => none) := ⟨fun q hq => by rcases List.mem_singleton.mp hq with rfl; exact ⟨hkN, Or.inl hT⟩, fun _ _ _ _ _ => rfl, List.pairwise_singleton .., by simp only [aZ]; omega⟩
    have hp1 := List.length_pos_iff.mpr (aL_ne wf (bd := fun _ => none) (fun q hq => (hI.1 q hq).1))
    have hmono := aF_mono (P := P) (o := (0 : Nat)) (cp := cp) w (k + 1)
    rw [show k + 1 + w = C by omega] at hmono
    have hs : (aF P 0 cp (k + 1)).length = (aF P 0 cp k).length + (aL P [((0 : Nat), cp k)] (fun _ => none)).length := by simp [aF, aC]
    by_cases hfull : l0.length + ks.length = l0.length + 80
    · refine g_iload_n d_Rows_putCases_7 rfl ?_
      refine g_aload_n d_Rows_putCases_8 rfl ?_
      refine c_Vr (as := []) kv_Cases_size ml_Rows_34 rfl (x_at (k := 5) (by decide) rfl) ((m_C_size.mono (fun _ _ h => by rw [e3] at h; exact h) : GM E Y_Cases_size (d + 8) [.ref (a + 5)] (yW E G a c u n sl) (rIs (some (.int (nI C))) (yW E G a c u n sl)))) rfl (Nat.le_of_ble_eq_true rfl) rfl d_Rows_putCases_9 rfl ?_
      refine g_icmp_ge (tgt := 66) d_Rows_putCases_12 (by decide) (fun c_12 => ?_) (fun c_12 => ?_)
      · exact absurd c_12 (ige (by omega) (by omega) (by omega))
      refine g_aload_n d_Rows_putCases_15 rfl ?_
      refine x_get (k := 13) (j := 1) (v := .int (c.1 13)) kc_Rows fl_Rows_18 (by decide) (by decide) rfl rfl d_Rows_putCases_16 ?_
      rw [h13]
      refine g_istore d_Rows_putCases_19 (by decide) rfl ?_
      refine g_aload_n d_Rows_putCases_21 rfl ?_
      refine g_iload_n d_Rows_putCases_22 rfl ?_
      refine g_iload d_Rows_putCases_23 rfl ?_
      refine c_Vr (as := [.int (nI l0.length), .int (nI (l0 ++ ks).length)]) kv_Rows_insert ml_Rows_40 rfl (x_at (k := 13) (by decide) rfl) (m_S_insNull (K := (l0 ++ ks).length) h13 (by omega) (by omega)) rfl (Nat.le_of_ble_eq_true rfl) rfl d_Rows_putCases_25 rfl ?_
      refine g_astoreN d_Rows_putCases_28 (by decide) rfl ?_
      refine g_aloadN d_Rows_putCases_30 rfl ?_
      refine g_ifnonnullN d_Rows_putCases_32 ?_
      refine g_iconst (v := 0) d_Rows_putCases_35 (by decide) ?_
      refine g_zret rfl rfl d_Rows_putCases_36 ?_
      exact Or.inr ⟨rfl, by omega, c, u, n, sl, sp, ks, rfl, hB⟩
    · refine g_iload_n d_Rows_putCases_7 rfl ?_
      refine g_aload_n d_Rows_putCases_8 rfl ?_
      refine c_Vr (as := []) kv_Cases_size ml_Rows_34 rfl (x_at (k := 5) (by decide) rfl) ((m_C_size.mono (fun _ _ h => by rw [e3] at h; exact h) : GM E Y_Cases_size (d + 8) [.ref (a + 5)] (yW E G a c u n sl) (rIs (some (.int (nI C))) (yW E G a c u n sl)))) rfl (Nat.le_of_ble_eq_true rfl) rfl d_Rows_putCases_9 rfl ?_
      refine g_icmp_ge (tgt := 66) d_Rows_putCases_12 (by decide) (fun c_12 => ?_) (fun c_12 => ?_)
      · exact absurd c_12 (ige (by omega) (by omega) (by omega))
      refine g_aload_n d_Rows_putCases_15 rfl ?_
      refine x_get (k := 13) (j := 1) (v := .int (c.1 13)) kc_Rows fl_Rows_18 (by decide) (by decide) rfl rfl d_Rows_putCases_16 ?_
      rw [h13]
      refine g_istore d_Rows_putCases_19 (by decide) rfl ?_
      refine g_aload_n d_Rows_putCases_21 rfl ?_
      refine g_iload_n d_Rows_putCases_22 rfl ?_
      refine g_iload d_Rows_putCases_23 rfl ?_
      refine c_V (as := [.int (nI l0.length), .int (nI (l0 ++ ks).length)]) kv_Rows_insert ml_Rows_40 rfl (x_at (k := 13) (by decide) rfl) (m_S_insert (d := d + 1) (l := l0 ++ ks) (m := []) (by rw [List.append_nil]; exact hB.1) (by simp only [List.length_nil]; omega) (by simp only [List.length_nil]; omega) (by simp only [List.length_nil]; omega)) rfl (Nat.le_of_ble_eq_true rfl) rfl d_Rows_putCases_25 (fun v_25 G_25 h_25 => ?_) (fun D_25 G_25 h_25 => by obtain ⟨_, _, _, _, _, _, h, _⟩ := h_25; cases h)
      obtain ⟨b, c1, u1, n1', sl1, sp1, ho1, rfl, rw1, fc1, fr1, nn1, kx1⟩ := h_25
      cases ho1
      obtain ⟨B1, kx⟩ := pB_in hB rw1 fc1 fr1 nn1 kx1 hfull
      have w1 : rowW u1 a b := pB_row B1 (by simp)
      have tw1 : tmW P u1 a tm ob T := tmW_fr tw0 ho0 B1.2.2.1
      have ht1 : c1.2.2.1 0 k = some (tm (cp k)) := by rw [B1.2.1.2.2.1]; exact ht
      refine g_astore d_Rows_putCases_28 (by decide) rfl ?_
      refine g_aload d_Rows_putCases_30 rfl ?_
      refine g_ifnonnull (tgt := 37) d_Rows_putCases_32 (by decide) ?_
      refine g_aload d_Rows_putCases_37 rfl ?_
      refine g_iload_n d_Rows_putCases_39 rfl ?_
      refine g_aload_n d_Rows_putCases_40 rfl ?_
      refine g_iload_n d_Rows_putCases_41 rfl ?_
      refine c_Vr (as := [.int (nI k)]) kv_Cases_patternOf ml_Rows_44 rfl (x_at (k := 5) (by decide) rfl) (m_C_pat (by omega) ht1) rfl (Nat.le_of_ble_eq_true rfl) rfl d_Rows_putCases_42 rfl ?_
      refine c_Vx (as := [.int (nI k), .ref (tm (cp k))]) kv_Row_begin ml_Rows_48 rfl (z_at w1.1 (by decide)) (m_T_begin w1 (tw1 _ hT).1) rfl (Nat.le_of_ble_eq_true rfl) rfl d_Rows_putCases_45 rfl (fun G_45 h_45 => ?_)
      obtain ⟨x2, rfl, hx2⟩ := h_45
      have B2 := pB_uR (x := x2) B1
      have hc2 : rcs (uR u1 b x2) tm ks (aF P 0 cp k) := (pB_rcs (x := x2) B1 (rcs_fr hc kx) (show rcs u1 tm [] [] from trivial)).1
      have tw2 : tmW P (uR u1 b x2) a tm ob T := tmW_fr tw0 ho0 B2.2.2.1
      have rw2 : rwOk E a Nb Sb c1 (uR u1 b x2) n1' sl1 ((l0 ++ ks) ++ [b]) sp1 := by rw [List.append_assoc]; exact B2.1
      have KP := m_S_part (E := E) (d := d) (G := G) (l := l0 ++ ks) (fr := l0.length) (ow := k) (ws := [((0 : Nat), cp k)]) wf wb wk tp tw2 rw2 (by omega) hl0 (by omega) hI (by unfold rc; rw [xOf_at]; exact hx2)
      refine g_aload_n d_Rows_putCases_48 rfl ?_
      refine g_iload_n d_Rows_putCases_49 rfl ?_
      refine g_iload d_Rows_putCases_50 rfl ?_
      refine c_V (as := [.int (nI l0.length), .int (nI (l0 ++ ks).length)]) kv_Rows_part ml_Rows_52 rfl (x_at (k := 13) (by decide) rfl) (KP) rfl (Nat.le_of_ble_eq_true rfl) rfl d_Rows_putCases_52 (fun v_52 G_52 h_52 => ?_) (fun D_52 G_52 h_52 => by rcases h_52 with ⟨h, -⟩ | ⟨h, -⟩ <;> cases h)
      rcases h_52 with ⟨ho, c2, u2, n2, sl2, sp2, bs, rfl, B3, hc3⟩ | ⟨ho, hbad, c2, u2, n2, sl2, sp2, bs, rfl, B3⟩
      · cases ho
        obtain ⟨B4, kx4⟩ := pB_app (ks := ks) (ms := [b]) B2 B3
        refine g_if_ne (tgt := 60) d_Rows_putCases_55 (by decide) (fun c_55 => ?_) (fun c_55 => absurd c_55 (by decide))
        refine g_iinc (v := nI (k + 1)) d_Rows_putCases_60 rfl (nI_1 k) (by decide) rfl ?_
        refine g_goto (tgt := 7) d_Rows_putCases_63 (by decide) ?_
        refine g_weak (lv' := [(0, .ref (a + 13)), (1, .ref (a + 5)), (2, .int (nI l0.length)), (3, .int (nI (k + 1)))]) (fun q hq => List.mem_append_left _ hq) (by simp) ?_
        exact ih (k + 1) (ks ++ bs) c2 u2 n2 sl2 sp2 (by omega) B4 (rcs_app (rcs_fr hc2 kx4) hc3)
      · cases ho
        have B4 := pB_bad (ks := ks) (ms := [b]) B2 B3
        simp only [aC, List.length_map] at hbad
        refine g_if_ne (tgt := 60) d_Rows_putCases_55 (by decide) (fun c_55 => absurd c_55 (by decide)) (fun c_55 => ?_)
        refine g_iconst (v := 0) d_Rows_putCases_58 (by decide) ?_
        refine g_zret rfl rfl d_Rows_putCases_59 ?_
        exact Or.inr ⟨rfl, by omega, c2, u2, n2, sl2, sp2, ks ++ bs, rfl, B4⟩
set_option maxHeartbeats 400000 in
set_option maxRecDepth 100000 in
theorem m_S_putCases (wf : wfN P N) (wb : wfB P N) (wk : wfK P N) (tp : tmP P N tm ob T) (tw : tmW P u a tm ob T) {l0 sp : List Nat} {C : Nat} {cp : Nat → Nat} (hC : C ≤ 20) (hl0 : l0.length ≤ 800) (hcp : ∀ k, k < C → T (cp k) ∧ tn (P 7 (cp k)) ≤ 24 ∧ c.2.2.1 0 k = some (tm (cp k))) (h3 : c.1 3 = nI C) (h : rwOk E a Nb Sb c u n sl l0 sp) : GM E Y_Rows_putCases (d + 9) [.ref (a + 13), .ref (a + 5)] (yW E G a c u n sl) (prQ E G a Nb Sb tm c u n l0 l0.length (aF P 0 cp C)) := by
  refine g_entry (by decide) (by simp [Value.category]) (Nat.le_of_ble_eq_true rfl) ?_
  have h13 := h.2.2.2.2.2.2.1
  refine g_aload_n d_Rows_putCases_0 rfl ?_
  refine x_get (k := 13) (j := 1) (v := .int (c.1 13)) kc_Rows fl_Rows_18 (by decide) (by decide) rfl rfl d_Rows_putCases_1 ?_
  rw [h13]
  refine g_istore_n d_Rows_putCases_4 (by decide) rfl ?_
  refine g_iconst (v := 0) d_Rows_putCases_5 (by decide) ?_
  refine g_istore_n d_Rows_putCases_6 (by decide) rfl ?_
  exact m_S_pc7 wf wb wk tp tw h.2.2.1 hC hl0 hcp h3 C 0 [] c u n sl sp (by omega) ⟨by rw [List.append_nil]; exact h, rFc_rf, rFr_rf, Nat.le_refl _, fun _ _ => rfl, by simp⟩ trivial
end BZ
