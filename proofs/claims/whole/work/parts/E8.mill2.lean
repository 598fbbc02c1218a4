/-! Mill: build, match -/
section DE
variable {E : gE} {d : Nat} {G G0 G1 : gS} {a B SS : Nat} {c c' c0 c1 : cS} {u u' u2 u0 : uS} {n n' n2 n1 sl sl' sl2 : Nat} {Q : gO → gS → Prop} {tp l l0 ks sp ps qs ms : List Nat} {P : Nat → Nat → Int32} {N t0 C : Nat} {pos : Nat → List Nat} {tm cp : Nat → Nat} {ob : Nat → Int32} {T V : Nat → Prop} {nk : Nat} {Z : List zQ} {st : aSt}
/-- what build leaves -/
def bdQ (E : gE) (G : gS) (a B SS : Nat) (P : Nat → Nat → Int32) (N t0 : Nat) (tm : Nat → Nat) (ob : Nat → Int32) (T : Nat → Prop) (C : Nat) (cp : Nat → Nat) (c : cS) (u : uS) (n : Nat) (ms : List Nat) : gO → gS → Prop := fun o G' =>
  (∃ st, aTree P t0 cp C = some st ∧ o = .inl (some (.int (nI st.1.length))) ∧ ∃ c' u' n' sl' ks' sp' ps' qs' nk' Z', G' = yW E G a (cF (cF c' 1 1) 2 0) u' n' sl' ∧ clT E a B SS P N t0 tm ob T C cp c' u' n' sl' ks' [] sp' ps' qs' ms nk' Z' st ∧ gF c u n c' u' n') ∨
  (aTree P t0 cp C = none ∧ ∃ c' u' n' sl' ks' sp' ps' qs', tIs "java/lang/UnsupportedOperationException" (yW E G a (cF (cF c' 1 0) 2 1) u' n' sl') o G' ∧ hpOk E a B SS c' u' n' sl' ks' sp' ps' qs' ms ∧ gF c u n c' u' n')
theorem hp_fit (h : hpOk E a B SS c u n sl ks sp ps qs ms) : gFit E (yW E G a c u n sl) 1000 1000 := by
  obtain ⟨h1, h2, h3, h4, h5, h6, -⟩ := h
  have hr := hpOk_room h2 h3 h4
  obtain ⟨-, -, -, l0, -, -, -, b1, b2, b3, b4⟩ := h1
  have hc := lCap_le l0
  have hl := l0.2.2.1
  constructor
  · show n + 1000 ≤ _
    omega
  · show sl + 1000 ≤ _
    omega
set_option maxHeartbeats 400000 in
set_option maxRecDepth 100000 in
theorem m_Y_buildG (hF : gFit E (yW E G a c u n sl) 1 6) (h3 : ¬ c.1 3 = 0) (h1 : c.1 1 = 0) (h2 : ¬ c.1 2 = 0) : GM E Y_Mill_build (d + 40) [.ref a] (yW E G a c u n sl) (tIs "java/lang/UnsupportedOperationException" (yW E G a c u n sl)) := by
  refine g_entry (by decide) (by simp [Value.category]) (Nat.le_of_ble_eq_true rfl) ?_
  refine g_aload_n d_Mill_build_0 rfl ?_
  refine x_get (k := 0) (j := 3) (v := .ref (a + 5)) kc_Mill fl_Mill_19 (by decide) (by decide) rfl rfl d_Mill_build_1 ?_
  refine c_Vr (as := []) kv_Cases_size ml_Mill_155 rfl (x_at (k := 5) (by decide) rfl) (m_X_size) rfl (Nat.le_of_ble_eq_true rfl) rfl d_Mill_build_4 rfl ?_
  refine g_if_ne (tgt := 18) d_Mill_build_7 (by decide) (fun c_7 => ?_) (fun c_7 => ?_)
  rotate_left
  · exact absurd c_7 h3
  refine g_aload_n d_Mill_build_18 rfl ?_
  refine x_get (k := 0) (j := 7) (v := .int (c.1 1)) kc_Mill fl_Mill_157 (by decide) (by decide) rfl rfl d_Mill_build_19 ?_
  refine g_if_ne (tgt := 59) d_Mill_build_22 (by decide) (fun c_22 => ?_) (fun c_22 => ?_)
  · exact absurd c_22 (fun e => e h1)
  refine g_aload_n d_Mill_build_25 rfl ?_
  refine x_get (k := 0) (j := 8) (v := .int (c.1 2)) kc_Mill fl_Mill_160 (by decide) (by decide) rfl rfl d_Mill_build_26 ?_
  refine g_if_ne (tgt := 59) d_Mill_build_29 (by decide) (fun c_29 => ?_) (fun c_29 => ?_)
  rotate_left
  · exact absurd c_29 h2
  refine g_aload_n d_Mill_build_59 rfl ?_
  refine x_get (k := 0) (j := 8) (v := .int (c.1 2)) kc_Mill fl_Mill_160 (by decide) (by decide) rfl rfl d_Mill_build_60 ?_
  refine g_if_eq (tgt := 74) d_Mill_build_63 (by decide) (fun c_63 => ?_) (fun c_63 => ?_)
  · exact absurd c_63 h2
  refine g_throw (th_Mill_UOE) d_Mill_build_66 d_Mill_build_69 d_Mill_build_70 d_Mill_build_73 rfl hF.1 hF.2 (by show 2 + 3 < _; omega) (Nat.le_of_ble_eq_true rfl) ?_
  intro k z1 z2
  exact ⟨rfl, rfl, z1, z2, rfl⟩
set_option maxHeartbeats 400000 in
set_option maxRecDepth 100000 in
theorem m_Y_buildA (h3 : ¬ c.1 3 = 0) (h1 : ¬ c.1 1 = 0) (h2 : c.1 2 = 0) : GM E Y_Mill_build (d + 40) [.ref a] (yW E G a c u n sl) (rIs (some (.int (c.1 6))) (yW E G a c u n sl)) := by
  refine g_entry (by decide) (by simp [Value.category]) (Nat.le_of_ble_eq_true rfl) ?_
  refine g_aload_n d_Mill_build_0 rfl ?_
  refine x_get (k := 0) (j := 3) (v := .ref (a + 5)) kc_Mill fl_Mill_19 (by decide) (by decide) rfl rfl d_Mill_build_1 ?_
  refine c_Vr (as := []) kv_Cases_size ml_Mill_155 rfl (x_at (k := 5) (by decide) rfl) (m_X_size) rfl (Nat.le_of_ble_eq_true rfl) rfl d_Mill_build_4 rfl ?_
  refine g_if_ne (tgt := 18) d_Mill_build_7 (by decide) (fun c_7 => ?_) (fun c_7 => ?_)
  rotate_left
  · exact absurd c_7 h3
  refine g_aload_n d_Mill_build_18 rfl ?_
  refine x_get (k := 0) (j := 7) (v := .int (c.1 1)) kc_Mill fl_Mill_157 (by decide) (by decide) rfl rfl d_Mill_build_19 ?_
  refine g_if_ne (tgt := 59) d_Mill_build_22 (by decide) (fun c_22 => ?_) (fun c_22 => ?_)
  rotate_left
  · exact absurd c_22 h1
  refine g_aload_n d_Mill_build_59 rfl ?_
  refine x_get (k := 0) (j := 8) (v := .int (c.1 2)) kc_Mill fl_Mill_160 (by decide) (by decide) rfl rfl d_Mill_build_60 ?_
  refine g_if_eq (tgt := 74) d_Mill_build_63 (by decide) (fun c_63 => ?_) (fun c_63 => ?_)
  rotate_left
  · exact absurd c_63 (fun e => e h2)
  refine g_aload_n d_Mill_build_74 rfl ?_
  refine x_get (k := 0) (j := 4) (v := .ref (a + 12)) kc_Mill fl_Mill_38 (by decide) (by decide) rfl rfl d_Mill_build_75 ?_
  refine c_Vr (as := []) kv_Tree_size ml_Mill_170 rfl (x_at (k := 12) (by decide) rfl) (m_X_treeSize) rfl (Nat.le_of_ble_eq_true rfl) rfl d_Mill_build_78 rfl ?_
  refine g_iret rfl d_Mill_build_81 ?_
  exact ⟨rfl, rfl⟩
set_option maxHeartbeats 400000 in
set_option maxRecDepth 100000 in
theorem m_Y_build (wf : wfA P N pos) (wb : wfB P N) (wk : wfK P N) (tp : tmP P N tm ob T) (hC20 : C ≤ 20) (ht0 : t0 < 16) (hNC : N + C ≤ 511) (h09 : ∀ t, tn (P 0 t) ≤ 9) (hg01 : ∀ k, k < C → P 12 k = 0 ∨ P 12 k = 1) (hP0 : ∀ t, t < 16 → ∃ v, v ≤ 9 ∧ P 0 t = nI v) (hAr : ∀ π w, ¬ P 0 (tyP P t0 π) ≤ 1 → w < tn (P 0 (tyP P t0 π)) - 1 → ∃ a, a ≤ 4 ∧ P 1 (8 * tyP P t0 π + w) = nI a) (hcp : wfC P N pos t0 C cp) (hcT : ∀ k, k < C → T (cp k)) (h : hpOk E a B SS c u n sl ks sp ps qs ms) (tw : tmW P u a tm ob T) (hK : cK P C cp tm c) (h3 : ¬ c.1 3 = 0) (h1 : c.1 1 = 0) (h2 : c.1 2 = 0) : GM E Y_Mill_build (d + 40) [.ref a] (yW E G a c u n sl) (bdQ E G a B SS P N t0 tm ob T C cp c u n ms) := by
  refine g_entry (by decide) (by simp [Value.category]) (Nat.le_of_ble_eq_true rfl) ?_
  refine g_aload_n d_Mill_build_0 rfl ?_
  refine x_get (k := 0) (j := 3) (v := .ref (a + 5)) kc_Mill fl_Mill_19 (by decide) (by decide) rfl rfl d_Mill_build_1 ?_
  refine c_Vr (as := []) kv_Cases_size ml_Mill_155 rfl (x_at (k := 5) (by decide) rfl) (m_X_size) rfl (Nat.le_of_ble_eq_true rfl) rfl d_Mill_build_4 rfl ?_
  refine g_if_ne (tgt := 18) d_Mill_build_7 (by decide) (fun c_7 => ?_) (fun c_7 => ?_)
  rotate_left
  · exact absurd c_7 h3
  refine g_aload_n d_Mill_build_18 rfl ?_
  refine x_get (k := 0) (j := 7) (v := .int (c.1 1)) kc_Mill fl_Mill_157 (by decide) (by decide) rfl rfl d_Mill_build_19 ?_
  refine g_if_ne (tgt := 59) d_Mill_build_22 (by decide) (fun c_22 => ?_) (fun c_22 => ?_)
  · exact absurd c_22 (fun e => e h1)
  refine g_aload_n d_Mill_build_25 rfl ?_
  refine x_get (k := 0) (j := 8) (v := .int (c.1 2)) kc_Mill fl_Mill_160 (by decide) (by decide) rfl rfl d_Mill_build_26 ?_
  refine g_if_ne (tgt := 59) d_Mill_build_29 (by decide) (fun c_29 => ?_) (fun c_29 => ?_)
  · exact absurd c_29 (fun e => e h2)
  refine g_aload_n d_Mill_build_32 rfl ?_
  refine g_aload_n d_Mill_build_33 rfl ?_
  refine x_get (k := 0) (j := 4) (v := .ref (a + 12)) kc_Mill fl_Mill_38 (by decide) (by decide) rfl rfl d_Mill_build_34 ?_
  refine c_V (as := []) kv_Tree_grow ml_Mill_163 rfl (x_at (k := 12) (by decide) rfl) (m_T_grow (d := d + 5) wf wb wk tp hC20 ht0 hNC h09 hg01 hP0 hAr hcp hcT h tw hK) rfl (Nat.le_of_ble_eq_true rfl) rfl d_Mill_build_37 (fun v_37 G_37 h_37 => ?_) (fun D_37 G_37 h_37 => by rcases h_37 with ⟨st, -, ho, -⟩ | ⟨-, ho, -⟩ <;> cases ho)
  rcases h_37 with ⟨st, e1, ho, c1, u1, n1, sl1, ks1, sp1, ps1, qs1, nk1, Z1, rfl, hT1, g1⟩ | ⟨e1, ho, c1, u1, n1, sl1, ks1, sp1, ps1, qs1, rfl, hp1, g1⟩
  · cases ho
    refine x_put (c' := (cF c1 1 (1))) (k := 0) (j := 7) kc_Mill fl_Mill_157 (by decide) (by decide) rfl rfl rfl rfl (Nat.le_of_ble_eq_true rfl) rfl rfl xf_F1 d_Mill_build_40 ?_
    refine g_aload_n d_Mill_build_43 rfl ?_
    refine g_aload_n d_Mill_build_44 rfl ?_
    refine x_get (k := 0) (j := 7) (v := .int (1)) kc_Mill fl_Mill_157 (by decide) (by decide) rfl rfl d_Mill_build_45 ?_
    refine g_if_ne (tgt := 55) d_Mill_build_48 (by decide) (fun c_48 => ?_) (fun c_48 => absurd c_48 (by decide))
    refine g_iconst (v := 0) d_Mill_build_55 (by decide) ?_
    refine x_put (c' := (cF (cF c1 1 (1)) 2 (0))) (k := 0) (j := 8) kc_Mill fl_Mill_160 (by decide) (by decide) rfl rfl rfl rfl (Nat.le_of_ble_eq_true rfl) rfl rfl xf_F2 d_Mill_build_56 ?_
    refine g_aload_n d_Mill_build_59 rfl ?_
    refine x_get (k := 0) (j := 8) (v := .int (0)) kc_Mill fl_Mill_160 (by decide) (by decide) rfl rfl d_Mill_build_60 ?_
    refine g_if_eq (tgt := 74) d_Mill_build_63 (by decide) (fun c_63 => ?_) (fun c_63 => absurd c_63 (by decide))
    refine g_aload_n d_Mill_build_74 rfl ?_
    refine x_get (k := 0) (j := 4) (v := .ref (a + 12)) kc_Mill fl_Mill_38 (by decide) (by decide) rfl rfl d_Mill_build_75 ?_
    refine c_Vr (as := []) kv_Tree_size ml_Mill_170 rfl (x_at (k := 12) (by decide) rfl) (m_X_treeSize (c := (cF (cF c1 1 (1)) 2 (0)))) rfl (Nat.le_of_ble_eq_true rfl) rfl d_Mill_build_78 rfl ?_
    refine g_iret rfl d_Mill_build_81 ?_
    exact Or.inl ⟨st, e1, by rw [← hT1.2.2.2.2.2.1]; rfl, c1, u1, n1, sl1, ks1, sp1, ps1, qs1, nk1, Z1, rfl, hT1, g1⟩
  · cases ho
    have hF1 : gFit E (yW E G a (cF (cF c1 1 (0)) 2 (1)) u1 n1 sl1) 1 6 := ⟨by have := (hp_fit (G := G) hp1).1; show n1 + 1 ≤ _; change n1 + 1000 ≤ _ at this; omega, by have := (hp_fit (G := G) hp1).2; show sl1 + 6 ≤ _; change sl1 + 1000 ≤ _ at this; omega⟩
    refine x_put (c' := (cF c1 1 (0))) (k := 0) (j := 7) kc_Mill fl_Mill_157 (by decide) (by decide) rfl rfl rfl rfl (Nat.le_of_ble_eq_true rfl) rfl rfl xf_F1 d_Mill_build_40 ?_
    refine g_aload_n d_Mill_build_43 rfl ?_
    refine g_aload_n d_Mill_build_44 rfl ?_
    refine x_get (k := 0) (j := 7) (v := .int (0)) kc_Mill fl_Mill_157 (by decide) (by decide) rfl rfl d_Mill_build_45 ?_
    refine g_if_ne (tgt := 55) d_Mill_build_48 (by decide) (fun c_48 => absurd c_48 (by decide)) (fun c_48 => ?_)
    refine g_iconst (v := 1) d_Mill_build_51 (by decide) ?_
    refine g_goto (tgt := 56) d_Mill_build_52 (by decide) ?_
    refine x_put (c' := (cF (cF c1 1 (0)) 2 (1))) (k := 0) (j := 8) kc_Mill fl_Mill_160 (by decide) (by decide) rfl rfl rfl rfl (Nat.le_of_ble_eq_true rfl) rfl rfl xf_F2 d_Mill_build_56 ?_
    refine g_aload_n d_Mill_build_59 rfl ?_
    refine x_get (k := 0) (j := 8) (v := .int (1)) kc_Mill fl_Mill_160 (by decide) (by decide) rfl rfl d_Mill_build_60 ?_
    refine g_if_eq (tgt := 74) d_Mill_build_63 (by decide) (fun c_63 => absurd c_63 (by decide)) (fun c_63 => ?_)
    refine g_throw (th_Mill_UOE) d_Mill_build_66 d_Mill_build_69 d_Mill_build_70 d_Mill_build_73 rfl hF1.1 hF1.2 (by show 2 + 3 < _; omega) (Nat.le_of_ble_eq_true rfl) ?_
    intro k z1 z2
    exact Or.inr ⟨e1, c1, u1, n1, sl1, ks1, sp1, ps1, qs1, ⟨rfl, rfl, z1, z2, rfl⟩, hp1, g1⟩
set_option maxHeartbeats 400000 in
set_option maxRecDepth 100000 in
theorem m_Y_matchB (hF : gFit E (yW E G a c u n sl) 1 6) {x : Int32} {t : Nat} (hp : pil c 2 5 (l0 ++ [t])) (hz : pilT u a (l0 ++ [t])) (h1 : c.1 1 = 0) : GM E Y_Mill_match (d + 40) [.ref a, .int x] (yW E G a c u n sl) (tIs "java/lang/IllegalStateException" (yW E G a c u n sl)) := by
  refine g_entry (by decide) (by simp [Value.category]) (Nat.le_of_ble_eq_true rfl) ?_
  have ht : zIs u a t 7 := hz t (by simp)
  have KT := m_Y_top_10 (E := E) (d := d + 39) (G := G) (c := c) (n := n) (sl := sl) hp hz (k := 0) (by simp) top_1
  refine g_aload_n d_Mill_match_0 rfl ?_
  refine x_get (k := 0) (j := 2) (v := .ref (a + 10)) kc_Mill fl_Mill_30 (by decide) (by decide) rfl rfl d_Mill_match_1 ?_
  refine g_iconst (v := 0) d_Mill_match_4 (by decide) ?_
  refine c_Vr (as := [.int (0)]) kv_Pile_fromTop ml_Mill_126 rfl (x_at (k := 10) (by decide) rfl) (KT) rfl (Nat.le_of_ble_eq_true rfl) rfl d_Mill_match_5 rfl ?_
  refine g_astore_n d_Mill_match_8 (by decide) rfl ?_
  refine g_aload_n d_Mill_match_9 rfl ?_
  refine g_ifnull d_Mill_match_10 ?_
  refine g_aload_n d_Mill_match_13 rfl ?_
  refine x_get (k := 0) (j := 7) (v := .int (c.1 1)) kc_Mill fl_Mill_157 (by decide) (by decide) rfl rfl d_Mill_match_14 ?_
  refine g_if_eq (tgt := 34) d_Mill_match_17 (by decide) (fun c_17 => ?_) (fun c_17 => ?_)
  rotate_left
  · exact absurd c_17 (fun e => e h1)
  refine g_throw (th_Mill_ISE) d_Mill_match_34 d_Mill_match_37 d_Mill_match_38 d_Mill_match_41 rfl hF.1 hF.2 (by show 2 + 3 < _; omega) (Nat.le_of_ble_eq_true rfl) ?_
  intro k z1 z2
  exact ⟨rfl, rfl, z1, z2, rfl⟩
set_option maxHeartbeats 400000 in
set_option maxRecDepth 100000 in
theorem m_Y_matchT (hF : gFit E (yW E G a c u n sl) 1 6) {x : Int32} {t : Nat} (hp : pil c 2 5 (l0 ++ [t])) (hz : pilT u a (l0 ++ [t])) (h1 : ¬ c.1 1 = 0) {k t' : Nat} (hk : k < 1000) (h3 : c.1 3 = nI (k + 1)) (h0 : c.2.2.1 0 0 = some t') (ht0' : zIs u a t' 7) (hne : ¬ u.2.2.1 t' 0 = u.2.2.1 t 0) : GM E Y_Mill_match (d + 40) [.ref a, .int x] (yW E G a c u n sl) (tIs "java/lang/IllegalStateException" (yW E G a c u n sl)) := by
  refine g_entry (by decide) (by simp [Value.category]) (Nat.le_of_ble_eq_true rfl) ?_
  have ht : zIs u a t 7 := hz t (by simp)
  have KT := m_Y_top_10 (E := E) (d := d + 39) (G := G) (c := c) (n := n) (sl := sl) hp hz (k := 0) (by simp) top_1
  have KO := m_C_areOf (E := E) (d := d + 39) (G := G) (n := n) (sl := sl) (x := u.2.2.1 t 0) hk h3 h0 ht0'
  rw [if_neg hne] at KO
  refine g_aload_n d_Mill_match_0 rfl ?_
  refine x_get (k := 0) (j := 2) (v := .ref (a + 10)) kc_Mill fl_Mill_30 (by decide) (by decide) rfl rfl d_Mill_match_1 ?_
  refine g_iconst (v := 0) d_Mill_match_4 (by decide) ?_
  refine c_Vr (as := [.int (0)]) kv_Pile_fromTop ml_Mill_126 rfl (x_at (k := 10) (by decide) rfl) (KT) rfl (Nat.le_of_ble_eq_true rfl) rfl d_Mill_match_5 rfl ?_
  refine g_astore_n d_Mill_match_8 (by decide) rfl ?_
  refine g_aload_n d_Mill_match_9 rfl ?_
  refine g_ifnull d_Mill_match_10 ?_
  refine g_aload_n d_Mill_match_13 rfl ?_
  refine x_get (k := 0) (j := 7) (v := .int (c.1 1)) kc_Mill fl_Mill_157 (by decide) (by decide) rfl rfl d_Mill_match_14 ?_
  refine g_if_eq (tgt := 34) d_Mill_match_17 (by decide) (fun c_17 => ?_) (fun c_17 => ?_)
  · exact absurd c_17 h1
  refine g_aload_n d_Mill_match_20 rfl ?_
  refine x_get (k := 0) (j := 3) (v := .ref (a + 5)) kc_Mill fl_Mill_19 (by decide) (by decide) rfl rfl d_Mill_match_21 ?_
  refine g_aload_n d_Mill_match_24 rfl ?_
  refine z_get (k := 7) (j := 0) (v := .int (u.2.2.1 t 0)) kc_Term fl_Mill_171 (by decide) ht (by decide) rfl rfl d_Mill_match_25 ?_
  refine c_Vr (as := [.int (u.2.2.1 t 0)]) kv_Cases_areOf ml_Mill_174 rfl (x_at (k := 5) (by decide) rfl) (KO) rfl (Nat.le_of_ble_eq_true rfl) rfl d_Mill_match_28 rfl ?_
  refine g_if_ne (tgt := 42) d_Mill_match_31 (by decide) (fun c_31 => absurd c_31 (by decide)) (fun c_31 => ?_)
  refine g_throw (th_Mill_ISE) d_Mill_match_34 d_Mill_match_37 d_Mill_match_38 d_Mill_match_41 rfl hF.1 hF.2 (by show 2 + 3 < _; omega) (Nat.le_of_ble_eq_true rfl) ?_
  intro k z1 z2
  exact ⟨rfl, rfl, z1, z2, rfl⟩
set_option maxHeartbeats 400000 in
set_option maxRecDepth 100000 in
theorem m_Y_match {x : Int32} {t : Nat} (hp : pil c 2 5 (l0 ++ [t])) (hz : pilT u a (l0 ++ [t])) (h1 : ¬ c.1 1 = 0) {k t' : Nat} (hk : k < 1000) (h3 : c.1 3 = nI (k + 1)) (h0 : c.2.2.1 0 0 = some t') (ht0' : zIs u a t' 7) (he : u.2.2.1 t' 0 = u.2.2.1 t 0) {Qs : gO → gS → Prop} (hin : ∀ o G', Qs o G' → ∃ z : Int32, o = .inl (some (.int z))) (KL : GM E Y_Tree_lead (d + 39) [.ref (a + 12), .ref t, .int x, .ref (a + 20)] (yW E G a (cF c 5 (nI l0.length)) u n sl) Qs) : GM E Y_Mill_match (d + 40) [.ref a, .int x] (yW E G a c u n sl) (fun o G' => ∃ v, o = .inl (some (.int v)) ∧ Qs o G') := by
  refine g_entry (by decide) (by simp [Value.category]) (Nat.le_of_ble_eq_true rfl) ?_
  have ht : zIs u a t 7 := hz t (by simp)
  have KT := m_Y_top_10 (E := E) (d := d + 39) (G := G) (c := c) (n := n) (sl := sl) hp hz (k := 0) (by simp) top_1
  have KO := m_C_areOf (E := E) (d := d + 39) (G := G) (n := n) (sl := sl) (x := u.2.2.1 t 0) hk h3 h0 ht0'
  rw [if_pos he] at KO
  have h40 := hp.2.1
  have hlen : (l0 ++ [t]).length = l0.length + 1 := by simp
  have KD := m_X_drop_10 (E := E) (d := d + 38) (G := zW E G u n sl) (a := a) (c := c) 1
  rw [hp.1, hlen, drop_1 (by omega)] at KD
  refine g_aload_n d_Mill_match_0 rfl ?_
  refine x_get (k := 0) (j := 2) (v := .ref (a + 10)) kc_Mill fl_Mill_30 (by decide) (by decide) rfl rfl d_Mill_match_1 ?_
  refine g_iconst (v := 0) d_Mill_match_4 (by decide) ?_
  refine c_Vr (as := [.int (0)]) kv_Pile_fromTop ml_Mill_126 rfl (x_at (k := 10) (by decide) rfl) (KT) rfl (Nat.le_of_ble_eq_true rfl) rfl d_Mill_match_5 rfl ?_
  refine g_astore_n d_Mill_match_8 (by decide) rfl ?_
  refine g_aload_n d_Mill_match_9 rfl ?_
  refine g_ifnull d_Mill_match_10 ?_
  refine g_aload_n d_Mill_match_13 rfl ?_
  refine x_get (k := 0) (j := 7) (v := .int (c.1 1)) kc_Mill fl_Mill_157 (by decide) (by decide) rfl rfl d_Mill_match_14 ?_
  refine g_if_eq (tgt := 34) d_Mill_match_17 (by decide) (fun c_17 => ?_) (fun c_17 => ?_)
  · exact absurd c_17 h1
  refine g_aload_n d_Mill_match_20 rfl ?_
  refine x_get (k := 0) (j := 3) (v := .ref (a + 5)) kc_Mill fl_Mill_19 (by decide) (by decide) rfl rfl d_Mill_match_21 ?_
  refine g_aload_n d_Mill_match_24 rfl ?_
  refine z_get (k := 7) (j := 0) (v := .int (u.2.2.1 t 0)) kc_Term fl_Mill_171 (by decide) ht (by decide) rfl rfl d_Mill_match_25 ?_
  refine c_Vr (as := [.int (u.2.2.1 t 0)]) kv_Cases_areOf ml_Mill_174 rfl (x_at (k := 5) (by decide) rfl) (KO) rfl (Nat.le_of_ble_eq_true rfl) rfl d_Mill_match_28 rfl ?_
  refine g_if_ne (tgt := 42) d_Mill_match_31 (by decide) (fun c_31 => ?_) (fun c_31 => absurd c_31 (by decide))
  refine g_aload_n d_Mill_match_42 rfl ?_
  refine x_get (k := 0) (j := 2) (v := .ref (a + 10)) kc_Mill fl_Mill_30 (by decide) (by decide) rfl rfl d_Mill_match_43 ?_
  refine g_iconst (v := 1) d_Mill_match_46 (by decide) ?_
  refine c_Vr (as := [.int (1)]) kv_Pile_drop ml_Mill_136 rfl (x_at (k := 10) (by decide) rfl) (KD) rfl (Nat.le_of_ble_eq_true rfl) rfl d_Mill_match_47 rfl ?_
  refine g_aload_n d_Mill_match_50 rfl ?_
  refine x_get (k := 0) (j := 4) (v := .ref (a + 12)) kc_Mill fl_Mill_38 (by decide) (by decide) rfl rfl d_Mill_match_51 ?_
  refine g_aload_n d_Mill_match_54 rfl ?_
  refine g_iload_n d_Mill_match_55 rfl ?_
  refine g_aload_n d_Mill_match_56 rfl ?_
  refine x_get (k := 0) (j := 5) (v := .ref (a + 20)) kc_Mill fl_Mill_45 (by decide) (by decide) rfl rfl d_Mill_match_57 ?_
  refine c_V (as := [.ref (t), .int (x), .ref (a + 20)]) kv_Tree_lead ml_Mill_177 rfl (x_at (k := 12) (by decide) rfl) (KL) rfl (Nat.le_of_ble_eq_true rfl) rfl d_Mill_match_60 (fun v_60 G_60 h_60 => ?_) (fun D_60 G_60 h_60 => by obtain ⟨z, hz⟩ := hin _ _ h_60; cases hz)
  obtain ⟨z, hz⟩ := hin _ _ h_60
  cases hz
  exact g_iret rfl d_Mill_match_63 ⟨z, rfl, h_60⟩
end DE
