/-! Tree.begin, Tree.grow: their contracts -/
theorem d_Tree_begin_0 : decode Y_Tree_begin.2.1 0 = .ok (.aload_n 0, 1) := by decide +kernel
theorem d_Tree_begin_1 : decode Y_Tree_begin.2.1 1 = .ok (.getfield 12, 3) := by decide +kernel
theorem d_Tree_begin_4 : decode Y_Tree_begin.2.1 4 = .ok (.iconst 0, 1) := by decide +kernel
theorem d_Tree_begin_5 : decode Y_Tree_begin.2.1 5 = .ok (.invokevirtual 89, 3) := by decide +kernel
theorem d_Tree_begin_8 : decode Y_Tree_begin.2.1 8 = .ok (.aload_n 0, 1) := by decide +kernel
theorem d_Tree_begin_9 : decode Y_Tree_begin.2.1 9 = .ok (.getfield 21, 3) := by decide +kernel
theorem d_Tree_begin_12 : decode Y_Tree_begin.2.1 12 = .ok (.invokevirtual 92, 3) := by decide +kernel
theorem d_Tree_begin_15 : decode Y_Tree_begin.2.1 15 = .ok (.aload_n 0, 1) := by decide +kernel
theorem d_Tree_begin_16 : decode Y_Tree_begin.2.1 16 = .ok (.iconst 0, 1) := by decide +kernel
theorem d_Tree_begin_17 : decode Y_Tree_begin.2.1 17 = .ok (.putfield 47, 3) := by decide +kernel
theorem d_Tree_begin_20 : decode Y_Tree_begin.2.1 20 = .ok (.aload_n 0, 1) := by decide +kernel
theorem d_Tree_begin_21 : decode Y_Tree_begin.2.1 21 = .ok (.iconst 0, 1) := by decide +kernel
theorem d_Tree_begin_22 : decode Y_Tree_begin.2.1 22 = .ok (.putfield 93, 3) := by decide +kernel
theorem d_Tree_begin_25 : decode Y_Tree_begin.2.1 25 = .ok (.aload_n 0, 1) := by decide +kernel
theorem d_Tree_begin_26 : decode Y_Tree_begin.2.1 26 = .ok (.iconst 0, 1) := by decide +kernel
theorem d_Tree_begin_27 : decode Y_Tree_begin.2.1 27 = .ok (.putfield 96, 3) := by decide +kernel
theorem d_Tree_begin_30 : decode Y_Tree_begin.2.1 30 = .ok (.aload_n 0, 1) := by decide +kernel
theorem d_Tree_begin_31 : decode Y_Tree_begin.2.1 31 = .ok (.iconst 0, 1) := by decide +kernel
theorem d_Tree_begin_32 : decode Y_Tree_begin.2.1 32 = .ok (.putfield 99, 3) := by decide +kernel
theorem d_Tree_begin_35 : decode Y_Tree_begin.2.1 35 = .ok (.aload_n 0, 1) := by decide +kernel
theorem d_Tree_begin_36 : decode Y_Tree_begin.2.1 36 = .ok (.iconst 0, 1) := by decide +kernel
theorem d_Tree_begin_37 : decode Y_Tree_begin.2.1 37 = .ok (.putfield 102, 3) := by decide +kernel
theorem d_Tree_begin_40 : decode Y_Tree_begin.2.1 40 = .ok (.aload_n 0, 1) := by decide +kernel
theorem d_Tree_begin_41 : decode Y_Tree_begin.2.1 41 = .ok (.iconst 0, 1) := by decide +kernel
theorem d_Tree_begin_42 : decode Y_Tree_begin.2.1 42 = .ok (.putfield 105, 3) := by decide +kernel
theorem d_Tree_begin_45 : decode Y_Tree_begin.2.1 45 = .ok (.aload_n 0, 1) := by decide +kernel
theorem d_Tree_begin_46 : decode Y_Tree_begin.2.1 46 = .ok (.iconst 0, 1) := by decide +kernel
theorem d_Tree_begin_47 : decode Y_Tree_begin.2.1 47 = .ok (.putfield 108, 3) := by decide +kernel
theorem d_Tree_begin_50 : decode Y_Tree_begin.2.1 50 = .ok (.return_, 1) := by decide +kernel
section CR
variable {E : gE} {d : Nat} {G G0 : gS} {a : Nat} {c c' c0 c1 : cS} {u u' u2 u0 : uS} {n n' n0 n1 sl sl' sl1 : Nat} {Q : gO → gS → Prop} {B SS : Nat} {P : Nat → Nat → Int32} {N t0 X C nk nk' way : Nat} {tm cp : Nat → Nat} {ob : Nat → Int32} {T : Nat → Prop} {pos plc : Nat → List Nat} {an : aAn} {ks bs sp ps ps' qs qs' qs1 ms : List Nat} {Z : List zQ} {st : aSt}
/-- the root's place -/
theorem wyC_0 {y : Nat} (hy : ps[0]? = some y) (h0 : u.2.2.1 y 0 = 0) (h1 : u.2.2.1 y 1 = 2) (h2 : u.2.2.1 y 2 = 0) (h4 : u.2.2.1 y 4 = 0) : wyC P t0 u ps 1 (fun _ => []) an0 := by
  refine ⟨fun i hi => ?_, by decide, by decide, rfl, fun i j hi hj _ => by omega⟩
  obtain rfl : i = 0 := by omega
  exact ⟨y, hy, h0, Or.inl ⟨rfl, h1, h2, h4⟩⟩
/-- what begin gives -/
def bgQ (E : gE) (G : gS) (a B SS : Nat) (P : Nat → Nat → Int32) (N t0 : Nat) (tm : Nat → Nat) (ob : Nat → Int32) (T : Nat → Prop) (C : Nat) (cp : Nat → Nat) (c : cS) (u : uS) (n : Nat) (sp qs ms : List Nat) : gO → gS → Prop := fun o G' => o = .inl none ∧ ∃ c' u' n' sl' ps', G' = yW E G a c' u' n' sl' ∧ clT E a B SS P N t0 tm ob T C cp c' u' n' sl' [] [] sp ps' qs ms 0 [] st0 ∧ gF c u n c' u' n' ∧ c'.1 16 = nI 1 ∧ wyC P t0 u' ps' 1 (fun _ => []) an0
set_option maxHeartbeats 400000 in
set_option maxRecDepth 100000 in
theorem m_T_begin2 (h : hpOk E a B SS c u n sl ks sp ps qs ms) (tw : tmW P u a tm ob T) (hK : cK P C cp tm c) : GM E Y_Tree_begin (d + 9) [.ref (a + 12)] (yW E G a c u n sl) (bgQ E G a B SS P N t0 tm ob T C cp c u n (ks ++ sp) qs ms) := by
  refine g_entry (by decide) (by simp [Value.category]) (Nat.le_of_ble_eq_true rfl) ?_
  have h13 := h.1.2.2.2.2.2.2.1
  have hkl := rw_len h.1
  have emin : (if (0 : Int32) < c.1 13 then 0 else c.1 13) = 0 := by
    rw [h13]
    cases ks with
    | nil => rfl
    | cons y r => exact if_pos ((lt_hi (show (0 : Int32).toInt = ((0 : Nat) : Int) by decide) (nI_hi (by simp only [List.length_cons] at hkl ⊢; omega))).mpr (by simp))
  have h1 : hpOk E a B SS (cF c 13 0) u n sl [] (ks ++ sp) ps qs ms := hp_cut (ks := []) (bs := ks) h
  refine g_aload_n d_Tree_begin_0 rfl ?_
  refine x_get (k := 12) (j := 2) (v := .ref (a + 13)) kc_Tree fl_Tree_12 (by decide) (by decide) rfl rfl d_Tree_begin_1 ?_
  refine g_iconst (v := 0) d_Tree_begin_4 (by decide) ?_
  refine c_Vr (as := [.int (0)]) kv_Rows_cutTo ml_Tree_89 rfl (x_at (k := 13) (by decide) rfl) (m_S_cutTo 0) rfl (Nat.le_of_ble_eq_true rfl) rfl d_Tree_begin_5 rfl ?_
  rw [emin]
  refine g_aload_n d_Tree_begin_8 rfl ?_
  refine x_get (k := 12) (j := 3) (v := .ref (a + 15)) kc_Tree fl_Tree_21 (by decide) (by decide) rfl rfl d_Tree_begin_9 ?_
  refine c_Vx (as := []) kv_Places_begin ml_Tree_92 rfl (x_at (k := 15) (by decide) rfl) (m_P_begin (d := d) h1) rfl (Nat.le_of_ble_eq_true rfl) rfl d_Tree_begin_12 rfl (fun G_12 h_12 => ?_)
  obtain ⟨c1, u1, n1, sl1, ps1, rfl, pa, e16, y, hy, y0, y1, y2, y4⟩ := h_12
  refine g_aload_n d_Tree_begin_15 rfl ?_
  refine g_iconst (v := 0) d_Tree_begin_16 (by decide) ?_
  refine x_put (c' := (cF c1 6 (0))) (k := 12) (j := 7) kc_Tree fl_Tree_47 (by decide) (by decide) rfl rfl rfl rfl (Nat.le_of_ble_eq_true rfl) rfl rfl xf_F6 d_Tree_begin_17 ?_
  refine g_aload_n d_Tree_begin_20 rfl ?_
  refine g_iconst (v := 0) d_Tree_begin_21 (by decide) ?_
  refine x_put (c' := (cF (cF c1 6 (0)) 7 (0))) (k := 12) (j := 8) kc_Tree fl_Tree_93 (by decide) (by decide) rfl rfl rfl rfl (Nat.le_of_ble_eq_true rfl) rfl rfl xf_F7 d_Tree_begin_22 ?_
  refine g_aload_n d_Tree_begin_25 rfl ?_
  refine g_iconst (v := 0) d_Tree_begin_26 (by decide) ?_
  refine x_put (c' := (cF (cF (cF c1 6 (0)) 7 (0)) 8 (0))) (k := 12) (j := 9) kc_Tree fl_Tree_96 (by decide) (by decide) rfl rfl rfl rfl (Nat.le_of_ble_eq_true rfl) rfl rfl xf_F8 d_Tree_begin_27 ?_
  refine g_aload_n d_Tree_begin_30 rfl ?_
  refine g_iconst (v := 0) d_Tree_begin_31 (by decide) ?_
  refine x_put (c' := (cF (cF (cF (cF c1 6 (0)) 7 (0)) 8 (0)) 9 (0))) (k := 12) (j := 10) kc_Tree fl_Tree_99 (by decide) (by decide) rfl rfl rfl rfl (Nat.le_of_ble_eq_true rfl) rfl rfl xf_F9 d_Tree_begin_32 ?_
  refine g_aload_n d_Tree_begin_35 rfl ?_
  refine g_iconst (v := 0) d_Tree_begin_36 (by decide) ?_
  refine x_put (c' := (cF (cF (cF (cF (cF c1 6 (0)) 7 (0)) 8 (0)) 9 (0)) 10 (0))) (k := 12) (j := 11) kc_Tree fl_Tree_102 (by decide) (by decide) rfl rfl rfl rfl (Nat.le_of_ble_eq_true rfl) rfl rfl xf_F10 d_Tree_begin_37 ?_
  refine g_aload_n d_Tree_begin_40 rfl ?_
  refine g_iconst (v := 0) d_Tree_begin_41 (by decide) ?_
  refine x_put (c' := (cF (cF (cF (cF (cF (cF c1 6 (0)) 7 (0)) 8 (0)) 9 (0)) 10 (0)) 11 (0))) (k := 12) (j := 12) kc_Tree fl_Tree_105 (by decide) (by decide) rfl rfl rfl rfl (Nat.le_of_ble_eq_true rfl) rfl rfl xf_F11 d_Tree_begin_42 ?_
  refine g_aload_n d_Tree_begin_45 rfl ?_
  refine g_iconst (v := 0) d_Tree_begin_46 (by decide) ?_
  refine x_put (c' := (cF (cF (cF (cF (cF (cF (cF c1 6 (0)) 7 (0)) 8 (0)) 9 (0)) 10 (0)) 11 (0)) 12 (0))) (k := 12) (j := 13) kc_Tree fl_Tree_108 (by decide) (by decide) rfl rfl rfl rfl (Nat.le_of_ble_eq_true rfl) rfl rfl xf_F12 d_Tree_begin_47 ?_
  refine g_vret rfl d_Tree_begin_50 ?_
  have hf1 : gF c u n c1 u1 n1 := gF_tr (gF_r rFc_13 rFr_rf (Nat.le_refl _)) (gF_p pa.2.1 pa.2.2.1 pa.2.2.2.1)
  generalize hcc : (cF (cF (cF (cF (cF (cF (cF c1 6 (0)) 7 (0)) 8 (0)) 9 (0)) 10 (0)) 11 (0)) 12 (0)) = c2
  have cj : ∀ j, j < 6 ∨ 12 < j → c2.1 j = c1.1 j := fun j hj => by
    rw [← hcc]
    show upd (upd (upd (upd (upd (upd (upd c1.1 6 0) 7 0) 8 0) 9 0) 10 0) 11 0) 12 0 j = _
    rw [up_ne (by omega), up_ne (by omega), up_ne (by omega), up_ne (by omega), up_ne (by omega), up_ne (by omega), up_ne (by omega)]
  have cz : ∀ j, 6 ≤ j → j ≤ 12 → c2.1 j = 0 := fun j h6 h12 => by
    rw [← hcc]
    rcases (show j = 6 ∨ j = 7 ∨ j = 8 ∨ j = 9 ∨ j = 10 ∨ j = 11 ∨ j = 12 by omega) with rfl | rfl | rfl | rfl | rfl | rfl | rfl <;> rfl
  have c2r : c2.2 = c1.2 := by rw [← hcc]; rfl
  have hg2 : gF c1 u1 n1 c2 u1 n1 := gF_c (fun j hj => cj j (by omega)) (fun j _ _ => by rw [c2r]) (by rw [c2r])
  have hg := gF_tr hf1 hg2
  have hp2 := (hpOk_k (c' := c2) (K := fun k => k = 5) pa.1 kFr_rf (fun k w => Or.inl w) (fun _ => rfl) (fun j hj => cj j (by omega)) (fun j => by rw [c2r])).1
  refine ⟨rfl, c2, u1, n1, sl1, ps1, rfl, ⟨hp2, tmW_g tw (hpOk_un h) hg, cK_g hK hg, fun j x hj => (by simp [st0] at hj), ⟨rfl, fun j x z hj => (by simp [st0] at hj)⟩, cz 6 (by decide) (by decide), Nat.zero_le _, Nat.zero_le _, rfl, Nat.zero_le _, cz 7 (by decide) (by decide), Nat.le_refl _, cz 10 (by decide) (by decide), cz 11 (by decide) (by decide), cz 9 (by decide) (by decide), fun _ => cz 8 (by decide) (by decide), fun hh => absurd rfl hh, cz 12 (by decide) (by decide)⟩, hg, (cj 16 (by decide)).trans e16, wyC_0 hy y0 y1 y2 y4⟩
/-- what grow gives -/
def grQ (E : gE) (G : gS) (a B SS : Nat) (P : Nat → Nat → Int32) (N t0 : Nat) (tm : Nat → Nat) (ob : Nat → Int32) (T : Nat → Prop) (C : Nat) (cp : Nat → Nat) (c : cS) (u : uS) (n : Nat) (ms : List Nat) : gO → gS → Prop := fun o G' =>
  (∃ st, aTree P t0 cp C = some st ∧ o = .inl (some (.int 1)) ∧ ∃ c' u' n' sl' ks' sp' ps' qs' nk' Z', G' = yW E G a c' u' n' sl' ∧ clT E a B SS P N t0 tm ob T C cp c' u' n' sl' ks' [] sp' ps' qs' ms nk' Z' st ∧ gF c u n c' u' n') ∨
  (aTree P t0 cp C = none ∧ o = .inl (some (.int 0)) ∧ ∃ c' u' n' sl' ks' sp' ps' qs', G' = yW E G a c' u' n' sl' ∧ hpOk E a B SS c' u' n' sl' ks' sp' ps' qs' ms ∧ gF c u n c' u' n')
set_option maxHeartbeats 400000 in
theorem m_T_gr45 {G' : gS} {s : Int32} (hs : ¬ 1000000 ≤ s) (kk : Q (.inl (some (.int 1))) G') : GT E Y_Tree_grow d G0 45 [(0, .ref (a + 12)), (1, .int (-1)), (2, .int s)] [] G' Q := by
  refine g_iload_n d_Tree_grow_45 rfl ?_
  refine g_ldc cn_Tree_62 d_Tree_grow_46 ?_
  refine g_icmp_ge (tgt := 137) d_Tree_grow_48 (by decide) (fun c_48 => ?_) (fun c_48 => ?_)
  · exact absurd c_48 hs
  refine g_iload_n d_Tree_grow_51 rfl ?_
  refine g_iconst (v := (-1)) d_Tree_grow_52 (by decide) ?_
  refine g_icmp_eq (tgt := 137) d_Tree_grow_53 (by decide) (fun c_53 => ?_) (fun c_53 => ?_)
  rotate_left
  · exact absurd c_53 (fun q => q rfl)
  refine g_iconst (v := 1) d_Tree_grow_137 (by decide) ?_
  refine g_zret rfl rfl d_Tree_grow_138 ?_
  exact kk
set_option maxHeartbeats 400000 in
theorem m_T_gr25n (h6 : c.1 6 = 0) (kk : GT E Y_Tree_grow d G0 45 [(0, .ref (a + 12)), (1, .int (-1)), (2, .int 0)] [] (yW E G a c u n sl) Q) : GT E Y_Tree_grow d G0 25 [(0, .ref (a + 12))] [.int 1] (yW E G a c u n sl) Q := by
  refine g_if_ne (tgt := 30) d_Tree_grow_25 (by decide) (fun c_25 => ?_) (fun c_25 => absurd c_25 (by decide))
  refine g_aload_n d_Tree_grow_30 rfl ?_
  refine x_get (k := 12) (j := 7) (v := .int (c.1 6)) kc_Tree fl_Tree_47 (by decide) (by decide) rfl rfl d_Tree_grow_31 ?_
  rw [h6]
  refine g_if_le (tgt := 41) d_Tree_grow_34 (by decide) (fun c_34 => ?_) (fun c_34 => absurd c_34 (by decide))
  refine g_iconst (v := (-1)) d_Tree_grow_41 (by decide) ?_
  refine g_istore_n d_Tree_grow_42 (by decide) rfl ?_
  refine g_iconst (v := 0) d_Tree_grow_43 (by decide) ?_
  refine g_istore_n d_Tree_grow_44 (by decide) rfl ?_
  exact kk
set_option maxHeartbeats 400000 in
theorem m_T_gr25p (h6 : c.1 6 = 1) (kk : GT E Y_Tree_grow d G0 45 [(0, .ref (a + 12)), (1, .int 0), (2, .int 0)] [] (yW E G a c u n sl) Q) : GT E Y_Tree_grow d G0 25 [(0, .ref (a + 12))] [.int 1] (yW E G a c u n sl) Q := by
  refine g_if_ne (tgt := 30) d_Tree_grow_25 (by decide) (fun c_25 => ?_) (fun c_25 => absurd c_25 (by decide))
  refine g_aload_n d_Tree_grow_30 rfl ?_
  refine x_get (k := 12) (j := 7) (v := .int (c.1 6)) kc_Tree fl_Tree_47 (by decide) (by decide) rfl rfl d_Tree_grow_31 ?_
  rw [h6]
  refine g_if_le (tgt := 41) d_Tree_grow_34 (by decide) (fun c_34 => absurd c_34 (by decide)) (fun c_34 => ?_)
  refine g_iconst (v := 0) d_Tree_grow_37 (by decide) ?_
  refine g_goto (tgt := 42) d_Tree_grow_38 (by decide) ?_
  refine g_istore_n d_Tree_grow_42 (by decide) rfl ?_
  refine g_iconst (v := 0) d_Tree_grow_43 (by decide) ?_
  refine g_istore_n d_Tree_grow_44 (by decide) rfl ?_
  exact kk
set_option maxHeartbeats 1000000 in
set_option maxRecDepth 100000 in
theorem m_T_grow (wf : wfA P N pos) (wb : wfB P N) (wk : wfK P N) (tp : tmP P N tm ob T) (hC20 : C ≤ 20) (ht0 : t0 < 16) (hNC : N + C ≤ 511) (h09 : ∀ t, tn (P 0 t) ≤ 9) (hg01 : ∀ k, k < C → P 12 k = 0 ∨ P 12 k = 1) (hP0 : ∀ t, t < 16 → ∃ v, v ≤ 9 ∧ P 0 t = nI v) (hAr : ∀ π w, ¬ P 0 (tyP P t0 π) ≤ 1 → w < tn (P 0 (tyP P t0 π)) - 1 → ∃ a, a ≤ 4 ∧ P 1 (8 * tyP P t0 π + w) = nI a) (hcp : wfC P N pos t0 C cp) (hcT : ∀ k, k < C → T (cp k)) (h : hpOk E a B SS c u n sl ks sp ps qs ms) (tw : tmW P u a tm ob T) (hK : cK P C cp tm c) : GM E Y_Tree_grow (d + 34) [.ref (a + 12)] (yW E G a c u n sl) (grQ E G a B SS P N t0 tm ob T C cp c u n ms) := by
  have bN := wf.1.1
  have RUN : ∀ f, cRun E d G (yW E G a c u n sl) a B SS P N t0 pos tm ob T C cp ms (grQ E G a B SS P N t0 tm ob T C cp c u n ms) f := fun f => by
    induction f using Nat.strongRecOn with
    | _ f ih => exact m_T_run wf wb wk tp hC20 ht0 hNC h09 hg01 hP0 hAr f ih
  refine g_entry (by decide) (by simp [Value.category]) (Nat.le_of_ble_eq_true rfl) ?_
  refine g_aload_n d_Tree_grow_0 rfl ?_
  refine c_V (as := []) kv_Tree_begin ml_Tree_51 rfl (x_at (k := 12) (by decide) rfl) (m_T_begin2 (N := N) (t0 := t0) (d := d + 24) h tw hK) rfl (Nat.le_of_ble_eq_true rfl) rfl d_Tree_grow_1 (fun v_1 G_1 h_1 => ?_) (fun D_1 G_1 h_1 => by obtain ⟨h, -⟩ := h_1; cases h)
  obtain ⟨ho1, c1, u1, n1, sl1, ps1, rfl, hT1, g1, e16, hwy⟩ := h_1
  cases ho1
  have KC := m_S_putCases (E := E) (d := d + 24) (G := G) (l0 := []) (C := C) (cp := cp) wf.1 wb wk tp hT1.2.1 hC20 (by decide) (fun k hk => ⟨hcT k hk, (hcp k hk).2.2.1, (hT1.2.2.1.2.1 k hk).2⟩) hT1.2.2.1.1 hT1.1.1
  refine g_aload_n d_Tree_grow_4 rfl ?_
  refine x_get (k := 12) (j := 2) (v := .ref (a + 13)) kc_Tree fl_Tree_12 (by decide) (by decide) rfl rfl d_Tree_grow_5 ?_
  refine g_aload_n d_Tree_grow_8 rfl ?_
  refine x_get (k := 12) (j := 1) (v := .ref (a + 5)) kc_Tree fl_Tree_43 (by decide) (by decide) rfl rfl d_Tree_grow_9 ?_
  refine c_V (as := [.ref (a + 5)]) kv_Rows_putCases ml_Tree_54 rfl (x_at (k := 13) (by decide) rfl) (KC) rfl (Nat.le_of_ble_eq_true rfl) rfl d_Tree_grow_12 (fun v_12 G_12 h_12 => ?_) (fun D_12 G_12 h_12 => by rcases h_12 with ⟨h, -⟩ | ⟨h, -⟩ <;> cases h)
  rcases h_12 with ⟨ho, c3, u3, n3, sl3, sp3, bs, rfl, B3, hc3⟩ | ⟨ho, hbad, c3, u3, n3, sl3, sp3, bs, rfl, B3⟩
  · cases ho
    have hp3 := hpOk_rows hT1.1 B3.1 B3.2.1 B3.2.2.1 B3.2.2.2.1
    have hT3 := clT_rows (bs' := bs) hT1 hp3 B3.2.1 B3.2.2.1 B3.2.2.2.1 (fun y hy => by cases hy)
    obtain ⟨r1, r2⟩ := tFr_r (D := 0) hT1.1 B3.2.1 B3.2.2.1 B3.2.2.2.1
    have hg3 := gF_tr g1 r1.1
    have hlen3 := rcs_len hc3
    have h80 := B3.2.2.2.2.2
    simp only [List.length_nil, Nat.zero_add] at h80
    have hLen : (aF P ([] : List Nat) cp C).length = (aF P 0 cp C).length := aF_len2 C
    have hmap := rP_aF (P := P) (cp := cp) (plc := fun _ => []) rfl C
    have hTree : aTree P t0 cp C = aB P t0 600 (aF P [] cp C) (-1) 0 0 an0 st0 := if_neg (by omega)
    have hpr := aF_ok wf hcp C (Nat.le_refl _)
    have hWd0 : pWd N pos C [] [] an0 := ⟨List.nodup_nil, fun π h => (by cases h), List.nodup_nil, fun k h => (by cases h), fun π h => absurd rfl h⟩
    have hok0 : anOk P t0 an0 := fun π => Or.inl rfl
    obtain ⟨Dr', v1, v2, v3, v4⟩ := pPl_way (way := 0) (aF P ([] : List Nat) cp C).length (aF P ([] : List Nat) cp C) st0 [] hpr List.nodup_nil (fun k h => (by cases h))
    have hDl := nd_leN v1 v2
    simp only [List.length_nil, Nat.zero_add] at v4
    have hdr : (pPl P 0 (aF P ([] : List Nat) cp C).length (aF P ([] : List Nat) cp C) st0).2.2.length < 600 := by omega
    obtain ⟨pl1, pl2, pl3, pl4⟩ := pPl_1 (P := P) (way := 0) (aF P ([] : List Nat) cp C).length (aF P ([] : List Nat) cp C) st0
    have KPL := m_T_plant (E := E) (d := d + 1) (G := G) (way := 0) (up := -1) (via := 0) (X := 1) (plc := fun _ => []) (an := an0) (W := []) (Dr := []) (Q := fun o G' => ∃ v, o = .inl (some (.int v)) ∧ GT E Y_Tree_grow (d + 34) (yW E G a c u n sl) 25 [(0, .ref (a + 12))] [.int v] G' (grQ E G a B SS P N t0 tm ob T C cp c u n ms)) (c := c3) (u := u3) (n := n3) (sl := sl3) wf wb wk tp hC20 ht0 hg01 (fun π h => absurd rfl h) (dOk_all (W := []) (fun π h => absurd rfl h) 26 [] (by decide) (by decide)) (by have := aT_bound (t0 := t0) (pos := pos) hok0 (show N ≤ 512 by omega) (fun π h => absurd rfl h) 26 []; omega) (by decide) hT3 hc3 (cases_rws (kd := fun t => u3.2.2.1 t 1) (on := fun t => u3.2.2.1 t 5) wf.1 wb wk tp (tW_kd hT3.2.1) C (fun k hk => ⟨hcT k hk, (hcp k hk).2.2.1⟩)) (by omega) (by rw [r2.1]; exact e16) (wyC_S hwy hT1.1.2.1 r2) (by rw [hmap]; exact hpr) List.nodup_nil (fun k h => (by cases h)) (by decide) (by decide) (Or.inl ⟨rfl, rfl⟩) ⟨fun _ => ⟨rfl, fun _ _ => rfl⟩, fun i xi zi k hi => by cases hi⟩
    rw [hmap, ← hLen] at KPL
    have KPL2 := KPL (fun c' u' n' sl' sp' st' w1 w2 w3 w4 => ⟨1, rfl, ?_⟩) (fun c' u' n' sl' sp' qs' nk' bs' ow p k ws bd Lr q w1 w2 w3 w4 w5 w6 w7 w8 => ⟨1, rfl, ?_⟩) (fun c' u' n' sl' ks' sp' qs' w1 w2 w3 => ⟨0, rfl, ?_⟩)
    rotate_left
    · -- a leaf
      have ht := aB_leaf (up := -1) (via := 0) hdr w1
      have hs' : st'.1 = [] := by
        generalize (pPl P 0 (aF P ([] : List Nat) cp C).length (aF P ([] : List Nat) cp C) st0).2.1 = LL at w1
        cases LL with
        | nil =>
          simp only [stL, Option.some.injEq] at w1
          subst w1
          exact pl1
        | cons A r =>
          simp only [stL] at w1
          split at w1
          · simp only [Option.some.injEq] at w1
            subst w1
            exact pl1
          · cases w1
      refine m_T_gr25n (by rw [w2.2.2.2.2.2.1, hs']; rfl) (m_T_gr45 (by decide) ?_)
      exact Or.inl ⟨st', hTree.trans ht, rfl, c', u', n', sl', [], sp', ps1, qs, 0, [], rfl, w2, gF_tr hg3 w3.1⟩
    · -- a question
      have ht := aB_asks (t0 := t0) (an := an0) (up := -1) (via := 0) (A := rP (fun _ => []) (ow, (p, k) :: ws, bd)) (r := Lr.map (rP (fun _ => []))) (w := ([], k)) (ws := ws.map (fun q => ([], q.2))) hdr w1 rfl
      rw [if_neg w2, if_neg w3, pl1] at ht
      have hR1 : 1 ≤ (pPl P 0 (aF P ([] : List Nat) cp C).length (aF P ([] : List Nat) cp C) st0).2.1.length := by rw [w1]; simp
      have hqn' := qN_le (t0 := t0) h09 (pPl P 0 (aF P ([] : List Nat) cp C).length (aF P ([] : List Nat) cp C) st0).2.1 []
      have hcn := pC_new (z := (bs', (ow, (p, k) :: ws, bd) :: Lr, p, 1, 0, fun _ => [])) (up := -1) (via := 0) (W := []) (Dr := Dr') (an := an0) wf wk ht0 w1 rfl ⟨List.nodup_nil, fun π h => (by cases h), v1, v2, fun π h => absurd rfl h⟩ hok0 v3 (fun j _ ρ e he => by simp at he) (Nat.le_refl 1)
      generalize (pPl P 0 (aF P ([] : List Nat) cp C).length (aF P ([] : List Nat) cp C) st0) = pp at *
      have hQe : (stQ pp.2.1 [] 0 (-1) 0 pp.1).1 = [(pp.2.1, [], 0, -1, 0)] := by
        show pp.1.1 ++ _ = _
        rw [pl1]
        rfl
      have hwy4 := wyC_S (wyC_S hwy hT1.1.2.1 r2) hT3.1.2.1 w6
      have h6' : c'.1 6 = 1 := by rw [w4.2.2.2.2.2.1, hQe]; rfl
      refine m_T_gr25p h6' ?_
      refine RUN (600 - pp.2.2.length - 1) 0 (pp.2.1, [], 0, -1, 0) _ q _ [] Dr' an0 c' u' n' sl' ([] ++ bs') sp' ps1 qs' nk' _ 0 0 (by simp only [List.length_nil]; omega) w4 (by rw [hQe]; rfl) rfl w7 w8 hcn hwy4 ?_ ?_ ?_ ?_ (fun c2 u2 n2 sl2 ks2 sp2 ps2 qs2 nk2 Z2 st2 s2 x1 x2 x3 x4 x5 x6 x7 => ?_) (fun c2 u2 n2 sl2 ks2 sp2 ps2 qs2 x1 x2 x3 => ?_)
      · obtain ⟨yy, hyy, -⟩ := hwy4.1 0 (by decide)
        have := (List.getElem?_eq_some_iff.mp hyy).1
        show 1 ≤ ps1.length
        omega
      · show 0 + 0 + (qN P t0 pp.2.1 [] + 1) ≤ 10 * (pp.1.2.2.2.2.2.1 + pp.2.1.length)
        omega
      · show pp.1.2.2.1 ≤ 0
        rw [pl3]
        exact Nat.le_refl _
      · show max pp.1.2.2.2.2.2.2.2 (0 + 1) ≤ 600
        rw [pl4]
        decide
      · have hks2 := x2.2.2.2.2.2.2.2.2.1
        have hks8 := x2.2.2.2.2.2.2.2.2.2.1
        refine m_T_gr45 (fun hh => by have := (le_hi (show (1000000 : Int32).toInt = ((1000000 : Nat) : Int) by decide) (nI_hi (by omega))).mp hh; omega) ?_
        exact Or.inl ⟨st2, hTree.trans (ht.trans x1), rfl, c2, u2, n2, sl2, ks2, sp2, ps2, qs2, nk2, Z2, rfl, x2, gF_tr hg3 (gF_tr w5.1 x3.1)⟩
      · exact Or.inr ⟨hTree.trans (ht.trans x1), rfl, c2, u2, n2, sl2, ks2, sp2, ps2, qs2, rfl, x2, gF_tr hg3 (gF_tr w5.1 x3)⟩
    · -- too great
      obtain ⟨A, r, w, ws, a1, a2, a3⟩ := w1
      have ht : aB P t0 600 (aF P [] cp C) (-1) 0 0 an0 st0 = none := by
        rw [aB_asks hdr a1 a2]
        rcases a3 with a3 | a3
        · rw [if_pos a3]
        · split
          · rfl
          · rfl
      refine g_if_ne (tgt := 30) d_Tree_grow_25 (by decide) (fun c_25 => absurd c_25 (by decide)) (fun c_25 => ?_)
      refine g_iconst (v := 0) d_Tree_grow_28 (by decide) ?_
      refine g_zret rfl rfl d_Tree_grow_29 ?_
      exact Or.inr ⟨hTree.trans ht, rfl, c', u', n', sl', ks', sp', ps1, qs', rfl, w2, gF_tr hg3 w3⟩
    refine g_if_eq (tgt := 28) d_Tree_grow_15 (by decide) (fun c_15 => absurd c_15 (by decide)) (fun c_15 => ?_)
    refine g_aload_n d_Tree_grow_18 rfl ?_
    refine g_iconst (v := (-1)) d_Tree_grow_19 (by decide) ?_
    refine g_iconst (v := 0) d_Tree_grow_20 (by decide) ?_
    refine g_iconst (v := 0) d_Tree_grow_21 (by decide) ?_
    refine c_V (as := [.int ((-1)), .int (0), .int (0)]) kv_Tree_plant ml_Tree_58 rfl (x_at (k := 12) (by decide) rfl) (KPL2) rfl (Nat.le_of_ble_eq_true rfl) rfl d_Tree_grow_22 (fun v_22 G_22 h_22 => ?_) (fun D_22 G_22 h_22 => by obtain ⟨_, h, _⟩ := h_22; cases h)
    obtain ⟨v, ho, hk⟩ := h_22
    cases ho
    exact hk
  · cases ho
    simp only [List.length_nil, Nat.zero_add] at hbad
    have hLen : (aF P ([] : List Nat) cp C).length = (aF P 0 cp C).length := aF_len2 C
    have hp3 := hpOk_rows hT1.1 B3.1 B3.2.1 B3.2.2.1 B3.2.2.2.1
    refine g_if_eq (tgt := 28) d_Tree_grow_15 (by decide) (fun c_15 => ?_) (fun c_15 => absurd c_15 (by decide))
    refine g_iconst (v := 0) d_Tree_grow_28 (by decide) ?_
    refine g_zret rfl rfl d_Tree_grow_29 ?_
    exact Or.inr ⟨if_pos (by omega), rfl, c3, u3, n3, sl3, _, sp3, ps1, qs, rfl, hp3, gF_tr g1 (gF_r B3.2.1 B3.2.2.1 B3.2.2.2.1)⟩
end CR
