/-! Tree.follow: its contract -/
section CP
variable {E : gE} {d : Nat} {G G0 : gS} {a : Nat} {c c' c0 c1 : cS} {u u' u2 u0 : uS} {n n' n0 n1 sl sl' sl1 : Nat} {Q : gO → gS → Prop} {B SS : Nat} {P : Nat → Nat → Int32} {N t0 X C nk nk' way : Nat} {tm cp : Nat → Nat} {ob : Nat → Int32} {T : Nat → Prop} {pos plc : Nat → List Nat} {an : aAn} {ks bs sp ps ps' qs qs' qs1 ms : List Nat} {Z : List zQ} {st : aSt} {W : List (List Nat)} {Dr : List Nat} {x : qR} {z : zQ}
theorem fwF_q {D i k q0 : Nat} {v : Int32} (hh : hpOk E a B SS c u n sl ks sp ps qs ms) (hq : qs[i]? = some q0) (h : fwF c (uI u q0 11 v) n ps qs z D i k c' u' n' ps' qs') : fwF c u n ps qs z D i k c' u' n' ps' qs' := by
  obtain ⟨h1, h2, h3, h4, h5⟩ := h
  have hz := (lOk_get hh.2.2.1 hq).2.2.2.2.1
  have hpl : ∀ j y, ps[j]? = some y → (uI u q0 11 v).2.2.1 y = u.2.2.1 y := fun j y hy => uI_o (fun e => by
    have h5 := (lOk_get hh.2.1 hy).2.2.2.2.1.1
    rw [e, hz.1] at h5
    exact absurd h5 (by decide))
  refine ⟨gF_tr ⟨fun _ _ => rfl, fun _ _ _ => rfl, rfl, rfl, kFr_mono (kFr_I (n := n) (j := 11) (x := v) hz.1) (fun k hk => by rw [hk]; decide), Nat.le_refl _⟩ h1, fun j q hj hqj => ?_, fun j hj hjp => plE_tr (plE_eq (fun y hy => ⟨hy, hpl j y hy⟩)) (h3 j hj hjp), fun y hy => ?_, h5⟩
  · obtain ⟨v1, v2, v3⟩ := h2 j q hj hqj
    refine ⟨v1, fun hne => ?_, v3⟩
    rw [v2 hne, uI_o (nd_ne hh.2.2.2.2.2.2.2 hqj hq hne)]
  · obtain ⟨v1, v2⟩ := h4 y hy
    exact ⟨v1, by rw [v2, hpl _ y hy]⟩
set_option maxHeartbeats 1000000 in
set_option maxRecDepth 100000 in
theorem m_T_follow (wf : wfA P N pos) (wb : wfB P N) (wk : wfK P N) (tp : tmP P N tm ob T) (hC20 : C ≤ 20) (ht0 : t0 < 16) (hNC : N + C ≤ 511) (hg01 : ∀ k, k < C → P 12 k = 0 ∨ P 12 k = 1) (hP0 : ∀ t, t < 16 → ∃ v, v ≤ 9 ∧ P 0 t = nI v) (hAr : ∀ π w, ¬ P 0 (tyP P t0 π) ≤ 1 → w < tn (P 0 (tyP P t0 π)) - 1 → ∃ a, a ≤ 4 ∧ P 1 (8 * tyP P t0 π + w) = nI a)
    (hT : clT E a B SS P N t0 tm ob T C cp c u n sl ks [] sp ps qs ms nk Z st) {i q0 k0 : Nat} (hx : st.1[i]? = some x) (hZ : Z[i]? = some z) (hq : qs[i]? = some q0) (hC : pC P N pos t0 C W Dr an x z) (hE : pE P t0 u ps an x z) (hfl : st.2.2.1 < 999999) (hlg : st.2.2.2.2.2.2.2 ≤ 3000) (hfo : u.2.2.1 q0 11 = nI k0) (hk0 : k0 < qN P t0 x.1 x.2.1)
    (kL : ∀ c' u' n' sl' sp' ps' st', (qL P t0 x.1 x.2.1 k0).length ≤ 80 → stL P t0 (anU an x.2.1 (qX P t0 x.1 x.2.1 k0)) (W.length + 1) (pPl P (W.length + 1) (qL P t0 x.1 x.2.1 k0).length (qL P t0 x.1 x.2.1 k0) st).1 (pPl P (W.length + 1) (qL P t0 x.1 x.2.1 k0).length (qL P t0 x.1 x.2.1 k0) st).2.1 = some st' → clT E a B SS P N t0 tm ob T C cp c' u' n' sl' ks [] sp' ps' qs ms nk Z st' → fwF c u n ps qs z st.1.length i (k0 + 1) c' u' n' ps' qs → Q (.inl (some (.int 1))) (yW E G a c' u' n' sl'))
    (kA : ∀ c' u' n' sl' sp' ps' qs' nk' bs' z' q' A r w ws Dr', (qL P t0 x.1 x.2.1 k0).length ≤ 80 → (pPl P (W.length + 1) (qL P t0 x.1 x.2.1 k0).length (qL P t0 x.1 x.2.1 k0) st).2.1 = A :: r → A.2.1 = w :: ws → ¬ (pPl P (W.length + 1) (qL P t0 x.1 x.2.1 k0).length (qL P t0 x.1 x.2.1 k0) st).1.1.length = 1000 → ¬ 800 < (pPl P (W.length + 1) (qL P t0 x.1 x.2.1 k0).length (qL P t0 x.1 x.2.1 k0) st).1.2.2.2.2.2.1 + (pPl P (W.length + 1) (qL P t0 x.1 x.2.1 k0).length (qL P t0 x.1 x.2.1 k0) st).2.1.length → clT E a B SS P N t0 tm ob T C cp c' u' n' sl' (ks ++ bs') [] sp' ps' qs' ms nk' (Z ++ [z']) (stQ (pPl P (W.length + 1) (qL P t0 x.1 x.2.1 k0).length (qL P t0 x.1 x.2.1 k0) st).2.1 w.1 (W.length + 1) (nI i) (nI k0) (pPl P (W.length + 1) (qL P t0 x.1 x.2.1 k0).length (qL P t0 x.1 x.2.1 k0) st).1) → fwF c u n ps qs z st.1.length i (k0 + 1) c' u' n' ps' qs' → pC P N pos t0 C (x.2.1 :: W) Dr' (anU an x.2.1 (qX P t0 x.1 x.2.1 k0)) ((pPl P (W.length + 1) (qL P t0 x.1 x.2.1 k0).length (qL P t0 x.1 x.2.1 k0) st).2.1, w.1, W.length + 1, nI i, nI k0) z' → Dr'.length = Dr.length + (pPl P (W.length + 1) (qL P t0 x.1 x.2.1 k0).length (qL P t0 x.1 x.2.1 k0) st).2.2.length → wyC P t0 u' ps' z'.2.2.2.1 z'.2.2.2.2.2 (anU an x.2.1 (qX P t0 x.1 x.2.1 k0)) → z.2.2.2.1 ≤ z'.2.2.2.1 → c'.1 16 = nI z'.2.2.2.1 → qs'[st.1.length]? = some q' → u'.2.2.1 q' 11 = 0 → Q (.inl (some (.int 1))) (yW E G a c' u' n' sl'))
    (kz : ∀ c' u' n' sl' ks' sp' ps' qs', (80 < (qL P t0 x.1 x.2.1 k0).length ∨ ∃ A r w ws, (pPl P (W.length + 1) (qL P t0 x.1 x.2.1 k0).length (qL P t0 x.1 x.2.1 k0) st).2.1 = A :: r ∧ A.2.1 = w :: ws ∧ ((pPl P (W.length + 1) (qL P t0 x.1 x.2.1 k0).length (qL P t0 x.1 x.2.1 k0) st).1.1.length = 1000 ∨ 800 < (pPl P (W.length + 1) (qL P t0 x.1 x.2.1 k0).length (qL P t0 x.1 x.2.1 k0) st).1.2.2.2.2.2.1 + (pPl P (W.length + 1) (qL P t0 x.1 x.2.1 k0).length (qL P t0 x.1 x.2.1 k0) st).2.1.length)) → hpOk E a B SS c' u' n' sl' ks' sp' ps' qs' ms → gF c u n c' u' n' → Q (.inl (some (.int 0))) (yW E G a c' u' n' sl')) : GM E Y_Tree_follow (d + 33) [.ref (a + 12), .int (nI i), .ref q0] (yW E G a c u n sl) Q := by
  obtain ⟨t1, t2, t3, t4, t5, t6, t7, t8, t9, tA, tB, tC1, tD⟩ := id hT
  obtain ⟨q0', z', lA, lB, g1, g2, g3, g4, g5, g6⟩ := t4 i x hx
  rw [hq] at g1
  cases g1
  rw [hZ] at g2
  cases g2
  have hz6 := g5.1
  have bN := wf.1.1
  have hT1 : clT E a B SS P N t0 tm ob T C cp c (uI u q0 11 (nI (k0 + 1))) n sl ks [] sp ps qs ms nk Z st := clT_q hT hz6.1
  obtain ⟨q0', z', lA, lB, g1, g2, g3, g4, g5, g6⟩ := hT1.2.2.2.1 i x hx
  rw [hq] at g1
  cases g1
  rw [hZ] at g2
  cases g2
  obtain ⟨f6, f0, f1, f2, f3, f4, f5, fN, fA, f8, f9, f10⟩ := id g5
  obtain ⟨z1, z2, z3, z4, z5, z6, z7, ⟨ow, k, ws, bd, Rr, z8⟩, z9⟩ := id g6
  have hps : ∀ j y, ps[j]? = some y → (uI u q0 11 (nI (k0 + 1))).2.2.1 y = u.2.2.1 y := fun j y hy => uI_o (fun e => by
    have h5 := (lOk_get t1.2.1 hy).2.2.2.2.1.1
    rw [e, hz6.1] at h5
    exact absurd h5 (by decide))
  have hE1 : pE P t0 (uI u q0 11 (nI (k0 + 1))) ps an x z := pE_fr hE (fun j _ _ => plE_eq (fun y hy => ⟨hy, hps j y hy⟩)) (fun y hy => ⟨hy, by rw [hps _ y hy]⟩) (Nat.le_refl _)
  obtain ⟨e1, ⟨y, hy, e2⟩, e3⟩ := id hE1
  cases hz1 : z.1 with
  | nil =>
    rw [hz1, z8] at g4
    exact g4.elim
  | cons b K =>
  rw [hz1] at g3
  have g4' := g4
  rw [hz1, z8] at g4'
  have hrow : rowW (uI u q0 11 (nI (k0 + 1))) a b := (hT1.1.1.2.2.2.2.2.1 b (by rw [g3]; simp)).1
  have hlo := hT1.1.1.2.2.2.1
  have hi : ((ks ++ []) ++ sp)[lA.length]? = some b := by
    have e : (ks ++ []) ++ sp = lA ++ b :: (K ++ lB ++ sp) := by rw [g3]; simp
    rw [e]
    exact mid_at
  have hA1 := z5 (ow, (z.2.2.1, k) :: ws, bd) (by rw [z8]; exact List.mem_cons_self)
  have hak : aK P k := hA1.2.1 (z.2.2.1, k) List.mem_cons_self
  obtain ⟨y1, y2, y3, y4, y5, -⟩ := tW_settled wf wk tp hT1.2.1 (q := (z.2.2.1, k)) (hA1.1.1 (z.2.2.1, k) List.mem_cons_self).2 hak
  simp only at y1 y2 y3 y4 y5
  have hmem : rP z.2.2.2.2.2 (ow, (z.2.2.1, k) :: ws, bd) ∈ x.1 := by
    rw [← z1, z8]
    exact List.mem_map_of_mem List.mem_cons_self
  have hwo : wOk P N pos t0 (x.2.1, k) := by
    have := ((hC.2.2.1 _ hmem).1.1 (x.2.1, k) (by simp [rP, z2])).1
    exact this
  have hX3 : z.2.2.2.1 + 4 < 3300 := by omega
  have conts : ∀ (D' : Prop), D' → D' := fun _ h => h
  by_cases hn : P 0 (tyP P t0 x.2.1) ≤ 1
  · obtain ⟨z91, z92⟩ := z9 hn
    have eS : qN P t0 x.1 x.2.1 = (qSr P x.2.1 x.1).length + 1 := by unfold qN; rw [if_pos hn]
    rw [eS] at fA hk0
    rw [if_pos hn] at f5
    have hkk : k0 < 1000 := by omega
    have KM0 := m_T_meaning1 (E := E) (d := d + 32) (G := G) (n := n) (sl := sl) (k := k0) (S := qSr P x.2.1 x.1) f6 f5 fN fA z91 (by omega) (by omega)
    have KM : GM E Y_Tree_meaning (d + 32) [.ref (a + 12), .ref q0, .int (nI k0)] (yW E G a c (uI u q0 11 (nI (k0 + 1))) n sl) (rIs (some (.int (qW P t0 x.1 x.2.1 k0))) (yW E G a c (uI u q0 11 (nI (k0 + 1))) n sl)) := by
      unfold qW
      rw [if_pos hn]
      cases hS : (qSr P x.2.1 x.1)[k0]? with
      | none =>
        rw [hS] at KM0
        exact KM0
      | some v =>
        rw [hS] at KM0
        exact KM0
    refine g_entry (by decide) (by simp [Value.category]) (Nat.le_of_ble_eq_true rfl) ?_
    refine g_aload_n d_Tree_follow_0 rfl ?_
    refine z_get (k := 6) (j := 11) (v := .int (u.2.2.1 q0 11)) kc_Question fl_Tree_69 (by decide) hz6 (by decide) rfl rfl d_Tree_follow_1 ?_
    rw [hfo]
    refine g_istore_n d_Tree_follow_4 (by decide) rfl ?_
    refine g_aload_n d_Tree_follow_5 rfl ?_
    refine g_dup d_Tree_follow_6 rfl ?_
    refine z_get (k := 6) (j := 11) (v := .int (u.2.2.1 q0 11)) kc_Question fl_Tree_69 (by decide) hz6 (by decide) rfl rfl d_Tree_follow_7 ?_
    rw [hfo]
    refine g_iconst (v := 1) d_Tree_follow_10 (by decide) ?_
    refine g_iadd d_Tree_follow_11 ?_
    refine g_top (nI (k0 + 1)) (nI_1 k0) ?_
    refine z_put (k := 6) (j := 11) (x := nI (k0 + 1)) kc_Question fl_Tree_69 (by decide) hz6 (by decide) (fun _ => rfl) rfl rfl rfl (Nat.le_of_ble_eq_true rfl) rfl d_Tree_follow_12 ?_
    refine g_aload_n d_Tree_follow_15 rfl ?_
    refine g_aload_n d_Tree_follow_16 rfl ?_
    refine g_iload_n d_Tree_follow_17 rfl ?_
    refine c_Vr (as := [.ref (q0), .int (nI k0)]) kv_Tree_meaning ml_Tree_111 rfl (x_at (k := 12) (by decide) rfl) (KM) rfl (Nat.le_of_ble_eq_true rfl) rfl d_Tree_follow_18 rfl ?_
    refine g_istore d_Tree_follow_21 (by decide) rfl ?_
    refine g_aload_n d_Tree_follow_23 rfl ?_
    refine x_get (k := 12) (j := 3) (v := .ref (a + 15)) kc_Tree fl_Tree_21 (by decide) (by decide) rfl rfl d_Tree_follow_24 ?_
    refine g_aload_n d_Tree_follow_27 rfl ?_
    refine g_iload d_Tree_follow_28 rfl ?_
    refine g_aload_n d_Tree_follow_30 rfl ?_
    refine g_aload_n d_Tree_follow_31 rfl ?_
    refine g_iload_n d_Tree_follow_32 rfl ?_
    refine c_Vr (as := [.ref (q0), .int (nI k0)]) kv_Tree_arityBehind ml_Tree_115 rfl (x_at (k := 12) (by decide) rfl) (m_T_arityN (d := d + 28) hlo hi f6 f0 f5) rfl (Nat.le_of_ble_eq_true rfl) rfl d_Tree_follow_33 rfl ?_
    refine c_Vx (as := [.ref (q0), .int (qW P t0 x.1 x.2.1 k0), .int (0)]) kv_Places_answer ml_Tree_118 rfl (x_at (k := 15) (by decide) rfl) (m_P_answer1 (d := d + 24) (X := z.2.2.2.1) (ar := 0) (pI := z.2.2.1) (q0 := q0) (wh := qW P t0 x.1 x.2.1 k0) (by have := hT1.1; rw [List.append_nil] at this; exact this) (by omega) hX3 z3 e3 f6 f2 f4 f5 hy) rfl (Nat.le_of_ble_eq_true rfl) rfl d_Tree_follow_36 rfl (fun G_36 h_36 => ?_)
    obtain ⟨c1, u2, n1, sl1, ps1, rfl, hA⟩ := h_36
    exact m_T_fol39 (Dr := Dr) wf wb wk tp hC20 ht0 hNC hg01 hP0 hAr hT1 hx hZ hq hkk (by omega) hC hE1 hy hfl hlg (by rw [uI_j, if_pos rfl]) (Or.inl ⟨hn, rfl, rfl⟩) hA (fun c' u' n' sl' sp' ps' st' w0 w1 w2 w3 => kL c' u' n' sl' sp' ps' st' w0 w1 w2 (fwF_q t1 hq w3)) (fun c' u' n' sl' sp' ps' qs' nk' bs' z' q' A r w ws Dr' w0 w1 w2 w3 w4 w5 w6 w7 w8 w9 wA wB wC wD => kA c' u' n' sl' sp' ps' qs' nk' bs' z' q' A r w ws Dr' w0 w1 w2 w3 w4 w5 (fwF_q t1 hq w6) w7 w8 w9 wA wB wC wD) (fun c' u' n' sl' ks' sp' ps' qs' w0 w1 w2 => kz c' u' n' sl' ks' sp' ps' qs' w0 w1 (gF_tr ⟨fun _ _ => rfl, fun _ _ _ => rfl, rfl, rfl, kFr_mono (kFr_I (n := n) (j := 11) (x := nI (k0 + 1)) hz6.1) (fun k hk => by rw [hk]; decide), Nat.le_refl _⟩ w2))
  · have eS : qN P t0 x.1 x.2.1 = tn (P 0 (tyP P t0 x.2.1)) - 1 := by unfold qN; rw [if_neg hn]
    rw [if_neg hn] at f5
    obtain ⟨TT, hT2, hT9, hTT⟩ : ∃ TT, 2 ≤ TT ∧ TT ≤ 9 ∧ P 0 (tyP P t0 x.2.1) = nI TT := by
      rcases hC.2.2.2.2.2.2.2.1 with e | e
      · exact absurd (by rw [e]; exact Int32.le_refl _) hn
      · exact e
    have hty16 := hC.2.2.2.2.2.2.2.2.1
    rw [eS] at hk0
    obtain ⟨ar, har, hPa⟩ := hAr x.2.1 k0 hn hk0
    rw [hTT, tnI (by omega)] at hk0
    have hkk : k0 < 1000 := by omega
    have eW : nI k0 = qW P t0 x.1 x.2.1 k0 := by unfold qW; rw [if_neg hn]
    have KM := m_T_meaning0 (E := E) (d := d + 32) (G := G) (c := c) (n := n) (sl := sl) (x := nI k0) f6 f5
    rw [eW] at KM
    have KM' : GM E Y_Tree_meaning (d + 32) [.ref (a + 12), .ref q0, .int (nI k0)] (yW E G a c (uI u q0 11 (nI (k0 + 1))) n sl) (rIs (some (.int (qW P t0 x.1 x.2.1 k0))) (yW E G a c (uI u q0 11 (nI (k0 + 1))) n sl)) := by
      rw [eW]
      exact KM
    have hc0 : c.2.1 0 (tyP P t0 x.2.1) = nI (TT - 1) := by
      rw [t3.2.2.1 _ hty16, hTT]
      obtain ⟨m, rfl⟩ : ∃ m, TT = m + 1 := ⟨TT - 1, by omega⟩
      exact nI_s1 (by omega)
    have hP1 : c.2.1 1 (8 * tyP P t0 x.2.1 + k0) = nI ar := by
      rw [t3.2.2.2 _ _ hty16 (by rw [hTT, tnI (by omega)]; omega)]
      exact hPa
    refine g_entry (by decide) (by simp [Value.category]) (Nat.le_of_ble_eq_true rfl) ?_
    refine g_aload_n d_Tree_follow_0 rfl ?_
    refine z_get (k := 6) (j := 11) (v := .int (u.2.2.1 q0 11)) kc_Question fl_Tree_69 (by decide) hz6 (by decide) rfl rfl d_Tree_follow_1 ?_
    rw [hfo]
    refine g_istore_n d_Tree_follow_4 (by decide) rfl ?_
    refine g_aload_n d_Tree_follow_5 rfl ?_
    refine g_dup d_Tree_follow_6 rfl ?_
    refine z_get (k := 6) (j := 11) (v := .int (u.2.2.1 q0 11)) kc_Question fl_Tree_69 (by decide) hz6 (by decide) rfl rfl d_Tree_follow_7 ?_
    rw [hfo]
    refine g_iconst (v := 1) d_Tree_follow_10 (by decide) ?_
    refine g_iadd d_Tree_follow_11 ?_
    refine g_top (nI (k0 + 1)) (nI_1 k0) ?_
    refine z_put (k := 6) (j := 11) (x := nI (k0 + 1)) kc_Question fl_Tree_69 (by decide) hz6 (by decide) (fun _ => rfl) rfl rfl rfl (Nat.le_of_ble_eq_true rfl) rfl d_Tree_follow_12 ?_
    refine g_aload_n d_Tree_follow_15 rfl ?_
    refine g_aload_n d_Tree_follow_16 rfl ?_
    refine g_iload_n d_Tree_follow_17 rfl ?_
    refine c_Vr (as := [.ref (q0), .int (nI k0)]) kv_Tree_meaning ml_Tree_111 rfl (x_at (k := 12) (by decide) rfl) (KM') rfl (Nat.le_of_ble_eq_true rfl) rfl d_Tree_follow_18 rfl ?_
    refine g_istore d_Tree_follow_21 (by decide) rfl ?_
    refine g_aload_n d_Tree_follow_23 rfl ?_
    refine x_get (k := 12) (j := 3) (v := .ref (a + 15)) kc_Tree fl_Tree_21 (by decide) (by decide) rfl rfl d_Tree_follow_24 ?_
    refine g_aload_n d_Tree_follow_27 rfl ?_
    refine g_iload d_Tree_follow_28 rfl ?_
    refine g_aload_n d_Tree_follow_30 rfl ?_
    refine g_aload_n d_Tree_follow_31 rfl ?_
    refine g_iload_n d_Tree_follow_32 rfl ?_
    refine c_Vr (as := [.ref (q0), .int (nI k0)]) kv_Tree_arityBehind ml_Tree_115 rfl (x_at (k := 12) (by decide) rfl) (m_T_arityC (d := d + 28) (k0 := k0) hlo hi hrow g4'.1 f6 f0 f5 y1 (y3.trans hwo.2.2) hty16 hc0 (by omega) (by omega) hP1 (types_ok t3 hP0)) rfl (Nat.le_of_ble_eq_true rfl) rfl d_Tree_follow_33 rfl ?_
    refine c_Vx (as := [.ref (q0), .int (qW P t0 x.1 x.2.1 k0), .int (nI ar)]) kv_Places_answer ml_Tree_118 rfl (x_at (k := 15) (by decide) rfl) (m_P_answer0 (d := d + 24) (X := z.2.2.2.1) (ar := ar) (pI := z.2.2.1) (q0 := q0) (wh := qW P t0 x.1 x.2.1 k0) (by have := hT1.1; rw [List.append_nil] at this; exact this) har hX3 z3 e3 f6 f2 f4 f5 hy) rfl (Nat.le_of_ble_eq_true rfl) rfl d_Tree_follow_36 rfl (fun G_36 h_36 => ?_)
    obtain ⟨c1, u2, n1, sl1, ps1, rfl, hA⟩ := h_36
    exact m_T_fol39 (Dr := Dr) wf wb wk tp hC20 ht0 hNC hg01 hP0 hAr hT1 hx hZ hq hkk har hC hE1 hy hfl hlg (by rw [uI_j, if_pos rfl]) (Or.inr ⟨hn, hPa, rfl, by omega⟩) hA (fun c' u' n' sl' sp' ps' st' w0 w1 w2 w3 => kL c' u' n' sl' sp' ps' st' w0 w1 w2 (fwF_q t1 hq w3)) (fun c' u' n' sl' sp' ps' qs' nk' bs' z' q' A r w ws Dr' w0 w1 w2 w3 w4 w5 w6 w7 w8 w9 wA wB wC wD => kA c' u' n' sl' sp' ps' qs' nk' bs' z' q' A r w ws Dr' w0 w1 w2 w3 w4 w5 (fwF_q t1 hq w6) w7 w8 w9 wA wB wC wD) (fun c' u' n' sl' ks' sp' ps' qs' w0 w1 w2 => kz c' u' n' sl' ks' sp' ps' qs' w0 w1 (gF_tr ⟨fun _ _ => rfl, fun _ _ _ => rfl, rfl, rfl, kFr_mono (kFr_I (n := n) (j := 11) (x := nI (k0 + 1)) hz6.1) (fun k hk => by rw [hk]; decide), Nat.le_refl _⟩ w2))
end CP
