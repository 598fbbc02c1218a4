/-! any, number -/
section NW
variable {E : gE} {a k n n' sl sl' D N t0 t1 : Nat} {G G' : gS} {c c' : cS} {u u' : uS} {s s' s1 : mS} {fo : Nat → Int64} {P P' : Nat → Nat → Int32} {rt : Nat → Nat} {rl : Nat → List Nat} {T V : Nat → Prop} {tm : Nat → Nat} {ob : Nat → Int32} {pp vv cc l0 ns : List Nat} {kd ty wh whC sz nm : Int32} {YM : gY} {aM : List Value}
theorem rI_RI (h1 : a = E.1.heap.size) (h2 : ∀ q, q < a + 66 → u.1 q = 0) (h3 : a + 66 ≤ n) (h : rI E a k P N t0 rt rl T V tm ob pp vv cc c u n sl s) : RI E a k c u n sl s := ⟨h1, h2, h3, _, _, _, _, _, _, _, _, _, _, _, _, h⟩
theorem push_p {l : Nat} {x : Int32} (h14 : s1.1 14 = nI l) (hl : l < 1000) (hx : x = nI N) : rPush s1 x 0 = wF (wA (wF s1 4 1) 9 l (nI N)) 14 (nI (l + 1)) := by
  unfold rPush
  rw [if_pos rfl, hx, h14, tnI (by omega), nI_ad (by omega)]
theorem push_v {l : Nat} {x : Int32} (h15 : s1.1 15 = nI l) (hl : l < 1000) (hx : x = nI N) : rPush s1 x 1 = wF (wA (wF s1 4 1) 10 l (nI N)) 15 (nI (l + 1)) := by
  unfold rPush
  rw [if_neg (by decide), hx, h15, tnI (by omega), nI_ad (by omega)]
theorem n_ss {x : Int32} (h : x = nI N) (hN : N < 1000) : x + 1 - 1 = nI N := by
  rw [h, nI_ad (by omega)]
  exact nI_s1 (by omega)
theorem nod_leaf {rt' : Nat → Nat} {rl' : Nat → List Nat} {t : Nat} (ht : t < 16) (e3 : P' 3 N = kd) (hkd : kd = 0 ∨ (kd = 1 ∧ P' 0 t = 1)) (e4 : P' 4 N = nI t) (e7 : P' 7 N = 1) (e8 : P' 8 N = 0) : ndO P' rt' rl' N := by
  have z1 : kd = 0 ∨ kd = 1 := hkd.elim Or.inl (fun z => Or.inr z.1)
  have zn : ∀ m : Int32, ¬ m = 0 → ¬ m = 1 → P' 3 N = m → False := fun m h0 h1 h => by
    rw [e3] at h
    rcases z1 with z | z
    · exact h0 (h.symm.trans z)
    · exact h1 (h.symm.trans z)
  refine ⟨⟨t, ht, e4⟩, ⟨1, by omega, by omega, e7⟩, ⟨0, by omega, e8⟩, ?_, fun z => ?_, fun z => (zn 4 (by decide) (by decide) z).elim, fun z => (zn 3 (by decide) (by decide) z).elim, fun z => (zn 2 (by decide) (by decide) z).elim⟩
  · rw [e3]
    rcases z1 with z | z
    · exact Or.inl z
    · exact Or.inr (Or.inl z)
  · rw [e3] at z
    rcases hkd with y | y
    · rw [y] at z
      exact absurd z (by decide)
    · rw [e4, tnI (by omega)]
      exact ⟨y.2, e7⟩
/-- terms are made, and then the call is refused -/
theorem refuU {C K : String} {n1 sl1 : Nat} (hl : lI E a G c u n sl s fo) (h : RI E a k c u n sl s) (hk : k < 512) (hf : kFr (fun _ => False) u u' n) (ho : uOk u' a n1) (hn : n ≤ n1) (hn1 : n1 ≤ n + 2) (hsl : sl1 ≤ sl + 30) (hq : tIs C (yW E G a c u' n1 sl1) (.inr K) G') {kk v : Int32} (R : GM E YM D aM (mW E G' (a + 24) (a + 25) s) (rIs (some (.int v)) (mW E G' (a + 24) (a + 25) (wF s 0 kk)))) (hz : ¬ kk = 0) : K = C ∧ Ev E a D YM aM (LI E a (k + 1)) kk G' := by
  have hu : ∀ q, q < a + 66 → u'.1 q = 0 := fun q hq => (hf.1 q (by have := h.2.2.1; omega)).trans (h.2.1 q hq)
  obtain ⟨e, l1, m1, m2, m3⟩ := thr (lI_cl (c' := c) (sl' := sl1) hl hu (by have := h.2.2.1; omega)) hq
  refine ⟨e, ev_r l1 R rfl (fun z => absurd z hz) ?_⟩
  exact RI_q h hk hf (fun q hq => ⟨(ho q hq).1, by have := (ho q hq).2; omega⟩) hu (by omega) (by omega) (by omega) (fun j hj _ => if_neg hj) (fun _ _ _ => rfl)
theorem k_any (hl : lI E a G c u n sl s fo) (h : RI E a k c u n sl s) (hk : k < 512) : s_any E (D + 41) a (a + 24) (a + 65) G (LI E a (k + 1)) := by
  intro p0
  obtain ⟨fs, ha⟩ := lI_a hl
  have hF := (RI_f6 hl h).2
  obtain ⟨-, f2, f3, hu⟩ := RI_fit (G := G) h
  obtain ⟨r1, r2, r3, P, N, t0, rt, rl, T, V, tm, ob, pp, vv, cc, hr⟩ := id h
  have hp9 := rI_p9 hr
  have hr0 := hr
  obtain ⟨hP, ty, ⟨h5, hNk, -⟩, tr, hpi, -⟩ := hr
  have hpT := pil_T hpi tr
  obtain ⟨x1, x2, x3, x4, -⟩ := hpi
  have hb : pp.length ≤ 40 := by have := x1.2.1; rw [List.length_map] at this; exact this
  have R := fun G' => m_W_any (E := E) (d := D + 40) (G := G') (m := a + 24) (n := a + 25) (s := s) (by omega) (by rw [h5]; exact nlt_hi (nI_hi (by omega))) (by rw [h5, tnI (by omega)]; omega) hp9.1.1 hp9.1.2.1 p0
  by_cases q0 : tTold (c.2.1 0) p0
  · have qT := (told_iff ty hP).mp q0
    by_cases q1 : pp.length = 40
    · have K := m_Y_anyF (E := E) (d := D) (G := G) (n := n) (sl := sl) hu (by omega) (by omega) (by omega) x1 hpT.1 (by rw [List.length_map]; exact q1) q0
      rw [hl.1] at K
      refine w_any p0 (R := Ev E a (D + 41) Y_Model_any [.ref (a + 24), .int p0] (LI E a (k + 1))) ha K (fun v G' hq => (tIs_l hq).elim) (fun C G' hq => Or.inr ?_)
      have R := R G'
      rw [rAny, if_neg (fun z => z qT), if_pos (by rw [x3, q1]; rfl)] at R
      exact refuU hl h hk uTm_fr (uTm_ok hu (by omega)) (by omega) (by omega) (by omega) hq R (by decide)
    · have K := m_Y_any (E := E) (d := D) (G := G) (n := n) (sl := sl) hu (by omega) (by omega) (by omega) x1 hpT.1 (by rw [List.length_map]; omega) q0
      rw [hl.1, List.length_map] at K
      refine w_any p0 (R := Ev E a (D + 41) Y_Model_any [.ref (a + 24), .int p0] (LI E a (k + 1))) ha K (fun v G' hq => ?_) (fun C G' hq => by cases hq.1)
      obtain ⟨e3, c', rfl, hpt⟩ := hq
      cases e3
      have hu' : ∀ q, q < a + 66 → (uTm u n p0 2 0 1 0 []).1 q = 0 := fun q hq => (uTm_o (Or.inl (by omega))).1.trans (r2 q hq)
      have l1 := lI_cl (c' := c') (u' := uTm u n p0 2 0 1 0 []) (n' := n + 2) (sl' := sl + 7) hl hu' (by omega)
      refine ⟨_, fo, rfl, l1.2.2.1, ?_⟩
      have R := R (gUp (yW E G a c' (uTm u n p0 2 0 1 0 []) (n + 2) (sl + 7)) (a + 65) (gAJ E 1 (vp_updL fo 0 (nI (pp.length + 1)).toInt64)))
      have n40 : ¬ s.1 14 = 40 := fun z => q1 (by
        rw [x3] at z
        exact nI_inj (b' := 40) (by omega) (by omega) z)
      have hw := nw_node (s := s) (kd := 0) (ty := p0) (wh := 0) (sz := 1) (nm := 0) h5 (by omega)
      have h14 : (rNode (wF s 0 0) 0 p0 0 1 0).1 14 = nI pp.length := x3
      have h15 : (rNode (wF s 0 0) 0 p0 0 1 0).1 15 = s.1 15 := rfl
      rw [rAny, if_neg (fun z => z qT), if_neg n40, push_p (N := N) h14 (by omega) (n_ss h5 (by omega))] at R
      have eh : rHt (rNode (wF s 0 0) 0 p0 0 1 0) 0 + 1 = nI (pp.length + 1) := by
        show (rNode (wF s 0 0) 0 p0 0 1 0).1 14 + 1 = _
        rw [h14]
        exact nI_ad (by omega)
      rw [eh] at R
      have hr1 : rI E a k P N t0 rt rl T V tm ob (pp ++ []) vv cc c u n sl s := by rw [List.append_nil]; exact hr0
      have X16 := tn_lt qT.1 qT.2.1 (show (16 : Int32).toInt = ((16 : Nat) : Int) by decide)
      have hI := rI_nwP (x4 := 0) (e := fun _ => []) hr1 hk (by omega) hw h14 h15 hpt rfl (nod_leaf (t := tn p0) X16 hw.2.2.2.2.2.1 (Or.inl rfl) (hw.2.2.2.2.2.2.1.trans (tn_nI qT.1)) hw.2.2.2.2.2.2.2.2.1 hw.2.2.2.2.2.2.2.2.2.1) (by decide) (fun _ => rfl) (by decide) (fun z => absurd z (by decide)) (fun z => absurd z (by decide)) (fun z => rfl) (by omega)
      exact ev_r (lI_out l1) R rfl (fun _ => up_0) (rI_RI r1 hu' (by omega) hI)
  · have K := m_X_any_no (E := E) (d := D + 30) (G := zW E G u n sl) (a := a) (c := c) hF p0 q0
    replace K : GM E Y_Mill_any (D + 40) [.ref a, .int p0] (yW E G a c u n sl) (tIs "java/lang/IllegalArgumentException" (yW E G a c u n sl)) := K
    rw [hl.1] at K
    refine w_any p0 (R := Ev E a (D + 41) Y_Model_any [.ref (a + 24), .int p0] (LI E a (k + 1))) ha K (fun v G' hq => (tIs_l hq).elim) (fun C G' hq => Or.inl ?_)
    have R := R G'
    rw [rAny, if_pos (fun z => q0 ((told_iff ty hP).mpr z))] at R
    exact refu hl h hk hq R (by decide)
theorem num_iff (ty : tyR P c) (hs : sPA s P) {x : Int32} : ((¬ x < 0 ∧ ¬ 16 ≤ x) ∧ c.2.1 0 (tn x) = 0) ↔ ¬ (¬ rIsT s x ∨ ¬ s.2 0 (tn x) = 1) := by
  constructor
  · rintro ⟨⟨h1, h2⟩, h3⟩ z
    obtain ⟨v, hv, e, hc⟩ := ty_at ty (tn_lt h1 h2 (show (16 : Int32).toInt = ((16 : Nat) : Int) by decide))
    rcases hc with hc | hc
    · rw [hc.2] at h3
      exact absurd h3 (by decide)
    · rw [hc.2] at h3
      have hv1 : v = 1 := by
        have := nI_inj (b := v - 1) (b' := 0) (by omega) (by omega) h3
        omega
      subst hv1
      rw [hs 0 (by omega)] at z
      rcases z with z | z
      · refine z ⟨h1, h2, ?_⟩
        rw [hs 0 (by omega), e]
        decide
      · exact z e
  · intro z
    have z1 : rIsT s x := Classical.byContradiction (fun y => z (Or.inl y))
    have z2 : s.2 0 (tn x) = 1 := Classical.byContradiction (fun y => z (Or.inr y))
    refine ⟨⟨z1.1, z1.2.1⟩, ?_⟩
    rw [ty.2.1 _ (tn_lt z1.1 z1.2.1 (show (16 : Int32).toInt = ((16 : Nat) : Int) by decide)), ← hs 0 (by omega), z2]
    decide
theorem k_number (hl : lI E a G c u n sl s fo) (h : RI E a k c u n sl s) (hk : k < 512) : s_number E (D + 41) a (a + 24) (a + 65) G (LI E a (k + 1)) := by
  intro p0 p1 p2 hp2
  obtain ⟨fs, ha⟩ := lI_a hl
  have hF := (RI_f6 hl h).2
  obtain ⟨-, f2, f3, hu⟩ := RI_fit (G := G) h
  obtain ⟨r1, r2, r3, P, N, t0, rt, rl, T, V, tm, ob, pp, vv, cc, hr⟩ := id h
  have hp9 := rI_p9 hr
  have hr0 := hr
  obtain ⟨hP, ty, ⟨h5, hNk, -⟩, tr, hpi, -⟩ := hr
  have hpT := pil_T hpi tr
  obtain ⟨x1, x2, x3, x4, -⟩ := hpi
  have hb : pp.length ≤ 40 := by have := x1.2.1; rw [List.length_map] at this; exact this
  have hb2 : vv.length ≤ 40 := by have := x2.2.1; rw [List.length_map] at this; exact this
  have b5 : ¬ s.1 5 < 0 ∧ tn (s.1 5) < 700 := by
    rw [h5, tnI (by omega)]
    exact ⟨nlt_hi (nI_hi (by omega)), by omega⟩
  by_cases q0 : (¬ p0 < 0 ∧ ¬ 16 ≤ p0) ∧ c.2.1 0 (tn p0) = 0
  · have qT := (num_iff ty hP).mp q0
    have X16 := tn_lt q0.1.1 q0.1.2 (show (16 : Int32).toInt = ((16 : Nat) : Int) by decide)
    have P01 : P 0 (tn p0) = 1 := by
      rw [← hP 0 (by omega)]
      exact Classical.byContradiction (fun y => qT (Or.inr y))
    have hw := nw_node (s := s) (kd := 1) (ty := p0) (wh := p1) (sz := 1) (nm := 0) h5 (by omega)
    have hu' : ∀ q, q < a + 66 → (uTm u n p0 0 p1 1 0 []).1 q = 0 := fun q hq => (uTm_o (Or.inl (by omega))).1.trans (r2 q hq)
    rcases hp2 with rfl | rfl
    · have R := fun G' => m_W_number (E := E) (d := D + 40) (G := G') (m := a + 24) (n := a + 25) (s := s) (v := 0) (by omega) b5.1 b5.2 hp9.1.1 hp9.1.2.1 p0 p1
      by_cases q1 : pp.length = 40
      · have K := m_Y_numberF_8 (E := E) (d := D) (G := G) (n := n) (sl := sl) (y := p1) hu (by omega) (by omega) (by omega) x1 hpT.1 (by rw [List.length_map]; exact q1) q0
        rw [hl.1] at K
        refine w_number p0 p1 0 (R := Ev E a (D + 41) Y_Model_number [.ref (a + 24), .int p0, .int p1, .int 0] (LI E a (k + 1))) ha K (fun v G' hq => (tIs_l hq).elim) (fun C G' hq => Or.inr ?_)
        have R := R G'
        rw [rNumber, if_neg qT, if_pos (show rHt s 0 = 40 from (by rw [show rHt s 0 = s.1 14 from rfl, x3, q1]; rfl))] at R
        exact refuU hl h hk uTm_fr (uTm_ok hu (by omega)) (by omega) (by omega) (by omega) hq R (by decide)
      · have K := m_Y_number_8 (E := E) (d := D) (G := G) (n := n) (sl := sl) (y := p1) hu (by omega) (by omega) (by omega) x1 hpT.1 (by rw [List.length_map]; omega) q0
        rw [hl.1, List.length_map] at K
        refine w_number p0 p1 0 (R := Ev E a (D + 41) Y_Model_number [.ref (a + 24), .int p0, .int p1, .int 0] (LI E a (k + 1))) ha K (fun v G' hq => ?_) (fun C G' hq => by cases hq.1)
        obtain ⟨e3, c', rfl, hpt⟩ := hq
        cases e3
        have l1 := lI_cl (c' := c') (u' := uTm u n p0 0 p1 1 0 []) (n' := n + 2) (sl' := sl + 7) hl hu' (by omega)
        refine ⟨_, fo, rfl, l1.2.2.1, ?_⟩
        have R := R (gUp (yW E G a c' (uTm u n p0 0 p1 1 0 []) (n + 2) (sl + 7)) (a + 65) (gAJ E 1 (vp_updL fo 0 (nI (pp.length + 1)).toInt64)))
        have n40 : ¬ rHt s 0 = 40 := fun z => q1 (by
          rw [show rHt s 0 = s.1 14 from rfl, x3] at z
          exact nI_inj (b' := 40) (by omega) (by omega) z)
        have h14 : (rNode (wF s 0 0) 1 p0 p1 1 0).1 14 = nI pp.length := x3
        have h15 : (rNode (wF s 0 0) 1 p0 p1 1 0).1 15 = s.1 15 := rfl
        rw [rNumber, if_neg qT, if_neg n40, push_p (N := N) h14 (by omega) (n_ss h5 (by omega))] at R
        have eh : rHt (rNode (wF s 0 0) 1 p0 p1 1 0) 0 + 1 = nI (pp.length + 1) := by
          show (rNode (wF s 0 0) 1 p0 p1 1 0).1 14 + 1 = _
          rw [h14]
          exact nI_ad (by omega)
        rw [eh] at R
        have hr1 : rI E a k P N t0 rt rl T V tm ob (pp ++ []) vv cc c u n sl s := by rw [List.append_nil]; exact hr0
        have hI := rI_nwP (x4 := 0) (e := fun _ => []) hr1 hk (by omega) hw h14 h15 hpt rfl (nod_leaf (t := tn p0) X16 hw.2.2.2.2.2.1 (Or.inr ⟨rfl, (congrFun (hP 0 (by omega)) _).trans P01⟩) (hw.2.2.2.2.2.2.1.trans (tn_nI q0.1.1)) hw.2.2.2.2.2.2.2.2.1 hw.2.2.2.2.2.2.2.2.2.1) (by decide) (fun _ => rfl) (by decide) (fun z => absurd z (by decide)) (fun z => absurd z (by decide)) (fun z => rfl) (by omega)
        exact ev_r (lI_out l1) R rfl (fun _ => up_0) (rI_RI r1 hu' (by omega) hI)
    · have R := fun G' => m_W_number (E := E) (d := D + 40) (G := G') (m := a + 24) (n := a + 25) (s := s) (v := 1) (by omega) b5.1 b5.2 hp9.2.1 hp9.2.2.1 p0 p1
      by_cases q1 : vv.length = 40
      · have K := m_Y_numberF_10 (E := E) (d := D) (G := G) (n := n) (sl := sl) (y := p1) hu (by omega) (by omega) (by omega) x2 hpT.2 (by rw [List.length_map]; exact q1) q0
        rw [hl.1] at K
        refine w_number p0 p1 1 (R := Ev E a (D + 41) Y_Model_number [.ref (a + 24), .int p0, .int p1, .int 1] (LI E a (k + 1))) ha K (fun v G' hq => (tIs_l hq).elim) (fun C G' hq => Or.inr ?_)
        have R := R G'
        rw [rNumber, if_neg qT, if_pos (show rHt s 1 = 40 from (by rw [show rHt s 1 = s.1 15 from rfl, x4, q1]; rfl))] at R
        exact refuU hl h hk uTm_fr (uTm_ok hu (by omega)) (by omega) (by omega) (by omega) hq R (by decide)
      · have K := m_Y_number_10 (E := E) (d := D) (G := G) (n := n) (sl := sl) (y := p1) hu (by omega) (by omega) (by omega) x2 hpT.2 (by rw [List.length_map]; omega) q0
        rw [hl.1, List.length_map] at K
        refine w_number p0 p1 1 (R := Ev E a (D + 41) Y_Model_number [.ref (a + 24), .int p0, .int p1, .int 1] (LI E a (k + 1))) ha K (fun v G' hq => ?_) (fun C G' hq => by cases hq.1)
        obtain ⟨e3, c', rfl, hpt⟩ := hq
        cases e3
        have l1 := lI_cl (c' := c') (u' := uTm u n p0 0 p1 1 0 []) (n' := n + 2) (sl' := sl + 7) hl hu' (by omega)
        refine ⟨_, fo, rfl, l1.2.2.1, ?_⟩
        have R := R (gUp (yW E G a c' (uTm u n p0 0 p1 1 0 []) (n + 2) (sl + 7)) (a + 65) (gAJ E 1 (vp_updL fo 0 (nI (vv.length + 1)).toInt64)))
        have n40 : ¬ rHt s 1 = 40 := fun z => q1 (by
          rw [show rHt s 1 = s.1 15 from rfl, x4] at z
          exact nI_inj (b' := 40) (by omega) (by omega) z)
        have h14 : (rNode (wF s 0 0) 1 p0 p1 1 0).1 14 = s.1 14 := rfl
        have h15 : (rNode (wF s 0 0) 1 p0 p1 1 0).1 15 = nI vv.length := x4
        rw [rNumber, if_neg qT, if_neg n40, push_v (N := N) h15 (by omega) (n_ss h5 (by omega))] at R
        have eh : rHt (rNode (wF s 0 0) 1 p0 p1 1 0) 1 + 1 = nI (vv.length + 1) := by
          show (rNode (wF s 0 0) 1 p0 p1 1 0).1 15 + 1 = _
          rw [h15]
          exact nI_ad (by omega)
        rw [eh] at R
        have hr1 : rI E a k P N t0 rt rl T V tm ob pp (vv ++ []) cc c u n sl s := by rw [List.append_nil]; exact hr0
        have hI := rI_nwV (x4 := 0) (e := fun _ => []) hr1 hk (by omega) hw h14 h15 hpt rfl (nod_leaf (t := tn p0) X16 hw.2.2.2.2.2.1 (Or.inr ⟨rfl, (congrFun (hP 0 (by omega)) _).trans P01⟩) (hw.2.2.2.2.2.2.1.trans (tn_nI q0.1.1)) hw.2.2.2.2.2.2.2.2.1 hw.2.2.2.2.2.2.2.2.2.1) (Or.inl rfl) (fun z => absurd z (by decide)) (fun z => rfl) (by omega)
        exact ev_r (lI_out l1) R rfl (fun _ => up_0) (rI_RI r1 hu' (by omega) hI)
  · have K := m_X_number_no (E := E) (d := D + 30) (G := zW E G u n sl) (a := a) (c := c) hF p0 p1 p2 q0
    replace K : GM E Y_Mill_number (D + 40) [.ref a, .int p0, .int p1, .int p2] (yW E G a c u n sl) (tIs "java/lang/IllegalArgumentException" (yW E G a c u n sl)) := K
    rw [hl.1] at K
    refine w_number p0 p1 p2 (R := Ev E a (D + 41) Y_Model_number [.ref (a + 24), .int p0, .int p1, .int p2] (LI E a (k + 1))) ha K (fun v G' hq => (tIs_l hq).elim) (fun C G' hq => Or.inl ?_)
    have hh : ¬ rHt s p2 < 0 ∧ rHt s p2 ≤ 40 := by
      rcases hp2 with rfl | rfl
      · exact ⟨hp9.1.1, hp9.1.2.1⟩
      · exact ⟨hp9.2.1, hp9.2.2.1⟩
    have R := m_W_number (E := E) (d := D + 40) (G := G') (m := a + 24) (n := a + 25) (s := s) (v := p2) (by omega) b5.1 b5.2 hh.1 hh.2 p0 p1
    rw [rNumber, if_pos (Classical.byContradiction (fun z => q0 ((num_iff ty hP).mpr z)))] at R
    exact refu hl h hk hq R (by decide)
end NW
