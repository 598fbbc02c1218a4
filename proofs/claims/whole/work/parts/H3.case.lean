/-! addCase -/
section NU
variable {E : gE} {a k n n' sl sl' D N t0 t1 : Nat} {G G' : gS} {c c' : cS} {u u' : uS} {s s' : mS} {fo : Nat → Int64} {P P' : Nat → Nat → Int32} {rt : Nat → Nat} {rl : Nat → List Nat} {T V : Nat → Prop} {tm : Nat → Nat} {ob : Nat → Int32} {pp vv cc l0 : List Nat} {k0 : Nat}
theorem reR_rf : reR N rt rl rt rl := fun _ _ _ _ h => ⟨h, fun _ z => z⟩
theorem tmR_ag (h : tmR P N T V tm ob a n u) (wf : wfN P N) (ty : tyO P) (g : agP P P' N) : tmR P' N T V tm ob a n u := by
  obtain ⟨tp, tw, tx, ti, tb, hv, hvT⟩ := h
  have hTN : ∀ k, T k → k < N := fun k hk => (tp k hk).1
  refine ⟨tmP_cg wf g (Nat.le_refl _) tp (fun _ q => q) (fun k hk => ⟨(tp k hk).2.2.2.2.1, (tp k hk).2.2.2.2.2⟩) (fun _ _ => rfl) (fun _ _ => ⟨rfl, rfl⟩) ty, tmW_cg wf g tp tw (fun _ q => q) (fun _ _ => rfl) (fun _ _ => rfl) (fun k hk => ⟨rfl, rfl, rfl, rfl, fun _ _ _ => rfl⟩) ty, fun k hk => ?_, ti, fun k k' hk hk' => ?_, fun v hv' => ?_, hvT⟩
  · rw [(g.2.2.2.1 k (hTN k hk)).2.2.2.1, (g.2.2.2.1 k (hTN k hk)).2.2.2.2]
    exact tx k hk
  · rw [bse_ag wf g 512 k (hTN k hk), bse_ag wf g 512 k' (hTN k' hk')]
    exact tb k k' hk hk'
  · obtain ⟨y1, y2, y3⟩ := hv v hv'
    have ar4 := aAr_4 ty (k := v)
    rw [(g.2.2.2.1 v y1).1, aAr_ag g y1]
    refine ⟨y1, y2, fun z i hi => ?_⟩
    rw [g.2.2.2.2 _ (by omega)]
    exact y3 z i hi
/-- a pattern becomes a case -/
theorem rI_case (h : rI E a k P N t0 rt rl T V tm ob (l0 ++ [k0]) vv cc c u n sl s) (hk : k < 512) {g : Int32} (hg : g = 0 ∨ g = 1) (hC : cc.length < 20) (ht1 : t1 < 16) (e4 : P 4 k0 = nI t1) (hcc : ∀ y ∈ cc, P 4 y = nI t1) :
    ∃ P', rI E a (k + 1) P' N t1 rt rl T V tm ob l0 vv (cc ++ [k0]) (cF (cA (cT (cF (cF (cF c 4 (nI l0.length)) 1 0) 2 0) 0 cc.length (some (tm k0))) 3 cc.length g) 3 (nI (cc.length + 1))) u n sl (wF (wF (wA (wA (wF (wF s 0 0) 14 (nI l0.length)) 11 cc.length (nI k0)) 12 cc.length g) 16 (nI (cc.length + 1))) 19 0) := by
  have W := rI_wf h
  obtain ⟨a1, a2, ⟨a3, a4, a5, a6, a7, a8, a9⟩, a10, ⟨x1, x2, x3, x4, x5, x6, x7, x8, x9, x10, x11, x12, x13, x14⟩, ⟨l, y1, y2, y3, y4, y5⟩, ks, sp, ps, qs, ms, hp, -⟩ := h
  generalize hs' : (wF (wF (wA (wA (wF (wF s 0 0) 14 (nI l0.length)) 11 cc.length (nI k0)) 12 cc.length g) 16 (nI (cc.length + 1))) 19 0) = s'
  have f1 : ∀ j, j ≠ 0 → j ≠ 14 → j ≠ 16 → j ≠ 19 → s'.1 j = s.1 j := fun j h0 h1 h2 h3 => by
    rw [← hs']
    exact (if_neg h3).trans ((if_neg h2).trans ((if_neg h1).trans (if_neg h0)))
  have f14 : s'.1 14 = nI l0.length := by rw [← hs']; rfl
  have f16 : s'.1 16 = nI (cc.length + 1) := by rw [← hs']; rfl
  have f19 : s'.1 19 = 0 := by rw [← hs']; rfl
  have f2 : ∀ j, j ≠ 11 → j ≠ 12 → s'.2 j = s.2 j := fun j h1 h2 => by
    rw [← hs']
    exact (if_neg h2).trans (if_neg h1)
  have f11 : ∀ i, s'.2 11 i = if i = cc.length then nI k0 else P 11 i := fun i => by
    rw [← hs', ← a1 11 (by omega)]
    rfl
  have f12 : ∀ i, s'.2 12 i = if i = cc.length then g else P 12 i := fun i => by
    rw [← hs', ← a1 12 (by omega)]
    rfl
  have fP : ∀ j, j < 11 → s'.2 j = P j := fun j hj => (f2 j (by omega) (by omega)).trans (a1 j (by omega))
  have ag : agP P s'.2 N := ⟨fP 0 (by omega), fP 1 (by omega), fP 2 (by omega), fun k _ => ⟨by rw [fP 3 (by omega)], by rw [fP 4 (by omega)], by rw [fP 5 (by omega)], by rw [fP 7 (by omega)], by rw [fP 8 (by omega)]⟩, fun i _ => by rw [fP 6 (by omega)]⟩
  have hx0 := x7 k0 (by simp)
  have hb : (l0 ++ [k0]).length ≤ 40 := by
    have := x1.2.1
    rw [List.length_map] at this
    exact this
  rw [List.length_append, List.length_singleton] at hb
  refine ⟨s'.2, fun _ _ => rfl, ?_, ⟨by rw [f1 5 (by omega) (by omega) (by omega) (by omega)]; exact a3, by rw [List.length_append, List.length_singleton]; omega, by omega, by rw [f1 4 (by omega) (by omega) (by omega) (by omega)]; exact a6, by rw [f1 4 (by omega) (by omega) (by omega) (by omega)]; exact a7, fun j hj => ndO_ag ag W.2.2.2.2.2.1 a2.1 reR_rf hj (a8 j hj), a9⟩, tmR_ag a10 W.1.1 a2.1 ag, ?_, ?_, ks, sp, ps, qs, ms, hp_on hk hp (Nat.le_refl _) (by omega) (by omega) (fun j hj => ?_) rfl, Or.inl ⟨rfl, f19, fun z => absurd rfl z⟩⟩
  · obtain ⟨t1, t2, t3⟩ := a2
    refine ⟨⟨by rw [fP 0 (by omega)]; exact t1.1, by rw [fP 1 (by omega)]; exact t1.2.1, by rw [fP 2 (by omega)]; exact t1.2.2⟩, ?_, ?_⟩
    · rw [fP 0 (by omega)]
      exact t2
    · rw [fP 0 (by omega), fP 1 (by omega), fP 2 (by omega)]
      exact t3
  · rw [List.map_append] at x1
    have p1 := pil_cF x1
    rw [List.length_map] at p1
    have hnd : (l0 ++ (vv ++ (cc ++ [k0]))).Nodup := by
      have e : (l0 ++ (vv ++ (cc ++ [k0]))).Perm ((l0 ++ [k0]) ++ (vv ++ cc)) := by
        rw [List.append_assoc]
        refine List.Perm.append_left l0 ?_
        rw [← List.append_assoc]
        exact List.perm_append_comm
      exact e.nodup_iff.mpr x9
    refine ⟨p1, x2, f14, by rw [f1 15 (by omega) (by omega) (by omega) (by omega)]; exact x4, fun i x hi => ?_, by rw [fP 10 (by omega)]; exact x6, fun x hx => ?_, x8, hnd, by rw [f16, List.length_append]; rfl, by rw [List.length_append]; rfl, by rw [List.length_append, List.length_singleton]; omega, ht1, fun i x hi => ?_⟩
    · rw [fP 9 (by omega)]
      refine x5 i x ?_
      rw [List.getElem?_append_left (List.getElem?_eq_some_iff.mp hi).1]
      exact hi
    · rw [fP 7 (by omega)]
      exact x7 x (List.mem_append_left _ hx)
    · rw [f11, f12, fP 7 (by omega), fP 4 (by omega)]
      have w0 : (cF (cA (cT (cF (cF (cF c 4 (nI l0.length)) 1 0) 2 0) 0 cc.length (some (tm k0))) 3 cc.length g) 3 (nI (cc.length + 1))).2.2.1 0 i = if i = cc.length then some (tm k0) else c.2.2.1 0 i := rfl
      have w3 : (cF (cA (cT (cF (cF (cF c 4 (nI l0.length)) 1 0) 2 0) 0 cc.length (some (tm k0))) 3 cc.length g) 3 (nI (cc.length + 1))).2.1 3 i = if i = cc.length then g else c.2.1 3 i := rfl
      rw [w0, w3]
      by_cases ei : i = cc.length
      · subst ei
        rw [get_last] at hi
        cases hi
        rw [if_pos rfl, if_pos rfl, if_pos rfl, if_pos rfl]
        exact ⟨rfl, rfl, rfl, hg, hx0.1, hx0.2.2.1, hx0.2.2.2.1, hx0.2.2.2.2, e4⟩
      · have hi' : cc[i]? = some x := by
          have hlt := (List.getElem?_eq_some_iff.mp hi).1
          rw [List.length_append, List.length_singleton] at hlt
          rw [List.getElem?_append_left (by omega)] at hi
          exact hi
        rw [if_neg ei, if_neg ei, if_neg ei, if_neg ei]
        obtain ⟨z1, z2, z3, z4, z5, z6, z7, z8, -⟩ := x14 i x hi'
        exact ⟨z1, z2, z3, z4, z5, z6, z7, z8, hcc x (List.mem_of_getElem? hi')⟩
  · refine ⟨l, y1, y2, by rw [f1 54 (by omega) (by omega) (by omega) (by omega)]; exact y3, ?_, ?_⟩
    · rw [f2 37 (by omega) (by omega)]
      exact y4
    · rw [f2 38 (by omega) (by omega)]
      exact y5
  · rcases hj with rfl | rfl | rfl | rfl | rfl <;> rfl
theorem k_addCase (hl : lI E a G c u n sl s fo) (h : RI E a k c u n sl s) (hk : k < 512) : s_addCase E (D + 41) a (a + 24) (a + 65) G (LI E a (k + 1)) := by
  intro p0 hp0
  obtain ⟨fs, ha⟩ := lI_a hl
  have hF := (RI_f6 hl h).2
  obtain ⟨r1, r2, r3, P, N, t0, rt, rl, T, V, tm, ob, pp, vv, cc, hr⟩ := id h
  have hp9 := rI_p9 hr
  have hr0 := hr
  have hN5 := W_N hr
  obtain ⟨hP, ty, ⟨-, hNk, -, -, -, hnd, -⟩, tr, hpi, -⟩ := hr
  have hpT := pil_T hpi tr
  obtain ⟨x1, x2, x3, x4, x5, x6, x7, x8, x9, x10, x11, x12, x13, x14⟩ := hpi
  have c0at : ∀ y r, cc = y :: r → P 11 0 = nI y ∧ c.2.2.1 0 0 = some (tm y) ∧ T y ∧ P 4 y = nI t0 := fun y r e => by
    obtain ⟨z1, z2, z3, z4, z5, z6, z7, z8, z9⟩ := x14 0 y (by rw [e]; rfl)
    exact ⟨z1, z2, z5, z9⟩
  have R := fun G' => m_W_addCase (E := E) (d := D + 40) (G := G') (m := a + 24) (n := a + 25) (s := s) (g := p0) (by omega) hp9.1.1 hp9.1.2.1 hp9.1.2.2 (by rw [x10]; exact nlt_hi (nI_hi (by omega))) (fun z => by
    rcases hcc : cc with _ | ⟨y, r⟩
    · rw [x10, hcc] at z
      exact absurd rfl z
    · obtain ⟨z1, -, z3, -⟩ := c0at y r hcc
      have := (tr.1 y z3).1
      rw [hP 11 (by omega), z1, tnI (by omega)]
      exact ⟨nlt_hi (nI_hi (by omega)), by omega⟩) (by rcases hp0 with rfl | rfl <;> rfl)
  rcases nil_or (l := pp) with rfl | ⟨l0, x, rfl⟩
  · have K := m_X_addCase_no (E := E) (d := D + 30) (G := zW E G u n sl) (a := a) (c := c) hF p0 x1.1
    replace K : GM E Y_Mill_addCase (D + 40) [.ref a, .int p0] (yW E G a c u n sl) (tIs "java/lang/IllegalStateException" (yW E G a c u n sl)) := K
    rw [hl.1] at K
    refine w_addCase p0 (R := Ev E a (D + 41) Y_Model_addCase [.ref (a + 24), .int p0] (LI E a (k + 1))) ha K (fun v G' hq => (tIs_l hq).elim) (fun C G' hq => ?_)
    have R := R G'
    rw [rAddCase, if_pos (Or.inl (by rw [x3]; decide))] at R
    exact refu hl h hk hq R (by decide)
  · have x1' := x1
    have hpT' := hpT
    rw [List.map_append] at x1' hpT'
    have hb : (l0 ++ [x]).length ≤ 40 := by
      have := x1.2.1
      rw [List.length_map] at this
      exact this
    rw [List.length_append, List.length_singleton] at hb x3
    have hxT := (x7 x (by simp)).1
    have hxN := (tr.1 x hxT).1
    have top : s.2 9 (tn (s.1 14) - 1) = nI x := by
      rw [x3, tnI (by omega), hP 9 (by omega), Nat.add_sub_cancel, x5 _ _ get_last]
    have n14 : ¬ s.1 14 ≤ 0 := fun z => by
      rw [x3] at z
      have := (le_hi (nI_hi (n := l0.length + 1) (by omega)) (show (0 : Int32).toInt = ((0 : Nat) : Int) by decide)).mp z
      omega
    have tyx := (tr.2.1 x hxT).2.2.1
    have bad : ∀ (hn : c.1 3 = 20 ∨ ∃ k t', k + 1 < 20 ∧ c.1 3 = nI (k + 1) ∧ c.2.2.1 0 0 = some t' ∧ zIs u a t' 7 ∧ ¬ u.2.2.1 t' 0 = u.2.2.1 (tm x) 0) (hR : s.1 14 ≤ 0 ∨ 20 ≤ s.1 16 ∨ (¬ s.1 16 = 0 ∧ ¬ s.2 4 (tn (s.2 9 (tn (s.1 14) - 1))) = s.2 4 (tn (s.2 11 0)))), sA E (D + 41) (a + 24) (a + 65) Y_Law_addCase Y_Model_addCase [.ref a, .int p0, .ref (a + 65)] [.ref (a + 24), .int p0] G (LI E a (k + 1)) := fun hn hR => by
      have K := m_Y_addCaseN (E := E) (d := D) (G := G) (x := p0) hF x1' hpT'.1 hn
      rw [hl.1] at K
      refine w_addCase p0 (R := Ev E a (D + 41) Y_Model_addCase [.ref (a + 24), .int p0] (LI E a (k + 1))) ha K (fun v G' hq => (tIs_l hq).elim) (fun C G' hq => ?_)
      have R := R G'
      rw [rAddCase, if_pos hR] at R
      exact refu hl h hk hq R (by decide)
    have good : ∀ (hC : cc.length < 20) (t1 : Nat) (ht1 : t1 < 16) (e4 : P 4 x = nI t1) (hcc : ∀ y ∈ cc, P 4 y = nI t1), sA E (D + 41) (a + 24) (a + 65) Y_Law_addCase Y_Model_addCase [.ref a, .int p0, .ref (a + 65)] [.ref (a + 24), .int p0] G (LI E a (k + 1)) := fun hC t1 ht1 e4 hcc => by
      have hy : cc.length = 0 ∨ ∃ t', c.2.2.1 0 0 = some t' ∧ zIs u a t' 7 ∧ u.2.2.1 t' 0 = u.2.2.1 (tm x) 0 := by
        rcases hc' : cc with _ | ⟨y, r⟩
        · exact Or.inl rfl
        · obtain ⟨z1, z2, z3, z4⟩ := c0at y r hc'
          refine Or.inr ⟨tm y, z2, (tr.2.1 y z3).1, ?_⟩
          rw [(tr.2.1 y z3).2.2.1, tyx, hcc y (by rw [hc']; exact List.mem_cons_self), e4]
      have K := m_Y_addCase (E := E) (d := D) (G := G) (n := n) (sl := sl) (x := p0) x1' hpT'.1 hC x11 hp0 hy
      rw [hl.1, List.length_map] at K
      obtain ⟨P', hR⟩ := rI_case hr0 hk hp0 hC ht1 e4 hcc
      refine w_addCase p0 (R := Ev E a (D + 41) Y_Model_addCase [.ref (a + 24), .int p0] (LI E a (k + 1))) ha K (fun v G' hq => ?_) (fun C G' hq => by cases hq.1)
      obtain ⟨e3, rfl⟩ := hq
      cases e3
      have l1 := lI_cl (c' := (cF (cA (cT (cF (cF (cF c 4 (nI l0.length)) 1 0) 2 0) 0 cc.length (some (tm x))) 3 cc.length p0) 3 (nI (cc.length + 1)))) (sl' := sl) hl h.2.1 h.2.2.1
      refine ⟨_, fo, rfl, l1.2.2.1, ?_⟩
      have R := R (gUp (yW E G a (cF (cA (cT (cF (cF (cF c 4 (nI l0.length)) 1 0) 2 0) 0 cc.length (some (tm x))) 3 cc.length p0) 3 (nI (cc.length + 1))) u n sl) (a + 65) (gAJ E 1 (vp_updL fo 0 (nI cc.length).toInt64)))
      have n16 : ¬ (s.1 14 ≤ 0 ∨ 20 ≤ s.1 16 ∨ (¬ s.1 16 = 0 ∧ ¬ s.2 4 (tn (s.2 9 (tn (s.1 14) - 1))) = s.2 4 (tn (s.2 11 0)))) := by
        rintro (z | z | ⟨z1, z2⟩)
        · exact n14 z
        · rw [x10] at z
          have := (le_hi (show (20 : Int32).toInt = ((20 : Nat) : Int) by decide) (nI_hi (n := cc.length) (by omega))).mp z
          omega
        · rcases hc' : cc with _ | ⟨y, r⟩
          · rw [x10, hc'] at z1
            exact z1 rfl
          · obtain ⟨w1, w2, w3, w4⟩ := c0at y r hc'
            have := (tr.1 y w3).1
            refine z2 ?_
            rw [top, tnI (by omega), hP 4 (by omega), hP 11 (by omega), w1, tnI (by omega), e4, hcc y (by rw [hc']; exact List.mem_cons_self)]
      have e14 : s.1 14 - 1 = nI l0.length := by rw [x3]; exact nI_s1 (by omega)
      have e16 : nI cc.length + 1 - 1 = nI cc.length := by rw [nI_ad (by omega)]; exact nI_s1 (by omega)
      rw [rAddCase, if_neg n16, top, e14, x10, tnI (by omega), e16, nI_ad (by omega)] at R
      exact ev_r (lI_out l1) R rfl (fun _ => up_0) ⟨r1, r2, r3, P', N, t1, rt, rl, T, V, tm, ob, l0, vv, cc ++ [x], hR⟩
    by_cases q20 : cc.length = 20
    · refine bad (Or.inl (by rw [x11, q20]; rfl)) (Or.inr (Or.inl ?_))
      rw [x10, q20]
      decide
    · obtain ⟨⟨t1, ht1, e4⟩, -⟩ := hnd x hxN
      rcases hc' : cc with _ | ⟨y, r⟩
      · refine good (by omega) t1 ht1 e4 (fun y hy => ?_)
        rw [hc'] at hy
        cases hy
      · obtain ⟨w1, w2, w3, w4⟩ := c0at y r hc'
        have hyN := (tr.1 y w3).1
        by_cases et : t1 = t0
        · subst et
          refine good (by omega) t1 ht1 e4 (fun y hy => ?_)
          obtain ⟨i, hi, e⟩ := List.getElem_of_mem hy
          exact (x14 i y (by rw [List.getElem?_eq_getElem hi, e])).2.2.2.2.2.2.2.2
        · have hl1 : cc.length = r.length + 1 := by rw [hc']; rfl
          refine bad (Or.inr ⟨r.length, tm y, by omega, by rw [x11, hl1], w2, (tr.2.1 y w3).1, ?_⟩) (Or.inr (Or.inr ⟨?_, ?_⟩))
          · rw [(tr.2.1 y w3).2.2.1, tyx, w4, e4]
            exact fun z => et (nI_inj (by omega) (by omega) z).symm
          · rw [x10, hl1]
            intro z
            have := nI_inj (b := r.length + 1) (b' := 0) (by omega) (by omega) z
            omega
          · rw [top, tnI (by omega), hP 4 (by omega), hP 11 (by omega), w1, tnI (by omega), e4, w4]
            exact fun z => et (nI_inj (by omega) (by omega) z)
end NU
