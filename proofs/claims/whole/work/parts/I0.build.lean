/-! build -/
section OB
variable {E : gE} {a k n n' sl sl' D N t0 t1 : Nat} {G G' : gS} {c c' c1 : cS} {u u' : uS} {s s' s1 : mS} {fo : Nat → Int64} {P P' : Nat → Nat → Int32} {rt : Nat → Nat} {rl : Nat → List Nat} {T V : Nat → Prop} {tm : Nat → Nat} {ob : Nat → Int32} {pp vv cc l0 ns pp' vv' : List Nat}
theorem tmR_k {K : Nat → Prop} (h : tmR P N T V tm ob a n u) (wf : wfN P N) (ty : tyO P) (hf : kFr K u u' n) (h7 : ¬ K 7) (h8 : ¬ K 8) (hn : n ≤ n') : tmR P N T V tm ob a n' u' := by
  obtain ⟨x1, x2, x3, x4⟩ := h
  have f : ∀ k, T k → (u'.1 (tm k) = u.1 (tm k) ∧ u'.2.2.1 (tm k) = u.2.2.1 (tm k)) ∧ u'.1 (tm k + 1) = u.1 (tm k + 1) ∧ u'.2.1 (tm k + 1) = u.2.1 (tm k + 1) ∧ u'.2.2.2 (tm k + 1) = u.2.2.2 (tm k + 1) := fun k hk => by
    have b := (x3 k hk).1
    have w1 := (x2 k hk).1.1
    have w2 := (x2 k hk).2.1.1
    have f1 := hf.2 (tm k) (by omega) (by omega) (by rw [w1]; exact h7)
    have f2 := hf.2 (tm k + 1) (by omega) (by omega) (by rw [w2]; exact h8)
    exact ⟨⟨hf.1 _ (by omega), f1.2.1⟩, hf.1 _ (by omega), f2.1, f2.2.2⟩
  refine ⟨x1, tmW_cg wf agP_rf x1 x2 (fun _ q => q) (fun _ _ => rfl) (fun _ _ => rfl) (fun k hk => ⟨(f k hk).1.1, (f k hk).2.1, (f k hk).2.2.1, (f k hk).2.2.2, fun j _ _ => by rw [(f k hk).1.2]⟩) ty, fun k hk => ?_, x4⟩
  rw [(f k hk).1.2]
  exact ⟨by have := (x3 k hk).1; omega, (x3 k hk).2⟩
/-- the tree, the passage and the tops of the piles have changed -/
theorem rI_x {K : Nat → Prop} (h : rI E a k P N t0 rt rl T V tm ob pp vv cc c u n sl s) (hk : k < 512) (hf : kFr K u u' n) (h7 : ¬ K 7) (h8 : ¬ K 8) (hn : n ≤ n') (c1 : ∀ j, j = 0 ∨ j = 3 → c'.1 j = c.1 j) (c2 : ∀ j, j < 4 → c'.2.1 j = c.2.1 j) (c3 : c'.2.2.1 0 = c.2.2.1 0) (s1 : ∀ j, j = 4 ∨ j = 5 ∨ j = 16 → s'.1 j = s.1 j) (s2 : ∀ j, j < 13 → s'.2 j = s.2 j) (q1 : pil c' 1 4 (pp'.map tm)) (q2 : pil c' 2 5 (vv'.map tm)) (s14 : s'.1 14 = nI pp'.length) (s15 : s'.1 15 = nI vv'.length) (hp : ∃ r, pp = pp' ++ r) (hv : ∃ r, vv = vv' ++ r) (pg : pgR V tm c' s')
    (hb : tmR P N T V tm ob a n' u' → cK P cc.length (cpF cc) tm c' → hbR E a (k + 1) P N t0 rt rl T tm ob cc c' u' n' sl' s') : rI E a (k + 1) P N t0 rt rl T V tm ob pp' vv' cc c' u' n' sl' s' := by
  have W := rI_wf h
  obtain ⟨a1, a2, ⟨a3, a4, a5, a6, a7, a8, a9⟩, a10, a11, a12, a13⟩ := h
  have R := tmR_k a10 W.1.1 a2.1 hf h7 h8 hn
  have hs : sPA s' P := fun j hj => by rw [s2 j hj]; exact a1 j hj
  have ty' : tyR P c' := by
    unfold tyR
    rw [c2 0 (by omega), c2 1 (by omega), c2 2 (by omega)]
    exact a2
  obtain ⟨r1, hp⟩ := hp
  obtain ⟨r2, hv⟩ := hv
  have pi' : piR P t0 rt rl T V tm pp' vv' cc c' s' := by
    obtain ⟨x1, x2, x3, x4, x5, x6, x7, x8, x9, x10, x11, x12, x13, x14⟩ := a11
    subst hp hv
    refine ⟨q1, q2, s14, s15, fun i x hi => x5 i x ?_, fun i x hi => x6 i x ?_, fun x hx => x7 x (List.mem_append_left _ hx), fun x hx => x8 x (List.mem_append_left _ hx), ?_, by rw [s1 16 (by omega)]; exact x10, by rw [c1 3 (by omega)]; exact x11, x12, x13, by rw [c3, c2 3 (by omega)]; exact x14⟩
    · rw [List.getElem?_append_left (List.getElem?_eq_some_iff.mp hi).1]
      exact hi
    · rw [List.getElem?_append_left (List.getElem?_eq_some_iff.mp hi).1]
      exact hi
    · exact List.Nodup.sublist (List.Sublist.append (List.sublist_append_left _ _) (List.Sublist.append (List.sublist_append_left _ _) (List.Sublist.refl _))) x9
  exact ⟨hs, ty', ⟨by rw [s1 5 (by omega)]; exact a3, by omega, by omega, by rw [s1 4 (by omega)]; exact a6, by rw [s1 4 (by omega), c1 0 (by omega)]; exact a7, a8, a9⟩, R, pi', pg, hb R (rI_cK ty' pi')⟩
/-- what build and match ask -/
theorem rI_ask (h : rI E a k P N t0 rt rl T V tm ob pp vv cc c u n sl s) : (∀ i, i < cc.length → P 12 i = 0 ∨ P 12 i = 1) ∧ (∀ i, i < cc.length → tCs T rt cc (cpF cc i)) := by
  obtain ⟨-, -, -, -, ⟨-, -, -, -, -, -, -, -, -, -, -, -, -, x14⟩, -⟩ := h
  refine ⟨fun i hi => ?_, fun i hi => ?_⟩
  · exact (x14 i _ (cpF_ex hi)).2.2.2.1
  · obtain ⟨-, -, -, -, y5, y6, -⟩ := x14 i _ (cpF_ex hi)
    exact ⟨y5, by rw [y6]; exact List.mem_of_getElem? (cpF_ex hi)⟩
theorem k_build (hl : lI E a G c u n sl s fo) (h : RI E a k c u n sl s) (hk : k < 512) : s_build E (D + 41) a (a + 24) (a + 65) G (LI E a (k + 1)) := by
  obtain ⟨fs, ha⟩ := lI_a hl
  have hF := (RI_f6 hl h).2
  obtain ⟨r1, r2, r3, P, N, t0, rt, rl, T, V, tm, ob, pp, vv, cc, hr⟩ := id h
  have W := rI_wf hr
  have A := rI_ask hr
  have hr0 := hr
  obtain ⟨hP, ty, ⟨h5, hNk, hk5, -, -, hnd, -⟩, tr, hpi, hpg, hhb⟩ := hr
  have hcK := rI_cK ty hpi
  have hpi0 := hpi
  obtain ⟨x1, x2, x3, x4, x5, x6, x7, x8, x9, x10, x11, x12, x13, x14⟩ := hpi
  by_cases q0 : cc = []
  · have c3 : c.1 3 = 0 := by rw [x11, q0]; rfl
    have K := m_X_build_no (E := E) (d := D + 30) (G := zW E G u n sl) (a := a) (c := c) hF c3
    replace K : GM E Y_Mill_build (D + 40) [.ref a] (yW E G a c u n sl) (tIs "java/lang/IllegalStateException" (yW E G a c u n sl)) := K
    rw [hl.1] at K
    refine w_build (R := Ev E a (D + 41) Y_Model_build [.ref (a + 24)] (LI E a (k + 1))) ha K (fun v G' hq => (tIs_l hq).elim) (fun C G' hq => Or.inl ?_)
    exact refu hl h hk hq (m_W_build_no (E := E) (d := D + 40) (G := G') (m := a + 24) (n := a + 25) (s := s) (by omega) (by rw [x10, q0]; rfl)) (by decide)
  · have hC1 : 1 ≤ cc.length := Nat.pos_of_ne_zero (fun z => q0 (List.length_eq_zero_iff.mp z))
    have nc3 : ¬ c.1 3 = 0 := fun z => by
      rw [x11] at z
      have := nI_inj (b := cc.length) (b' := 0) (by omega) (by omega) z
      omega
    have R := fun G' => m_W_build (E := E) (d := D + 36) (G := G') (m := a + 24) (n := a + 25) (s := s) (by omega) W.1 W.2.2.1 W.2.2.2.2.2.2.1 (by omega) W.2.2.2.2.2.2.2 hC1 (tyO_9 ty.1) (ty_Ar ty.1) W.2.2.2.1 hP x10
    have wn := W.1.1
    -- the reference builds, or does not
    have refS : ∀ (c' : cS) (u' : uS) (n' sl' : Nat) (G1 : gS) (fo' : Nat → Int64) (st : aSt), aTree P t0 (cpF cc) cc.length = some st → fo' 0 = (nI st.1.length).toInt64 → lI E a G1 c' u' n' sl' s fo' → (∀ s', bOk s s' → (∃ pl X, eSt P N t0 (posF rt rl cc) pl X an0 st s') → s'.1 19 = 1 → RI E a (k + 1) c' u' n' sl' s') → Ev E a (D + 41) Y_Model_build [.ref (a + 24)] (LI E a (k + 1)) 0 G1 := fun c' u' n' sl' G1 fo' st hst hfo l1 hR => by
      refine ev l1 ((R G1).mono (fun o G2 h2 => ?_))
      rcases h2 with ⟨st', e1, rfl, s', pl, X, rfl, b1, b2, b3, b4⟩ | ⟨e1, -⟩
      · rw [hst] at e1
        cases e1
        exact ⟨_, s', rfl, rfl, b2, fun _ => hfo, hR s' b1 ⟨pl, X, b4⟩ b3⟩
      · rw [hst] at e1
        cases e1
    have refN : ∀ (c' : cS) (u' : uS) (n' sl' : Nat) (G1 : gS) (fo' : Nat → Int64), aTree P t0 (cpF cc) cc.length = none → lI E a G1 c' u' n' sl' s fo' → (∀ s', bOk s s' → s'.1 19 = 0 → RI E a (k + 1) c' u' n' sl' s') → Ev E a (D + 41) Y_Model_build [.ref (a + 24)] (LI E a (k + 1)) 2 G1 := fun c' u' n' sl' G1 fo' hst l1 hR => by
      refine ev l1 ((R G1).mono (fun o G2 h2 => ?_))
      rcases h2 with ⟨st', e1, -⟩ | ⟨e1, rfl, s', rfl, b1, b2, b3⟩
      · rw [hst] at e1
        cases e1
      · exact ⟨_, s', rfl, rfl, b2, fun z => absurd z (by decide), hR s' b1 b3⟩
    have pgB : ∀ (c' : cS) (s' : mS), bOk s s' → c'.1 21 = c.1 21 → c'.2.1 6 = c.2.1 6 → c'.2.2.1 3 = c.2.2.1 3 → pgR V tm c' s' := fun c' s' hb e1 e2 e3 => by
      obtain ⟨l, y1, y2, y3, y4, y5⟩ := hpg
      refine ⟨l, y1, by rw [e1]; exact y2, by rw [hb.2 54 (by omega)]; exact y3, ?_, ?_⟩
      · rw [e2, hb.1 37 (by omega)]
        exact y4
      · rw [e3, hb.1 38 (by omega)]
        exact y5
    have tp' := tCs_P (cc := cc) W.2.2.2.2.2.1 hnd tr.1
    have tw' := tmW_sub (T' := tCs T rt cc) tr.2.1 (fun k hk => hk.1)
    obtain ⟨ks, sp, ps, qs, ms, hp, hbb⟩ := hhb
    rcases hbb with ⟨b1, b2, b3⟩ | ⟨b1, b2, b3, b4, st, nk, Z, pl, X, b5, b6, b7⟩
    · by_cases q2 : c.1 2 = 0
      · -- both build
        have K := m_Y_build (E := E) (d := D) (G := G) W.1 W.2.1 W.2.2.1 tp' W.2.2.2.2.2.2.2 W.2.2.2.2.2.2.1 (by omega) (tyO_9 ty.1) A.1 (fun t _ => ty.1.1 t) (ty_Ar ty.1) W.2.2.2.1 A.2 hp tw' hcK nc3 b1 q2
        rw [hl.1] at K
        refine w_build (R := Ev E a (D + 41) Y_Model_build [.ref (a + 24)] (LI E a (k + 1))) ha K (fun v G' hq => ?_) (fun C G' hq => ?_)
        · rcases hq with ⟨st, e1, e2, c', u', n', sl', ks', sp', ps', qs', nk', Z', rfl, hcl, hg⟩ | ⟨-, c', u', n', sl', ks', sp', ps', qs', ht, -⟩
          · cases e2
            have hu' : ∀ q, q < a + 66 → u'.1 q = 0 := fun q hq => (hg.2.2.2.2.1.1 q (by omega)).trans (r2 q hq)
            have hn' := hg.2.2.2.2.2
            have l1 := lI_cl (c' := cF (cF c' 1 1) 2 0) (u' := u') (n' := n') (sl' := sl') hl hu' (by omega)
            refine ⟨_, fo, rfl, l1.2.2.1, refS _ u' n' sl' _ _ st e1 up_0 (lI_out l1) (fun s' hb he h19 => ?_)⟩
            refine rI_RI r1 hu' (by omega) (rI_x (K := kT) (pp' := pp) (vv' := vv) hr0 hk hg.2.2.2.2.1 (fun z => z.1 rfl) (fun z => z.2.1 rfl) hn' ?_ ?_ ?_ ?_ ?_ ?_ ?_ ?_ ?_ ⟨[], by simp⟩ ⟨[], by simp⟩ (pgB _ _ hb ?_ ?_ ?_) (fun tr' hK' => ?_))
            · rintro j (rfl | rfl)
              · exact hg.1 0 (by omega)
              · exact hg.1 3 (by omega)
            · exact fun j hj => hg.2.1 j (by omega) (by omega)
            · exact congrFun hg.2.2.1 0
            · rintro j (rfl | rfl | rfl)
              · exact hb.2 4 (by omega)
              · exact hb.2 5 (by omega)
              · exact hb.2 16 (by omega)
            · exact fun j hj => hb.1 j (by omega)
            · exact ⟨(hg.1 4 (by omega)).trans x1.1, x1.2.1, fun i t hi => (congrFun (congrFun hg.2.2.1 1) i).trans (x1.2.2 i t hi)⟩
            · exact ⟨(hg.1 5 (by omega)).trans x2.1, x2.2.1, fun i t hi => (congrFun (congrFun hg.2.2.1 2) i).trans (x2.2.2 i t hi)⟩
            · exact (hb.2 14 (by omega)).trans x3
            · exact (hb.2 15 (by omega)).trans x4
            · exact hg.1 21 (by omega)
            · exact hg.2.1 6 (by omega) (by omega)
            · exact congrFun hg.2.2.1 3
            · obtain ⟨pl, X, he⟩ := he
              have hp2 := hcl.1
              rw [List.append_nil] at hp2
              have hp' := hp_on (c' := cF (cF c' 1 1) 2 0) hk hp2 (Nat.le_refl n') (by omega) (show sl' ≤ sl' + 40 by omega) (fun j hj => by rcases hj with rfl | rfl | rfl | rfl | rfl <;> rfl) rfl
              refine ⟨ks', sp', ps', qs', ms, hp', Or.inr ⟨show ¬ (1 : Int32) = 0 by decide, rfl, by rw [h19]; decide, q0, st, nk', Z', pl, X, e1, ?_, he⟩⟩
              exact clT_ext hcl hp' (tmW_sub tr'.2.1 (fun k hk => hk.1)) hK' wn agP_rf (Nat.le_refl _) (fun k hk => ⟨(tr.1 k hk.1).1, hk, rfl, rfl, rfl⟩) (fun _ _ => rfl) (fun _ _ => ⟨rfl, rfl⟩) (fun j _ _ => by
                show (if j = 2 then (0 : Int32) else if j = 1 then 1 else c'.1 j) = c'.1 j
                rw [if_neg (by omega), if_neg (by omega)]) rfl rfl
          · exact (tIs_l ht).elim
        · rcases hq with ⟨st, -, e2, -⟩ | ⟨e1, c', u', n', sl', ks', sp', ps', qs', ht, hp2, hg⟩
          · cases e2
          · refine Or.inr ?_
            have hu' : ∀ q, q < a + 66 → u'.1 q = 0 := fun q hq => (hg.2.2.2.2.1.1 q (by omega)).trans (r2 q hq)
            have hn' := hg.2.2.2.2.2
            obtain ⟨eC, l1, m1, m2, m3⟩ := thr (lI_cl (c' := cF (cF c' 1 0) 2 1) (u' := u') (n' := n') (sl' := sl') hl hu' (by omega)) ht
            refine ⟨eC, refN _ u' _ _ _ _ e1 l1 (fun s' hb h19 => ?_)⟩
            refine rI_RI r1 hu' (by omega) (rI_x (K := kT) (pp' := pp) (vv' := vv) hr0 hk hg.2.2.2.2.1 (fun z => z.1 rfl) (fun z => z.2.1 rfl) (by omega) ?_ ?_ ?_ ?_ ?_ ?_ ?_ ?_ ?_ ⟨[], by simp⟩ ⟨[], by simp⟩ (pgB _ _ hb ?_ ?_ ?_) (fun tr' hK' => ?_))
            · rintro j (rfl | rfl)
              · exact hg.1 0 (by omega)
              · exact hg.1 3 (by omega)
            · exact fun j hj => hg.2.1 j (by omega) (by omega)
            · exact congrFun hg.2.2.1 0
            · rintro j (rfl | rfl | rfl)
              · exact hb.2 4 (by omega)
              · exact hb.2 5 (by omega)
              · exact hb.2 16 (by omega)
            · exact fun j hj => hb.1 j (by omega)
            · exact ⟨(hg.1 4 (by omega)).trans x1.1, x1.2.1, fun i t hi => (congrFun (congrFun hg.2.2.1 1) i).trans (x1.2.2 i t hi)⟩
            · exact ⟨(hg.1 5 (by omega)).trans x2.1, x2.2.1, fun i t hi => (congrFun (congrFun hg.2.2.1 2) i).trans (x2.2.2 i t hi)⟩
            · exact (hb.2 14 (by omega)).trans x3
            · exact (hb.2 15 (by omega)).trans x4
            · exact hg.1 21 (by omega)
            · exact hg.2.1 6 (by omega) (by omega)
            · exact congrFun hg.2.2.1 3
            · exact ⟨ks', sp', ps', qs', ms, hp_on (c' := cF (cF c' 1 0) 2 1) hk hp2 m1 (by omega) (by omega) (fun j hj => by rcases hj with rfl | rfl | rfl | rfl | rfl <;> rfl) rfl, Or.inl ⟨rfl, h19, fun _ => ⟨q0, e1⟩⟩⟩
      · -- too great, as is known
        have K := m_Y_buildG (E := E) (d := D) (G := G) hF nc3 b1 q2
        rw [hl.1] at K
        refine w_build (R := Ev E a (D + 41) Y_Model_build [.ref (a + 24)] (LI E a (k + 1))) ha K (fun v G' hq => (tIs_l hq).elim) (fun C G' hq => Or.inr ?_)
        obtain ⟨eC, l1, m1, m2, m3⟩ := thr hl hq
        refine ⟨eC, refN _ u _ _ _ _ (b3 q2).2 l1 (fun s' hb h19 => ?_)⟩
        refine rI_RI r1 r2 (by omega) (rI_x (K := fun _ => False) (pp' := pp) (vv' := vv) hr0 hk kFr_rf id id m1 (fun _ _ => rfl) (fun _ _ => rfl) rfl ?_ (fun j hj => hb.1 j (by omega)) x1 x2 ((hb.2 14 (by omega)).trans x3) ((hb.2 15 (by omega)).trans x4) ⟨[], by simp⟩ ⟨[], by simp⟩ (pgB _ _ hb rfl rfl rfl) (fun tr' hK' => ?_))
        · rintro j (rfl | rfl | rfl)
          · exact hb.2 4 (by omega)
          · exact hb.2 5 (by omega)
          · exact hb.2 16 (by omega)
        · exact ⟨ks, sp, ps, qs, ms, hp_on hk hp m1 (by omega) (by omega) (fun _ _ => rfl) rfl, Or.inl ⟨b1, h19, b3⟩⟩
    · -- built already
      have K := m_Y_buildA (E := E) (d := D) (G := G) (a := a) (u := u) (n := n) (sl := sl) nc3 b1 b2
      rw [hl.1, b6.2.2.2.2.2.1] at K
      refine w_build (R := Ev E a (D + 41) Y_Model_build [.ref (a + 24)] (LI E a (k + 1))) ha K (fun v G' hq => ?_) (fun C G' hq => by cases hq.1)
      obtain ⟨e3, rfl⟩ := hq
      cases e3
      refine ⟨_, fo, rfl, hl.2.2.1, refS _ u n sl _ _ st b5 up_0 (lI_out hl) (fun s' hb he h19 => ?_)⟩
      refine rI_RI r1 r2 r3 (rI_x (K := fun _ => False) (pp' := pp) (vv' := vv) hr0 hk kFr_rf id id (Nat.le_refl _) (fun _ _ => rfl) (fun _ _ => rfl) rfl ?_ (fun j hj => hb.1 j (by omega)) x1 x2 ((hb.2 14 (by omega)).trans x3) ((hb.2 15 (by omega)).trans x4) ⟨[], by simp⟩ ⟨[], by simp⟩ (pgB _ _ hb rfl rfl rfl) (fun tr' hK' => ?_))
      · rintro j (rfl | rfl | rfl)
        · exact hb.2 4 (by omega)
        · exact hb.2 5 (by omega)
        · exact hb.2 16 (by omega)
      · obtain ⟨pl, X, he⟩ := he
        have hp' := hp_on (c' := c) hk hp (Nat.le_refl n) (by omega) (show sl ≤ sl + 40 by omega) (fun _ _ => rfl) rfl
        refine ⟨ks, sp, ps, qs, ms, hp', Or.inr ⟨b1, b2, by rw [h19]; decide, q0, st, nk, Z, pl, X, b5, ?_, he⟩⟩
        exact clT_ext b6 hp' (tmW_sub tr'.2.1 (fun k hk => hk.1)) hK' wn agP_rf (Nat.le_refl _) (fun k hk => ⟨(tr.1 k hk.1).1, hk, rfl, rfl, rfl⟩) (fun _ _ => rfl) (fun _ _ => ⟨rfl, rfl⟩) (fun _ _ _ => rfl) rfl rfl
end OB
