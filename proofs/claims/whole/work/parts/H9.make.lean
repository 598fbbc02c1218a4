/-! make -/
section OA
variable {E : gE} {a k n n' sl sl' D N t0 t1 : Nat} {G G' : gS} {c c' : cS} {u u' : uS} {s s' s1 : mS} {fo : Nat → Int64} {P P' : Nat → Nat → Int32} {rt : Nat → Nat} {rl : Nat → List Nat} {T V : Nat → Prop} {tm : Nat → Nat} {ob : Nat → Int32} {pp vv cc l0 ns : List Nat}
theorem rMk_0 {v : Int32} {b A : Nat} (m : Nat) : (rMk s v b A 0 m).1 = 0 := by
  have := rMk_st (s := s) (v := v) (g0 := 0) (b := b) (A := A) (k := 0) rfl m
  rw [Nat.zero_add] at this
  rw [this]
  rfl
theorem spl {l : List Nat} {m : Nat} (h : m ≤ l.length) : ∃ l0 ns, l = l0 ++ ns ∧ ns.length = m := ⟨l.take (l.length - m), l.drop (l.length - m), (List.take_append_drop _ _).symm, by rw [List.length_drop]; omega⟩
theorem nw_make_0 (h5 : s.1 5 = nI N) (hN : N < 512) {X K L : Nat} {z e : Int32} (hns : ∀ i v, ns[i]? = some v → s.2 9 (L + i) = nI v) (h14 : s.1 14 = nI (L + ns.length)) (hb : L + ns.length ≤ 40) : nwS s (rMkD (wF s 0 0) (nI X) (nI K) 0 (nI ns.length) z e L) N ns 2 (nI X) (nI K) z e ∧ (rMkD (wF s 0 0) (nI X) (nI K) 0 (nI ns.length) z e L).1 14 = nI L ∧ (rMkD (wF s 0 0) (nI X) (nI K) 0 (nI ns.length) z e L).1 15 = s.1 15 := by
  have e5 : tn ((wF s 0 0).1 5) = N := by
    show tn (s.1 5) = N
    rw [h5, tnI (by omega)]
  obtain ⟨w0, w5, w1, w2, wi, k3, k4, k5, k7, k8, w6, -⟩ := nw_node (s := s) (kd := 2) (ty := nI X) (wh := nI K) (sz := z) (nm := e) h5 hN
  have eD : rMkD (wF s 0 0) (nI X) (nI K) 0 (nI ns.length) z e L = wF (wR (rNode (wF s 0 0) 2 (nI X) (nI K) z e) 6 (cpy ((rNode (wF s 0 0) 2 (nI X) (nI K) z e).2 6) (4 * N) ns.length (fun j => s.2 9 (L + j)))) 14 (nI L) := by
    unfold rMkD
    rw [if_pos rfl]
    unfold rMkN
    rw [wF_wF, e5, tnI (by omega), show (wF s 0 0).1 14 = s.1 14 from rfl, h14, sub_nI (by omega) (by omega), Nat.add_sub_cancel]
    rfl
  rw [eD]
  refine ⟨⟨w0, w5, fun j h0 h5 y14 y15 => (if_neg y14).trans (w1 j h0 h5 y14 y15), fun j h3 h4 h5 h6 h7 h8 => (if_neg h6).trans (w2 j h3 h4 h5 h6 h7 h8), wi, k3, k4, k5, k7, k8, fun i hi => ?_, fun i v hi => ?_⟩, rfl, rfl⟩
  · have e6 := cpy_out (f := (rNode (wF s 0 0) 2 (nI X) (nI K) z e).2 6) (g := fun j => s.2 9 (L + j)) (b := 4 * N) (k := ns.length) (Or.inl hi)
    exact e6.trans (w6 i hi)
  · have e6 := cpy_in (f := (rNode (wF s 0 0) 2 (nI X) (nI K) z e).2 6) (g := fun j => s.2 9 (L + j)) (b := 4 * N) (List.getElem?_eq_some_iff.mp hi).1
    exact e6.trans (hns i v hi)
theorem nw_make_1 (h5 : s.1 5 = nI N) (hN : N < 512) {X K L : Nat} {z e : Int32} (hns : ∀ i v, ns[i]? = some v → s.2 10 (L + i) = nI v) (h14 : s.1 15 = nI (L + ns.length)) (hb : L + ns.length ≤ 40) : nwS s (rMkD (wF s 0 0) (nI X) (nI K) 1 (nI ns.length) z e L) N ns 2 (nI X) (nI K) z e ∧ (rMkD (wF s 0 0) (nI X) (nI K) 1 (nI ns.length) z e L).1 15 = nI L ∧ (rMkD (wF s 0 0) (nI X) (nI K) 1 (nI ns.length) z e L).1 14 = s.1 14 := by
  have e5 : tn ((wF s 0 0).1 5) = N := by
    show tn (s.1 5) = N
    rw [h5, tnI (by omega)]
  obtain ⟨w0, w5, w1, w2, wi, k3, k4, k5, k7, k8, w6, -⟩ := nw_node (s := s) (kd := 2) (ty := nI X) (wh := nI K) (sz := z) (nm := e) h5 hN
  have eD : rMkD (wF s 0 0) (nI X) (nI K) 1 (nI ns.length) z e L = wF (wR (rNode (wF s 0 0) 2 (nI X) (nI K) z e) 6 (cpy ((rNode (wF s 0 0) 2 (nI X) (nI K) z e).2 6) (4 * N) ns.length (fun j => s.2 10 (L + j)))) 15 (nI L) := by
    unfold rMkD
    rw [if_neg (show ¬ (1 : Int32) = 0 by decide)]
    unfold rMkN
    rw [wF_wF, e5, tnI (by omega), show (wF s 0 0).1 15 = s.1 15 from rfl, h14, sub_nI (by omega) (by omega), Nat.add_sub_cancel]
    rfl
  rw [eD]
  refine ⟨⟨w0, w5, fun j h0 h5 y14 y15 => (if_neg y15).trans (w1 j h0 h5 y14 y15), fun j h3 h4 h5 h6 h7 h8 => (if_neg h6).trans (w2 j h3 h4 h5 h6 h7 h8), wi, k3, k4, k5, k7, k8, fun i hi => ?_, fun i v hi => ?_⟩, rfl, rfl⟩
  · have e6 := cpy_out (f := (rNode (wF s 0 0) 2 (nI X) (nI K) z e).2 6) (g := fun j => s.2 10 (L + j)) (b := 4 * N) (k := ns.length) (Or.inl hi)
    exact e6.trans (w6 i hi)
  · have e6 := cpy_in (f := (rNode (wF s 0 0) 2 (nI X) (nI K) z e).2 6) (g := fun j => s.2 10 (L + j)) (b := 4 * N) (List.getElem?_eq_some_iff.mp hi).1
    exact e6.trans (hns i v hi)
theorem k_make_0 (hl : lI E a G c u n sl s fo) (h : RI E a k c u n sl s) (hk : k < 512) {X K TT ar : Nat} (hr : rI E a k P N t0 rt rl T V tm ob pp vv cc c u n sl s) (hX : X < 16) (hK : K < 8) (q0 : tHas (c.2.1 0) (nI X) (nI K)) (T2 : 2 ≤ TT) (T9 : TT ≤ 9) (e0 : P 0 X = nI TT) (hKT : K < TT - 1) (har : ar ≤ 4) (eA : P 1 (8 * X + K) = nI ar) (cA' : c.2.1 1 (8 * X + K) = nI ar) (cG : ∀ i, i < ar → c.2.1 2 (32 * X + 4 * K + i) = P 2 (32 * X + 4 * K + i)) :
    sA E (D + 41) (a + 24) (a + 65) Y_Law_make Y_Model_make [.ref a, .int (nI X), .int (nI K), .int 0, .ref (a + 65)] [.ref (a + 24), .int (nI X), .int (nI K), .int 0] G (LI E a (k + 1)) := by
  obtain ⟨fs, ha⟩ := lI_a hl
  have hF := (RI_f6 hl h).2
  obtain ⟨-, f2, f3, hu⟩ := RI_fit (G := G) h
  obtain ⟨r1, r2, r3, -⟩ := id h
  have hp9 := rI_p9 hr
  have hr0 := hr
  obtain ⟨hP, ty, ⟨h5, hNk, -, -, -, hnd, -⟩, tr, hpi, -⟩ := hr
  have hok := ty_tOk ty
  have hM := (has_iff ty hP).mp q0
  have hpT := pil_T hpi tr
  obtain ⟨x1, x2, x3, x4, x5, x6, x7, x8, x9, -⟩ := hpi
  have hb : pp.length ≤ 40 := by have := x1.2.1; rw [List.length_map] at this; exact this
  have e1 : s.2 1 (rAt (nI X) (nI K)) = nI ar := by rw [rAt_nI hX hK, hP 1 (by omega), eA]
  have R := fun G' => m_W_make (E := E) (d := D + 39) (G := G') (m := a + 24) (n := a + 25) (s := s) (v := 0) (by omega) (by rw [h5]; exact nlt_hi (nI_hi (by omega))) (by rw [h5, tnI (by omega)]; omega) hp9.1.1 hp9.1.2.1 (ty_9 ty.1 hP) (ty_4 ty.1 hP) hp9.1.2.2 (nI X) (nI K)
  obtain ⟨W, hW⟩ : ∃ W, W = rMk (wF s 0 0) 0 (pp.length - ar) (8 * X + K) (rG (nI ar) (nI pp.length)) ar := ⟨_, rfl⟩
  have eM : rMake s (nI X) (nI K) 0 = rMakeT (wF s 0 0) (nI X) (nI K) 0 (nI ar) W.2.1 W.2.2 W.1 (pp.length - ar) := by
    rw [rMake, if_neg (fun z => z hM), e1, rAt_nI hX hK, show rHt s 0 = nI pp.length from x3, tnI (by omega), tnI (by omega), ← hW]
  have eMx : (if (0 : Int32) = 0 then (24 : Int32) else 60) = 24 := by decide
  have RB : ∀ G', (W.1 = 0 ∨ ¬ W.2.1 ≤ 24) → GM E Y_Model_make (D + 41) [.ref (a + 24), .int (nI X), .int (nI K), .int 0] (mW E G' (a + 24) (a + 25) s) (rIs (some (.int 0)) (mW E G' (a + 24) (a + 25) (wF s 0 2))) := fun G' gz => by
    have R := R G'
    rw [eM, rMakeT, eMx, if_pos gz, wF_wF] at R
    exact R
  have i0 : (0 : Int32).toInt = ((0 : Nat) : Int) := by decide
  have i40 : (40 : Int32).toInt = ((40 : Nat) : Int) := by decide
  by_cases q1 : pp.length < ar
  · have KK := m_Y_make0_8 (E := E) (d := D) (G := G) hF x1 hX hK q0 hok cA' har (by rw [List.length_map]; exact q1)
    rw [hl.1] at KK
    refine w_make _ _ 0 (R := Ev E a (D + 41) Y_Model_make [.ref (a + 24), .int (nI X), .int (nI K), .int 0] (LI E a (k + 1))) ha KK (fun v G' hq => (tIs_l hq).elim) (fun C G' hq => Or.inr (refu hl h hk hq (RB G' (Or.inl ?_)) (by decide)))
    rw [hW, show rG (nI ar) (nI pp.length) = 0 from if_pos ((lt_hi (nI_hi (by omega)) (nI_hi (by omega))).mpr q1)]
    exact rMk_0 _
  · obtain ⟨l0, ns, e, hln⟩ := spl (l := pp) (m := ar) (by omega)
    subst e
    subst hln
    have x1' := x1
    have hpT' := hpT.1
    rw [List.map_append] at x1' hpT'
    rw [List.length_append] at hb x3
    rw [List.length_append, Nat.add_sub_cancel] at hW eM
    have cA2 : c.2.1 1 (8 * X + K) = nI (ns.map tm).length := by rw [List.length_map]; exact cA'
    have hTn : ∀ p ∈ ns, T p ∧ p < N ∧ rt p = p ∧ rl p = [] := fun p hp => by
      have := x7 p (List.mem_append_right _ hp)
      exact ⟨this.1, (tr.1 p this.1).1, this.2.2.1, this.2.2.2.1⟩
    have nM : ¬ nI (l0.length + ns.length) < nI ns.length := fun z => by
      have := (lt_hi (nI_hi (by omega)) (nI_hi (by omega))).mp z
      omega
    by_cases q2 : ns = [] ∧ l0.length = 40
    · obtain ⟨rfl, q2⟩ := q2
      have KK := m_Y_makeF_8 (E := E) (d := D) (G := G) (n := n) (sl := sl) (tp := []) hu (by omega) (by omega) (by omega) x1' hpT' hX hK q0 hok cA2 (by simp) (show ¬ (1 : Int32) = 0 by decide) rfl (show (0 : Int32) + 1 ≤ 24 by decide) (by rw [List.length_map]; exact q2)
      have ec : cF c 4 (nI (l0.map tm).length) = c := by
        refine Prod.ext (funext fun i => ?_) rfl
        show (if i = 4 then _ else c.1 i) = c.1 i
        split
        · rename_i ei
          rw [ei, x1'.1, List.length_append]
          rfl
        · rfl
      rw [ec, hl.1] at KK
      refine w_make _ _ 0 (R := Ev E a (D + 41) Y_Model_make [.ref (a + 24), .int (nI X), .int (nI K), .int 0] (LI E a (k + 1))) ha KK (fun v G' hq => (tIs_l hq).elim) (fun C G' hq => Or.inr (refuU hl h hk uTm_fr (uTm_ok hu (by omega)) (by omega) (by omega) (by simp) hq (RB G' (Or.inl ?_)) (by decide)))
      rw [hW, show rG (nI ([] : List Nat).length) (nI (l0.length + ([] : List Nat).length)) = 0 from (if_neg nM).trans ((if_neg (by decide)).trans (if_pos (by rw [q2]; decide)))]
      exact rMk_0 _
    · have hl40 : l0.length < 40 := by
        rcases Nat.eq_zero_or_pos ns.length with z | z
        · have : ¬ l0.length = 40 := fun y => q2 ⟨List.length_eq_zero_iff.mp z, y⟩
          omega
        · omega
      have eG : rG (nI ns.length) (nI (l0.length + ns.length)) = 1 := by
        unfold rG
        rw [if_neg nM]
        by_cases z : 0 < ns.length
        · rw [if_pos ((lt_hi i0 (nI_hi (by omega))).mpr z)]
        · rw [if_neg (fun y => z ((lt_hi i0 (nI_hi (by omega))).mp y)), if_neg (fun y => by
            have := (le_hi i40 (nI_hi (n := l0.length + ns.length) (by omega))).mp y
            omega)]
      have eL : W = rML (wF s 0 0) (8 * X + K) 0 (1, 1, 0) ns := by
        have := rMk_L (s := wF s 0 0) (v := 0) (b := l0.length) (A := 8 * X + K) (g0 := 1) (ns := ns) (fun i p hi => by
          have hpN := (hTn p (List.mem_of_getElem? hi)).2.1
          have e9 := x5 (l0.length + i) p (by rw [List.getElem?_append_right (by omega), Nat.add_sub_cancel_left]; exact hi)
          show tn (s.2 9 (l0.length + i)) = p
          rw [hP 9 (by omega), e9, tnI (by omega)]) ns.length (Nat.le_refl _)
        rw [List.take_length] at this
        rw [hW, eG, this]
      have C1 := rML_c (s := wF s 0 0) (u := u) (tm := tm) (A := 8 * X + K) (B := 32 * X + 4 * K) (g := c.2.1 2) (ns := ns) (fun p hp => by
        obtain ⟨pT, pN, -⟩ := hTn p hp
        have y := tr.2.2.1 p pT
        show s.2 4 p = _ ∧ s.2 8 p = _ ∧ s.2 7 p = _
        rw [hP 4 (by omega), hP 8 (by omega), hP 7 (by omega), (tr.2.1 p pT).2.2.1, y.2.1, y.2.2]
        exact ⟨rfl, rfl, rfl⟩) ns 0 1 0 (fun _ z => z) (fun j hj => by
        show s.2 2 (4 * (8 * X + K) + (0 + j)) = _
        rw [hP 2 (by omega), cG _ (by omega)]
        rw [show 4 * (8 * X + K) + (0 + j) = 32 * X + 4 * K + (0 + j) by omega])
      rw [Nat.add_zero, ← eL] at C1
      have hsz := szF_N (u := u) (P := P) (tm := tm) ns 1 (fun p hp => by
        obtain ⟨pT, pN, -⟩ := hTn p hp
        obtain ⟨-, ⟨z, z1, z2, ez⟩, -⟩ := hnd p pN
        refine ⟨(tr.2.2.1 p pT).2.1, ?_, ?_⟩
        · rw [ez, tnI (by omega)]
        · rw [ez, tnI (by omega)]
          exact z2) (by omega)
      replace hsz : szF u 1 (ns.map tm) = nI (1 + szN P ns) ∧ szN P ns ≤ 60 * ns.length := hsz
      by_cases y1 : arF u (c.2.1 2) (ns.map tm) (32 * X + 4 * K) = 0
      · have KK := m_Y_make1_8 (E := E) (d := D) (G := G) hF x1' hpT' hX hK q0 hok cA2 (by rw [List.length_map]; exact har) y1
        rw [hl.1] at KK
        exact w_make _ _ 0 (R := Ev E a (D + 41) Y_Model_make [.ref (a + 24), .int (nI X), .int (nI K), .int 0] (LI E a (k + 1))) ha KK (fun v G' hq => (tIs_l hq).elim) (fun C G' hq => Or.inr (refu hl h hk hq (RB G' (Or.inl (C1.2 (Or.inl y1)))) (by decide)))
      · by_cases y2 : shF u 0 (ns.map tm) = 0
        · have eW := C1.1 y1 y2
          by_cases y3 : szF u 0 (ns.map tm) + 1 ≤ 24
          · have KK := m_Y_make_8 (E := E) (d := D) (G := G) (n := n) (sl := sl) hu (by omega) (by omega) (by omega) x1' hpT' hX hK q0 hok cA2 (by rw [List.length_map]; exact har) y1 y2 y3 (by rw [List.length_map]; exact hl40)
            rw [hl.1, List.length_map, List.length_map] at KK
            refine w_make _ _ 0 (R := Ev E a (D + 41) Y_Model_make [.ref (a + 24), .int (nI X), .int (nI K), .int 0] (LI E a (k + 1))) ha KK (fun v G' hq => ?_) (fun C G' hq => by cases hq.1)
            obtain ⟨e3, c', rfl, hpt⟩ := hq
            cases e3
            rw [← szF_1, hsz.1] at y3
            have hzM : 1 + szN P ns ≤ 24 := (le_hi (nI_hi (by omega)) (show (24 : Int32).toInt = ((24 : Nat) : Int) by decide)).mp y3
            obtain ⟨yn, hyn, eyn⟩ := nmF_256 (u := u) (tm := tm) ns 0 (by omega) (fun p hp => by
              obtain ⟨pT, pN, -⟩ := hTn p hp
              obtain ⟨-, -, ⟨x, hx, ex⟩, -⟩ := hnd p pN
              exact ⟨x, hx, by rw [(tr.2.2.1 p pT).2.2]; exact ex⟩)
            replace eyn : nmF u 0 (ns.map tm) = nI yn := eyn
            have hnmB : ∀ w, w < 8 → ∀ p ∈ ns, nmB (P 8 p) w → nmB (nI yn) w := fun w hw p hp hn => by
              rw [← eyn, nmF_nm hw]
              exact Or.inr ⟨p, hp, by rw [(tr.2.2.1 p (hTn p hp).1).2.2]; exact hn⟩
            have hdj : ∀ w, w < 8 → ∀ (i j p q : Nat), i < j → ns[i]? = some p → ns[j]? = some q → nmB (P 8 p) w → ¬ nmB (P 8 q) w := fun w hw i j p q hij hi hj hn => by
              have := (shF_all hw ns 0 y2).2 i j p q hij hi hj
              rw [(tr.2.2.1 p (hTn p (List.mem_of_getElem? hi)).1).2.2, (tr.2.2.1 q (hTn q (List.mem_of_getElem? hj)).1).2.2] at this
              exact this hn
            have hty : ∀ i p, ns[i]? = some p → P 4 p = P 2 (32 * X + 4 * K + i) := fun i p hi => by
              rw [← cG i (List.getElem?_eq_some_iff.mp hi).1, ← arF_all ns _ y1 i p hi, (tr.2.1 p (hTn p (List.mem_of_getElem? hi)).1).2.2.1]
            rw [hsz.1, eyn] at eW ⊢
            have hu' : ∀ q, q < a + 66 → (uTm u n (nI X) 1 (nI K) (nI (1 + szN P ns)) (nI yn) (ns.map tm)).1 q = 0 := fun q hq => (uTm_o (Or.inl (by omega))).1.trans (r2 q hq)
            have l1 := lI_cl (c' := c') (u' := uTm u n (nI X) 1 (nI K) (nI (1 + szN P ns)) (nI yn) (ns.map tm)) (n' := n + 2) (sl' := sl + 7 + ns.length) hl hu' (by omega)
            refine ⟨_, fo, rfl, l1.2.2.1, ?_⟩
            have R := R (gUp (yW E G a c' (uTm u n (nI X) 1 (nI K) (nI (1 + szN P ns)) (nI yn) (ns.map tm)) (n + 2) (sl + 7 + ns.length)) (a + 65) (gAJ E 1 (vp_updL fo 0 (nI (l0.length + 1)).toInt64)))
            obtain ⟨hw, h14, h15⟩ := nw_make_0 (s := s) (ns := ns) (X := X) (K := K) (L := l0.length) (z := nI (1 + szN P ns)) (e := nI yn) h5 (by omega) (fun i p hi => by
              rw [hP 9 (by omega)]
              exact x5 (l0.length + i) p (by rw [List.getElem?_append_right (by omega), Nat.add_sub_cancel_left]; exact hi)) x3 hb
            have ngood : ¬ (W.1 = 0 ∨ ¬ W.2.1 ≤ 24) := by
              rw [eW]
              rintro (z | z)
              · exact absurd (show (1 : Int32) = 0 from z) (by decide)
              · exact z y3
            rw [eM, rMakeT, eMx, if_neg ngood, eW] at R
            dsimp only at R
            rw [push_p (N := N) (x := (wF s 0 0).1 5 + 1 - 1) h14 (by omega) (n_ss (x := (wF s 0 0).1 5) h5 (by omega))] at R
            have eh : rHt (rMkD (wF s 0 0) (nI X) (nI K) 0 (nI ns.length) (nI (1 + szN P ns)) (nI yn) l0.length) 0 + 1 = nI (l0.length + 1) := by
              show (rMkD (wF s 0 0) (nI X) (nI K) 0 (nI ns.length) (nI (1 + szN P ns)) (nI yn) l0.length).1 14 + 1 = _
              rw [h14]
              exact nI_ad (by omega)
            rw [eh] at R
            have hnd2 : ns.Nodup := (List.nodup_append.mp (List.nodup_append.mp x9).1).2.1
            generalize rMkD (wF s 0 0) (nI X) (nI K) 0 (nI ns.length) (nI (1 + szN P ns)) (nI yn) l0.length = s1 at R hw h14 h15
            have nod := nod_make (P := P) (P' := (wF (wA (wF s1 4 1) 9 l0.length (nI N)) 14 (nI (l0.length + 1))).2) (ns := ns) (rt := rt) (rl := rl) (N := N) (by omega) hX hKT T2 T9 e0 eA har rfl ((hw.2.2.2.1 0 (by omega) (by omega) (by omega) (by omega) (by omega) (by omega)).trans (hP 0 (by omega))) ((hw.2.2.2.1 1 (by omega) (by omega) (by omega) (by omega) (by omega) (by omega)).trans (hP 1 (by omega))) ((hw.2.2.2.1 2 (by omega) (by omega) (by omega) (by omega) (by omega) (by omega)).trans (hP 2 (by omega))) (fun i hi => by
              obtain ⟨j3, j4, j5, j7, j8⟩ := hw.2.2.2.2.1 i (by omega)
              exact ⟨j4.trans (congrFun (hP 4 (by omega)) i), j7.trans (congrFun (hP 7 (by omega)) i), j8.trans (congrFun (hP 8 (by omega)) i)⟩) hw.2.2.2.2.2.1 hw.2.2.2.2.2.2.1 hw.2.2.2.2.2.2.2.1 hw.2.2.2.2.2.2.2.2.2.2.2 (fun p hp => (hTn p hp).2) hnd2 hw.2.2.2.2.2.2.2.2.1 (by omega) hyn hw.2.2.2.2.2.2.2.2.2.1 (fun w hw' p hp hn => by
              rw [show (wF (wA (wF s1 4 1) 9 l0.length (nI N)) 14 (nI (l0.length + 1))).2 8 N = nI yn from hw.2.2.2.2.2.2.2.2.2.1]
              exact hnmB w hw' p hp hn) hdj hty
            have hI := rI_nwP (x4 := ns.length) (e := fun i => [4 * K + i]) (whC := nI K) hr0 hk (by omega) hw h14 h15 hpt rfl nod.1 (by decide) (fun _ => rfl) (by rw [tnI (by omega)]; exact hzM) (fun z => absurd z (by decide)) (fun _ => nod.2.symm) (fun z => absurd z (by decide)) har
            exact ev_r (lI_out l1) R (show s1.1 0 = 0 from hw.1) (fun _ => up_0) (rI_RI r1 hu' (by omega) hI)
          · have KK := m_Y_make3_8 (E := E) (d := D) (G := G) hF x1' hpT' hX hK q0 hok cA2 (by rw [List.length_map]; exact har) y1 y2 y3
            rw [hl.1] at KK
            refine w_make _ _ 0 (R := Ev E a (D + 41) Y_Model_make [.ref (a + 24), .int (nI X), .int (nI K), .int 0] (LI E a (k + 1))) ha KK (fun v G' hq => (tIs_l hq).elim) (fun C G' hq => Or.inr (refu hl h hk hq (RB G' (Or.inr ?_)) (by decide)))
            rw [eW]
            show ¬ szF u 1 (ns.map tm) ≤ 24
            rw [szF_1]
            exact y3
        · have KK := m_Y_make2_8 (E := E) (d := D) (G := G) hF x1' hpT' hX hK q0 hok cA2 (by rw [List.length_map]; exact har) y1 y2
          rw [hl.1] at KK
          exact w_make _ _ 0 (R := Ev E a (D + 41) Y_Model_make [.ref (a + 24), .int (nI X), .int (nI K), .int 0] (LI E a (k + 1))) ha KK (fun v G' hq => (tIs_l hq).elim) (fun C G' hq => Or.inr (refu hl h hk hq (RB G' (Or.inl (C1.2 (Or.inr y2)))) (by decide)))
theorem k_make_1 (hl : lI E a G c u n sl s fo) (h : RI E a k c u n sl s) (hk : k < 512) {X K TT ar : Nat} (hr : rI E a k P N t0 rt rl T V tm ob pp vv cc c u n sl s) (hX : X < 16) (hK : K < 8) (q0 : tHas (c.2.1 0) (nI X) (nI K)) (T2 : 2 ≤ TT) (T9 : TT ≤ 9) (e0 : P 0 X = nI TT) (hKT : K < TT - 1) (har : ar ≤ 4) (eA : P 1 (8 * X + K) = nI ar) (cA' : c.2.1 1 (8 * X + K) = nI ar) (cG : ∀ i, i < ar → c.2.1 2 (32 * X + 4 * K + i) = P 2 (32 * X + 4 * K + i)) :
    sA E (D + 41) (a + 24) (a + 65) Y_Law_make Y_Model_make [.ref a, .int (nI X), .int (nI K), .int 1, .ref (a + 65)] [.ref (a + 24), .int (nI X), .int (nI K), .int 1] G (LI E a (k + 1)) := by
  obtain ⟨fs, ha⟩ := lI_a hl
  have hF := (RI_f6 hl h).2
  obtain ⟨-, f2, f3, hu⟩ := RI_fit (G := G) h
  obtain ⟨r1, r2, r3, -⟩ := id h
  have hp9 := rI_p9 hr
  have hr0 := hr
  obtain ⟨hP, ty, ⟨h5, hNk, -, -, -, hnd, -⟩, tr, hpi, -⟩ := hr
  have hok := ty_tOk ty
  have hM := (has_iff ty hP).mp q0
  have hpT := pil_T hpi tr
  obtain ⟨x1, x2, x3, x4, x5, x6, x7, x8, x9, -⟩ := hpi
  have hb : vv.length ≤ 40 := by have := x2.2.1; rw [List.length_map] at this; exact this
  have e1 : s.2 1 (rAt (nI X) (nI K)) = nI ar := by rw [rAt_nI hX hK, hP 1 (by omega), eA]
  have R := fun G' => m_W_make (E := E) (d := D + 39) (G := G') (m := a + 24) (n := a + 25) (s := s) (v := 1) (by omega) (by rw [h5]; exact nlt_hi (nI_hi (by omega))) (by rw [h5, tnI (by omega)]; omega) hp9.2.1 hp9.2.2.1 (ty_9 ty.1 hP) (ty_4 ty.1 hP) hp9.2.2.2 (nI X) (nI K)
  obtain ⟨W, hW⟩ : ∃ W, W = rMk (wF s 0 0) 1 (vv.length - ar) (8 * X + K) (rG (nI ar) (nI vv.length)) ar := ⟨_, rfl⟩
  have eM : rMake s (nI X) (nI K) 1 = rMakeT (wF s 0 0) (nI X) (nI K) 1 (nI ar) W.2.1 W.2.2 W.1 (vv.length - ar) := by
    rw [rMake, if_neg (fun z => z hM), e1, rAt_nI hX hK, show rHt s 1 = nI vv.length from x4, tnI (by omega), tnI (by omega), ← hW]
  have eMx : (if (1 : Int32) = 0 then (24 : Int32) else 60) = 60 := by decide
  have RB : ∀ G', (W.1 = 0 ∨ ¬ W.2.1 ≤ 60) → GM E Y_Model_make (D + 41) [.ref (a + 24), .int (nI X), .int (nI K), .int 1] (mW E G' (a + 24) (a + 25) s) (rIs (some (.int 0)) (mW E G' (a + 24) (a + 25) (wF s 0 2))) := fun G' gz => by
    have R := R G'
    rw [eM, rMakeT, eMx, if_pos gz, wF_wF] at R
    exact R
  have i0 : (0 : Int32).toInt = ((0 : Nat) : Int) := by decide
  have i40 : (40 : Int32).toInt = ((40 : Nat) : Int) := by decide
  by_cases q1 : vv.length < ar
  · have KK := m_Y_make0_10 (E := E) (d := D) (G := G) hF x2 hX hK q0 hok cA' har (by rw [List.length_map]; exact q1)
    rw [hl.1] at KK
    refine w_make _ _ 1 (R := Ev E a (D + 41) Y_Model_make [.ref (a + 24), .int (nI X), .int (nI K), .int 1] (LI E a (k + 1))) ha KK (fun v G' hq => (tIs_l hq).elim) (fun C G' hq => Or.inr (refu hl h hk hq (RB G' (Or.inl ?_)) (by decide)))
    rw [hW, show rG (nI ar) (nI vv.length) = 0 from if_pos ((lt_hi (nI_hi (by omega)) (nI_hi (by omega))).mpr q1)]
    exact rMk_0 _
  · obtain ⟨l0, ns, e, hln⟩ := spl (l := vv) (m := ar) (by omega)
    subst e
    subst hln
    have x1' := x2
    have hpT' := hpT.2
    rw [List.map_append] at x1' hpT'
    rw [List.length_append] at hb x4
    rw [List.length_append, Nat.add_sub_cancel] at hW eM
    have cA2 : c.2.1 1 (8 * X + K) = nI (ns.map tm).length := by rw [List.length_map]; exact cA'
    have hTn : ∀ p ∈ ns, T p ∧ p < N ∧ rt p = p ∧ rl p = [] := fun p hp => by
      have := x8 p (List.mem_append_right _ hp)
      have t := tr.2.2.2.2.2.2 p this.1
      exact ⟨t, (tr.1 p t).1, this.2.1, this.2.2⟩
    have nM : ¬ nI (l0.length + ns.length) < nI ns.length := fun z => by
      have := (lt_hi (nI_hi (by omega)) (nI_hi (by omega))).mp z
      omega
    by_cases q2 : ns = [] ∧ l0.length = 40
    · obtain ⟨rfl, q2⟩ := q2
      have KK := m_Y_makeF_10 (E := E) (d := D) (G := G) (n := n) (sl := sl) (tp := []) hu (by omega) (by omega) (by omega) x1' hpT' hX hK q0 hok cA2 (by simp) (show ¬ (1 : Int32) = 0 by decide) rfl (show (0 : Int32) + 1 ≤ 60 by decide) (by rw [List.length_map]; exact q2)
      have ec : cF c 5 (nI (l0.map tm).length) = c := by
        refine Prod.ext (funext fun i => ?_) rfl
        show (if i = 5 then _ else c.1 i) = c.1 i
        split
        · rename_i ei
          rw [ei, x1'.1, List.length_append]
          rfl
        · rfl
      rw [ec, hl.1] at KK
      refine w_make _ _ 1 (R := Ev E a (D + 41) Y_Model_make [.ref (a + 24), .int (nI X), .int (nI K), .int 1] (LI E a (k + 1))) ha KK (fun v G' hq => (tIs_l hq).elim) (fun C G' hq => Or.inr (refuU hl h hk uTm_fr (uTm_ok hu (by omega)) (by omega) (by omega) (by simp) hq (RB G' (Or.inl ?_)) (by decide)))
      rw [hW, show rG (nI ([] : List Nat).length) (nI (l0.length + ([] : List Nat).length)) = 0 from (if_neg nM).trans ((if_neg (by decide)).trans (if_pos (by rw [q2]; decide)))]
      exact rMk_0 _
    · have hl40 : l0.length < 40 := by
        rcases Nat.eq_zero_or_pos ns.length with z | z
        · have : ¬ l0.length = 40 := fun y => q2 ⟨List.length_eq_zero_iff.mp z, y⟩
          omega
        · omega
      have eG : rG (nI ns.length) (nI (l0.length + ns.length)) = 1 := by
        unfold rG
        rw [if_neg nM]
        by_cases z : 0 < ns.length
        · rw [if_pos ((lt_hi i0 (nI_hi (by omega))).mpr z)]
        · rw [if_neg (fun y => z ((lt_hi i0 (nI_hi (by omega))).mp y)), if_neg (fun y => by
            have := (le_hi i40 (nI_hi (n := l0.length + ns.length) (by omega))).mp y
            omega)]
      have eL : W = rML (wF s 0 0) (8 * X + K) 0 (1, 1, 0) ns := by
        have := rMk_L (s := wF s 0 0) (v := 1) (b := l0.length) (A := 8 * X + K) (g0 := 1) (ns := ns) (fun i p hi => by
          have hpN := (hTn p (List.mem_of_getElem? hi)).2.1
          have e9 := x6 (l0.length + i) p (by rw [List.getElem?_append_right (by omega), Nat.add_sub_cancel_left]; exact hi)
          show tn (s.2 10 (l0.length + i)) = p
          rw [hP 10 (by omega), e9, tnI (by omega)]) ns.length (Nat.le_refl _)
        rw [List.take_length] at this
        rw [hW, eG, this]
      have C1 := rML_c (s := wF s 0 0) (u := u) (tm := tm) (A := 8 * X + K) (B := 32 * X + 4 * K) (g := c.2.1 2) (ns := ns) (fun p hp => by
        obtain ⟨pT, pN, -⟩ := hTn p hp
        have y := tr.2.2.1 p pT
        show s.2 4 p = _ ∧ s.2 8 p = _ ∧ s.2 7 p = _
        rw [hP 4 (by omega), hP 8 (by omega), hP 7 (by omega), (tr.2.1 p pT).2.2.1, y.2.1, y.2.2]
        exact ⟨rfl, rfl, rfl⟩) ns 0 1 0 (fun _ z => z) (fun j hj => by
        show s.2 2 (4 * (8 * X + K) + (0 + j)) = _
        rw [hP 2 (by omega), cG _ (by omega)]
        rw [show 4 * (8 * X + K) + (0 + j) = 32 * X + 4 * K + (0 + j) by omega])
      rw [Nat.add_zero, ← eL] at C1
      have hsz := szF_N (u := u) (P := P) (tm := tm) ns 1 (fun p hp => by
        obtain ⟨pT, pN, -⟩ := hTn p hp
        obtain ⟨-, ⟨z, z1, z2, ez⟩, -⟩ := hnd p pN
        refine ⟨(tr.2.2.1 p pT).2.1, ?_, ?_⟩
        · rw [ez, tnI (by omega)]
        · rw [ez, tnI (by omega)]
          exact z2) (by omega)
      replace hsz : szF u 1 (ns.map tm) = nI (1 + szN P ns) ∧ szN P ns ≤ 60 * ns.length := hsz
      by_cases y1 : arF u (c.2.1 2) (ns.map tm) (32 * X + 4 * K) = 0
      · have KK := m_Y_make1_10 (E := E) (d := D) (G := G) hF x1' hpT' hX hK q0 hok cA2 (by rw [List.length_map]; exact har) y1
        rw [hl.1] at KK
        exact w_make _ _ 1 (R := Ev E a (D + 41) Y_Model_make [.ref (a + 24), .int (nI X), .int (nI K), .int 1] (LI E a (k + 1))) ha KK (fun v G' hq => (tIs_l hq).elim) (fun C G' hq => Or.inr (refu hl h hk hq (RB G' (Or.inl (C1.2 (Or.inl y1)))) (by decide)))
      · by_cases y2 : shF u 0 (ns.map tm) = 0
        · have eW := C1.1 y1 y2
          by_cases y3 : szF u 0 (ns.map tm) + 1 ≤ 60
          · have KK := m_Y_make_10 (E := E) (d := D) (G := G) (n := n) (sl := sl) hu (by omega) (by omega) (by omega) x1' hpT' hX hK q0 hok cA2 (by rw [List.length_map]; exact har) y1 y2 y3 (by rw [List.length_map]; exact hl40)
            rw [hl.1, List.length_map, List.length_map] at KK
            refine w_make _ _ 1 (R := Ev E a (D + 41) Y_Model_make [.ref (a + 24), .int (nI X), .int (nI K), .int 1] (LI E a (k + 1))) ha KK (fun v G' hq => ?_) (fun C G' hq => by cases hq.1)
            obtain ⟨e3, c', rfl, hpt⟩ := hq
            cases e3
            rw [← szF_1, hsz.1] at y3
            have hzM : 1 + szN P ns ≤ 60 := (le_hi (nI_hi (by omega)) (show (60 : Int32).toInt = ((60 : Nat) : Int) by decide)).mp y3
            obtain ⟨yn, hyn, eyn⟩ := nmF_256 (u := u) (tm := tm) ns 0 (by omega) (fun p hp => by
              obtain ⟨pT, pN, -⟩ := hTn p hp
              obtain ⟨-, -, ⟨x, hx, ex⟩, -⟩ := hnd p pN
              exact ⟨x, hx, by rw [(tr.2.2.1 p pT).2.2]; exact ex⟩)
            replace eyn : nmF u 0 (ns.map tm) = nI yn := eyn
            have hnmB : ∀ w, w < 8 → ∀ p ∈ ns, nmB (P 8 p) w → nmB (nI yn) w := fun w hw p hp hn => by
              rw [← eyn, nmF_nm hw]
              exact Or.inr ⟨p, hp, by rw [(tr.2.2.1 p (hTn p hp).1).2.2]; exact hn⟩
            have hdj : ∀ w, w < 8 → ∀ (i j p q : Nat), i < j → ns[i]? = some p → ns[j]? = some q → nmB (P 8 p) w → ¬ nmB (P 8 q) w := fun w hw i j p q hij hi hj hn => by
              have := (shF_all hw ns 0 y2).2 i j p q hij hi hj
              rw [(tr.2.2.1 p (hTn p (List.mem_of_getElem? hi)).1).2.2, (tr.2.2.1 q (hTn q (List.mem_of_getElem? hj)).1).2.2] at this
              exact this hn
            have hty : ∀ i p, ns[i]? = some p → P 4 p = P 2 (32 * X + 4 * K + i) := fun i p hi => by
              rw [← cG i (List.getElem?_eq_some_iff.mp hi).1, ← arF_all ns _ y1 i p hi, (tr.2.1 p (hTn p (List.mem_of_getElem? hi)).1).2.2.1]
            rw [hsz.1, eyn] at eW ⊢
            have hu' : ∀ q, q < a + 66 → (uTm u n (nI X) 1 (nI K) (nI (1 + szN P ns)) (nI yn) (ns.map tm)).1 q = 0 := fun q hq => (uTm_o (Or.inl (by omega))).1.trans (r2 q hq)
            have l1 := lI_cl (c' := c') (u' := uTm u n (nI X) 1 (nI K) (nI (1 + szN P ns)) (nI yn) (ns.map tm)) (n' := n + 2) (sl' := sl + 7 + ns.length) hl hu' (by omega)
            refine ⟨_, fo, rfl, l1.2.2.1, ?_⟩
            have R := R (gUp (yW E G a c' (uTm u n (nI X) 1 (nI K) (nI (1 + szN P ns)) (nI yn) (ns.map tm)) (n + 2) (sl + 7 + ns.length)) (a + 65) (gAJ E 1 (vp_updL fo 0 (nI (l0.length + 1)).toInt64)))
            obtain ⟨hw, h14, h15⟩ := nw_make_1 (s := s) (ns := ns) (X := X) (K := K) (L := l0.length) (z := nI (1 + szN P ns)) (e := nI yn) h5 (by omega) (fun i p hi => by
              rw [hP 10 (by omega)]
              exact x6 (l0.length + i) p (by rw [List.getElem?_append_right (by omega), Nat.add_sub_cancel_left]; exact hi)) x4 hb
            have ngood : ¬ (W.1 = 0 ∨ ¬ W.2.1 ≤ 60) := by
              rw [eW]
              rintro (z | z)
              · exact absurd (show (1 : Int32) = 0 from z) (by decide)
              · exact z y3
            rw [eM, rMakeT, eMx, if_neg ngood, eW] at R
            dsimp only at R
            rw [push_v (N := N) (x := (wF s 0 0).1 5 + 1 - 1) h14 (by omega) (n_ss (x := (wF s 0 0).1 5) h5 (by omega))] at R
            have eh : rHt (rMkD (wF s 0 0) (nI X) (nI K) 1 (nI ns.length) (nI (1 + szN P ns)) (nI yn) l0.length) 1 + 1 = nI (l0.length + 1) := by
              show (rMkD (wF s 0 0) (nI X) (nI K) 1 (nI ns.length) (nI (1 + szN P ns)) (nI yn) l0.length).1 15 + 1 = _
              rw [h14]
              exact nI_ad (by omega)
            rw [eh] at R
            have hnd2 : ns.Nodup := (List.nodup_append.mp (List.nodup_append.mp (List.nodup_append.mp x9).2.1).1).2.1
            generalize rMkD (wF s 0 0) (nI X) (nI K) 1 (nI ns.length) (nI (1 + szN P ns)) (nI yn) l0.length = s1 at R hw h14 h15
            have nod := nod_make (P := P) (P' := (wF (wA (wF s1 4 1) 10 l0.length (nI N)) 15 (nI (l0.length + 1))).2) (ns := ns) (rt := rt) (rl := rl) (N := N) (by omega) hX hKT T2 T9 e0 eA har rfl ((hw.2.2.2.1 0 (by omega) (by omega) (by omega) (by omega) (by omega) (by omega)).trans (hP 0 (by omega))) ((hw.2.2.2.1 1 (by omega) (by omega) (by omega) (by omega) (by omega) (by omega)).trans (hP 1 (by omega))) ((hw.2.2.2.1 2 (by omega) (by omega) (by omega) (by omega) (by omega) (by omega)).trans (hP 2 (by omega))) (fun i hi => by
              obtain ⟨j3, j4, j5, j7, j8⟩ := hw.2.2.2.2.1 i (by omega)
              exact ⟨j4.trans (congrFun (hP 4 (by omega)) i), j7.trans (congrFun (hP 7 (by omega)) i), j8.trans (congrFun (hP 8 (by omega)) i)⟩) hw.2.2.2.2.2.1 hw.2.2.2.2.2.2.1 hw.2.2.2.2.2.2.2.1 hw.2.2.2.2.2.2.2.2.2.2.2 (fun p hp => (hTn p hp).2) hnd2 hw.2.2.2.2.2.2.2.2.1 (by omega) hyn hw.2.2.2.2.2.2.2.2.2.1 (fun w hw' p hp hn => by
              rw [show (wF (wA (wF s1 4 1) 10 l0.length (nI N)) 15 (nI (l0.length + 1))).2 8 N = nI yn from hw.2.2.2.2.2.2.2.2.2.1]
              exact hnmB w hw' p hp hn) hdj hty
            have hI := rI_nwV (x4 := ns.length) (e := fun i => [4 * K + i]) hr0 hk (by omega) hw h15 h14 hpt rfl nod.1 (Or.inr rfl) (fun _ => nod.2.symm) (fun z => absurd z (by decide)) har
            exact ev_r (lI_out l1) R (show s1.1 0 = 0 from hw.1) (fun _ => up_0) (rI_RI r1 hu' (by omega) hI)
          · have KK := m_Y_make3_10 (E := E) (d := D) (G := G) hF x1' hpT' hX hK q0 hok cA2 (by rw [List.length_map]; exact har) y1 y2 y3
            rw [hl.1] at KK
            refine w_make _ _ 1 (R := Ev E a (D + 41) Y_Model_make [.ref (a + 24), .int (nI X), .int (nI K), .int 1] (LI E a (k + 1))) ha KK (fun v G' hq => (tIs_l hq).elim) (fun C G' hq => Or.inr (refu hl h hk hq (RB G' (Or.inr ?_)) (by decide)))
            rw [eW]
            show ¬ szF u 1 (ns.map tm) ≤ 60
            rw [szF_1]
            exact y3
        · have KK := m_Y_make2_10 (E := E) (d := D) (G := G) hF x1' hpT' hX hK q0 hok cA2 (by rw [List.length_map]; exact har) y1 y2
          rw [hl.1] at KK
          exact w_make _ _ 1 (R := Ev E a (D + 41) Y_Model_make [.ref (a + 24), .int (nI X), .int (nI K), .int 1] (LI E a (k + 1))) ha KK (fun v G' hq => (tIs_l hq).elim) (fun C G' hq => Or.inr (refu hl h hk hq (RB G' (Or.inl (C1.2 (Or.inr y2)))) (by decide)))
theorem k_make (hl : lI E a G c u n sl s fo) (h : RI E a k c u n sl s) (hk : k < 512) : s_make E (D + 41) a (a + 24) (a + 65) G (LI E a (k + 1)) := by
  intro p0 p1 p2 hp2
  obtain ⟨fs, ha⟩ := lI_a hl
  have hF := (RI_f6 hl h).2
  obtain ⟨r1, r2, r3, P, N, t0, rt, rl, T, V, tm, ob, pp, vv, cc, hr⟩ := id h
  have hp9 := rI_p9 hr
  have hr0 := hr
  obtain ⟨hP, ty, ⟨h5, hNk, -⟩, -⟩ := hr
  by_cases q0 : tHas (c.2.1 0) p0 p1
  · obtain ⟨X, K, TT, hX, hK, rfl, rfl, T2, T9, e0, hKT, ar, har, eA, cA', cG⟩ := has_at ty q0
    rcases hp2 with rfl | rfl
    · exact k_make_0 hl h hk hr0 hX hK q0 T2 T9 e0 hKT har eA cA' cG
    · exact k_make_1 hl h hk hr0 hX hK q0 T2 T9 e0 hKT har eA cA' cG
  · have K := m_X_make_no (E := E) (d := D + 30) (G := zW E G u n sl) (a := a) (c := c) hF p0 p1 p2 q0
    replace K : GM E Y_Mill_make (D + 40) [.ref a, .int p0, .int p1, .int p2] (yW E G a c u n sl) (tIs "java/lang/IllegalArgumentException" (yW E G a c u n sl)) := K
    rw [hl.1] at K
    refine w_make p0 p1 p2 (R := Ev E a (D + 41) Y_Model_make [.ref (a + 24), .int p0, .int p1, .int p2] (LI E a (k + 1))) ha K (fun v G' hq => (tIs_l hq).elim) (fun C G' hq => Or.inl ?_)
    have hh : ¬ rHt s p2 < 0 ∧ rHt s p2 ≤ 40 ∧ ∀ k, k < tn (rHt s p2) → ¬ rPl s p2 k < 0 ∧ tn (rPl s p2 k) < 700 := by
      rcases hp2 with rfl | rfl
      · exact hp9.1
      · exact hp9.2
    have R := m_W_make (E := E) (d := D + 39) (G := G') (m := a + 24) (n := a + 25) (s := s) (v := p2) (by omega) (by rw [h5]; exact nlt_hi (nI_hi (by omega))) (by rw [h5, tnI (by omega)]; omega) hh.1 hh.2.1 (ty_9 ty.1 hP) (ty_4 ty.1 hP) hh.2.2 p0 p1
    rw [rMake, if_pos (fun z => q0 ((has_iff ty hP).mpr z))] at R
    exact refu hl h hk hq R (by decide)
end OA
