/-! The reference's build: the tree -/
section BQ
variable {E : gE} {d : Nat} {G G0 : gS} {m n : Nat} {s s' : mS} {Q : gO → gS → Prop} {P : Nat → Nat → Int32} {N X X' t0 C : Nat} {pl pl' pos : Nat → List Nat} {an : aAn} {st : aSt}
theorem wF_ne {k i : Nat} {x : Int32} (h : i ≠ k) : (wF s k x).1 i = s.1 i := up_ne h
theorem wF_at {k : Nat} {x : Int32} : (wF s k x).1 k = x := up_at
theorem max_if {a b : Nat} (ha : a < 2 ^ 31) (hb : b < 2 ^ 31) : (if nI a < nI b then nI b else nI a) = nI (max a b) := by
  by_cases h : a < b
  · rw [if_pos ((lt_hi (nI_hi ha) (nI_hi hb)).mpr h), Nat.max_eq_right (by omega)]
  · rw [if_neg (fun q => h ((lt_hi (nI_hi ha) (nI_hi hb)).mp q)), Nat.max_eq_left (by omega)]
/-- the row's first wish -/
theorem row_first {first : Nat} {A : pRow} (h : hP s pl X first A) (hl : A.2.1.length ≤ 26) : s.2 26 first = nI A.1 ∧ s.2 27 first = nI A.2.1.length ∧ ∀ q r, A.2.1 = q :: r → ∃ p, p < X ∧ s.2 28 (26 * first) = nI p ∧ pl p = q.1 := by
  obtain ⟨ws, bd, hh, ew, -, wX, -⟩ := h
  have lw : ws.length = A.2.1.length := by rw [ew, List.length_map]
  refine ⟨hh.1, by rw [hh.2.1, lw], fun q r e => ?_⟩
  cases ws with
  | nil => rw [ew] at e; cases e
  | cons y t =>
    rw [ew, List.map_cons] at e
    have e1 := (List.cons.inj e).1
    refine ⟨y.1, wX y List.mem_cons_self, (hh.2.2.1 0 y rfl).1, ?_⟩
    rw [← e1]
theorem explore (hmn : m < n) (wf : wfA P N pos) (wk : wfK P N) (ht0 : t0 < 16) (hNC : N + C ≤ 511) (hC20 : C ≤ 20) (h0 : ∀ t, tn (P 0 t) ≤ 9) (hAr : ∀ π w, ¬ P 0 (tyP P t0 π) ≤ 1 → w < tn (P 0 (tyP P t0 π)) - 1 → ∃ a, a ≤ 4 ∧ P 1 (8 * tyP P t0 π + w) = nI a) : ∀ (f : Nat), f ≤ 1000 → eXp E d G G0 m n Q P N t0 pos C f := by
  have bN := wf.1.1
  intro f
  induction f with
  | zero =>
    intro _ L first up via way an st W Dr D s pl X hfu hD hway hWd
    have bW := nd_le hWd.1 (fun π h => (hWd.2.1 π h).1)
    have bDr := nd_leN hWd.2.2.1 hWd.2.2.2.1
    omega
  | succ f ih =>
    intro bf L first up via way an st W Dr D s pl X hfu hD hway hWd hL hok he hr hL80 hvr g31 g32 hpar hfi hB K1 K2
    have bW := nd_le hWd.1 (fun π h => (hWd.2.1 π h).1)
    have bDr := nd_leN hWd.2.2.1 hWd.2.2.2.1
    obtain ⟨e1, e2, e3, e4, e5⟩ := id he
    have bX := plOk_X e2
    obtain ⟨B1, B2, B3, B4⟩ := id hB
    have r22 := e4.2.2.1
    have r23 := e4.2.2.2.2.2.2.2.1
    have elm : (if s.1 23 < nI way then nI way else s.1 23) = nI (max st.2.2.2.2.2.2.1 way) := by
      rw [r23]
      exact max_if (by omega) (by omega)
    have len26 : ∀ A ∈ L, A.2.1.length ≤ 26 := fun A hA => by have := rOk_len wf (hL A hA).1; omega
    -- the step's question is none
    have fr33 : ∀ (t : mS), (∀ j, j ≠ 33 → t.2 j = s.2 j) → (∀ i, i ≠ D → t.2 33 i = s.2 33 i) → (∀ k, k < 20 ∨ (26 < k ∧ k ≠ 34 ∧ k ≠ 46 ∧ k ≠ 47) → t.1 k = s.1 k) → fX s t D (first + L.length) := fun t h1 h2 h3 => by
      refine ⟨fun j hj => h1 j (by omega), h3, fun R _ => ?_, fun i hi j h4 h5 => ?_⟩
      · unfold sR
        rw [h1 26 (by decide), h1 27 (by decide), h1 28 (by decide), h1 29 (by decide), h1 30 (by decide)]
        exact ⟨rfl, rfl, fun _ _ => ⟨rfl, rfl⟩, fun _ _ => rfl⟩
      · by_cases e : j = 33
        · subst e; exact h2 i (by omega)
        · rw [h1 j e]
    cases L with
    | nil =>
      -- no rows
      have g32' : s.2 32 D = nI 0 := g32
      refine m_W_b_l hmn (D := D) (A := first) (K := 0) (by omega) e5 g31 g32' (by omega) (by omega) (Or.inl rfl) ?_
      rw [elm]
      have aBe : aB P t0 (f + 1) [] up via way an st = some (stF P t0 an way st) := rfl
      have x22 : (wF (wA s 33 D (-1)) 23 (nI (max st.2.2.2.2.2.2.1 way))).1 22 = nI st.2.2.1 := by
        rw [wF_ne (by decide)]
        exact r22
      by_cases hf : st.2.2.1 = 0
      · -- the first that fails
        refine m_W_b_f1 hmn (by rw [x22, hf]; rfl) ?_
        rw [x22, nI_1]
        have u25 : (wF (wF (wA s 33 D (-1)) 23 (nI (max st.2.2.2.2.2.2.1 way))) 22 (nI (st.2.2.1 + 1))).1 25 = 0 := by
          rw [wF_ne (by decide), wF_ne (by decide)]
          exact e4.2.2.2.2.1 hf
        have dk : dOk P t0 an 26 [] := dOk_all (W := W) (fun π z => ⟨hWd.2.2.2.2 π z, (hWd.2.1 π (hWd.2.2.2.2 π z)).2.1⟩) 26 [] (by simp) (by simp)
        have bd : (aT P t0 an 26 []).length ≤ 4700 := aT_bound (N := N) (pos := pos) hok bN (fun π z => (hWd.2.1 π (hWd.2.2.2.2 π z)).1) 26 []
        have K := m_W_tellMissing (E := E) (d := d + 4) (G := G) (m := m) (n := n) (s := wF (wF (wA s 33 D (-1)) 23 (nI (max st.2.2.2.2.2.2.1 way))) 22 (nI (st.2.2.1 + 1))) (P := P) (N := N) (pos := pos) (pl := pl) (X := X) (an := an) (t0 := t0) hmn bN (e1 1 (by omega)) hok e2 e3 u25 dk bd
        refine c_V (as := []) kv_Model_tellMissing ml_Model_249 rfl mw_f K rfl (Nat.le_of_ble_eq_true rfl) rfl d_Model_build_245 (fun v G' hq => ?_) (fun Cx G' hq => absurd hq.1 (by simp))
        obtain ⟨ho, s2, rfl, hT, h25, htl⟩ := hq
        cases ho
        show GT E Y_Model_build (d + 5) G0 248 [(0, .ref m), (1, .int (nI D)), (2, .int (nI way)), (3, .int 1), (4, .int 0), (5, .int (nI first)), (6, .int (nI 0))] [] (mW E G m n s2) Q
        have k47 : s2.1 47 = 0 := by
          rw [hT.2 47 (by decide)]
          rw [wF_ne (by decide), wF_ne (by decide)]
          exact e5
        have k33 : s2.2 33 D = -1 := by
          rw [hT.1 33 (by decide) (by decide)]
          show upd (s.2 33) D (-1) D = _
          exact up_at
        have kj : ∀ j, j ≠ 13 → j ≠ 33 → j ≠ 36 → s2.2 j = s.2 j := fun j h1 h2 h3 => by
          rw [hT.1 j h1 h3]
          unfold wF wA wR upA
          dsimp only
          simp only [h2, if_false]
        have kf : ∀ k, k ≠ 22 → k ≠ 23 → k ≠ 25 → s2.1 k = s.1 k := fun k h1 h2 h3 => by
          rw [hT.2 k h3]
          rw [wF_ne h1, wF_ne h2]
          rfl
        refine m_W_b_f2 hmn (m_W_b_up hmn (by omega) k47 k33 ?_)
        refine K1 s2 pl X _ aBe ?_ (fun _ _ => rfl) (Nat.le_refl _) ⟨fun j hj => (kj j (by omega) (by omega) (by omega)).trans (e1 j hj), ?_, ?_, ?_, k47⟩
        · refine ⟨fun j hj => kj j (by omega) (by omega) (by omega), fun k hk => kf k (by omega) (by omega) (by omega), fun R _ => ?_, fun i hi j h1 h2 => ?_⟩
          · unfold sR
            rw [kj 26 (by decide) (by decide) (by decide), kj 27 (by decide) (by decide) (by decide), kj 28 (by decide) (by decide) (by decide), kj 29 (by decide) (by decide) (by decide), kj 30 (by decide) (by decide) (by decide)]
            exact ⟨rfl, rfl, fun _ _ => ⟨rfl, rfl⟩, fun _ _ => rfl⟩
          · by_cases e : j = 33
            · subst e
              rw [hT.1 33 (by decide) (by decide)]
              show upd (s.2 33) D (-1) i = _
              exact up_ne (by omega)
            · rw [kj j (by omega) e (by omega)]
        · unfold plOk at e2 ⊢
          rw [kj 20 (by decide) (by decide) (by decide), kj 21 (by decide) (by decide) (by decide), kj 22 (by decide) (by decide) (by decide), kf 34 (by decide) (by decide) (by decide)]
          exact e2
        · unfold anS at e3 ⊢
          rw [kj 23 (by decide) (by decide) (by decide), kj 24 (by decide) (by decide) (by decide)]
          exact e3
        · obtain ⟨a1, a2, a3, a4, a5, a6, a7, a8, a9⟩ := e4
          refine ⟨by rw [kf 20 (by decide) (by decide) (by decide)]; exact a1, by rw [kf 21 (by decide) (by decide) (by decide)]; exact a2, ?_, by rw [kf 24 (by decide) (by decide) (by decide)]; exact a4, fun z => absurd z (by show ¬ st.2.2.1 + 1 = 0; omega), fun _ => ?_, by rw [kf 26 (by decide) (by decide) (by decide)]; exact a7, ?_, ?_⟩
          · rw [hT.2 22 (by decide)]
            exact wF_at
          · have em : (stF P t0 an way st).2.2.2.2.1 = aT P t0 an 26 [] := if_pos hf
            rw [em]
            exact ⟨h25, htl⟩
          · rw [hT.2 23 (by decide)]
            rw [wF_ne (by decide), wF_at]
            rfl
          · rw [kj 14 (by decide) (by decide) (by decide), kj 15 (by decide) (by decide) (by decide), kj 16 (by decide) (by decide) (by decide), kj 17 (by decide) (by decide) (by decide), kj 18 (by decide) (by decide) (by decide), kj 19 (by decide) (by decide) (by decide)]
            exact a9
      · -- not the first
        refine m_W_b_f hmn (by rw [x22, nI_1]; exact nI_ne (b := 1) (by omega) (by omega) (by omega)) ?_
        rw [x22, nI_1]
        have kj : ∀ j, j ≠ 33 → (wF (wF (wA s 33 D (-1)) 23 (nI (max st.2.2.2.2.2.2.1 way))) 22 (nI (st.2.2.1 + 1))).2 j = s.2 j := fun j h2 => by
          unfold wF wA wR upA
          dsimp only
          simp only [h2, if_false]
        have kf : ∀ k, k ≠ 22 → k ≠ 23 → (wF (wF (wA s 33 D (-1)) 23 (nI (max st.2.2.2.2.2.2.1 way))) 22 (nI (st.2.2.1 + 1))).1 k = s.1 k := fun k h1 h2 => by
          rw [wF_ne h1, wF_ne h2]
          rfl
        refine m_W_b_up hmn (by omega) (by rw [kf 47 (by decide) (by decide)]; exact e5) (by show upd (s.2 33) D (-1) D = _; exact up_at) ?_
        refine K1 _ pl X _ aBe (fr33 _ kj (fun i hi => by show upd (s.2 33) D (-1) i = _; exact up_ne hi) (fun k hk => kf k (by omega) (by omega))) (fun _ _ => rfl) (Nat.le_refl _) ⟨fun j hj => (kj j (by omega)).trans (e1 j hj), e2, e3, ?_, by rw [kf 47 (by decide) (by decide)]; exact e5⟩
        obtain ⟨a1, a2, a3, a4, a5, a6, a7, a8, a9⟩ := e4
        refine ⟨a1, a2, ?_, a4, fun z => absurd z (by show ¬ st.2.2.1 + 1 = 0; omega), fun _ => ?_, a7, ?_, a9⟩
        · exact wF_at
        · have em : (stF P t0 an way st).2.2.2.2.1 = st.2.2.2.2.1 := if_neg hf
          rw [em]
          exact a6 hf
        · rw [wF_ne (by decide), wF_at]
          rfl
    | cons A r =>
      have hA := hL A List.mem_cons_self
      have rowA := row_first (hr 0 A rfl) (by have := rOk_len wf hA.1; omega)
      rw [Nat.add_zero] at rowA
      obtain ⟨rA1, rA2, rA3⟩ := rowA
      cases hA1 : A.2.1 with
      | nil =>
        -- a leaf
        have z27 : s.2 27 first = 0 := by rw [rA2, hA1]; rfl
        refine m_W_b_l hmn (D := D) (A := first) (K := (A :: r).length) (by omega) e5 g31 g32 (by omega) (by omega) (Or.inr z27) ?_
        rw [elm]
        have kj : ∀ j, j ≠ 33 → (wF (wA s 33 D (-1)) 23 (nI (max st.2.2.2.2.2.2.1 way))).2 j = s.2 j := fun j h2 => by
          unfold wF wA wR upA
          dsimp only
          simp only [h2, if_false]
        have kf : ∀ k, k ≠ 23 → (wF (wA s 33 D (-1)) 23 (nI (max st.2.2.2.2.2.2.1 way))).1 k = s.1 k := fun k h2 => by
          exact wF_ne h2
        have k23 : (wF (wA s 33 D (-1)) 23 (nI (max st.2.2.2.2.2.2.1 way))).1 23 = nI (max st.2.2.2.2.2.2.1 way) := by
          exact wF_at
        have k33 : (wF (wA s 33 D (-1)) 23 (nI (max st.2.2.2.2.2.2.1 way))).2 33 D = -1 := by
          show upd (s.2 33) D (-1) D = _
          exact up_at
        have k33' : ∀ i, i ≠ D → (wF (wA s 33 D (-1)) 23 (nI (max st.2.2.2.2.2.2.1 way))).2 33 i = s.2 33 i := fun i hi => by
          show upd (s.2 33) D (-1) i = _
          exact up_ne hi
        generalize wF (wA s 33 D (-1)) 23 (nI (max st.2.2.2.2.2.2.1 way)) = s1 at kj kf k23 k33 k33' ⊢
        have c26 : s1.2 26 first = nI A.1 := by rw [kj 26 (by decide)]; exact rA1
        have c27 : s1.2 27 first = 0 := by rw [kj 27 (by decide)]; exact z27
        have c12 : s1.2 12 A.1 = P 12 A.1 := by rw [kj 12 (by decide), e1 12 (by omega)]
        have hAC := hA.2.1
        -- the state behind the take
        have rsT : ∀ (t : mS), (∀ k, k ≠ 21 → k ≠ 24 → 20 ≤ k → k ≤ 26 → t.1 k = s1.1 k) → t.1 21 = s1.1 21 + 1 → t.1 24 = (s1.1 24 ||| 1 <<< (nI A.1 &&& 31)) → (∀ j, 13 ≤ j → j ≤ 19 → t.2 j = s1.2 j) → rS P t0 t (stT A.1 way st) := fun t h1 h2 h3 h4 => by
          obtain ⟨a1, a2, a3, a4, a5, a6, a7, a8, a9⟩ := e4
          have f : ∀ k, k ≠ 21 → k ≠ 24 → k ≠ 23 → 20 ≤ k → k ≤ 26 → t.1 k = s.1 k := fun k q1 q2 q3 q4 q5 => (h1 k q1 q2 q4 q5).trans (kf k q3)
          have g : ∀ j, 13 ≤ j → j ≤ 19 → t.2 j = s.2 j := fun j q1 q2 => (h4 j q1 q2).trans (kj j (by omega))
          refine ⟨by rw [f 20 (by decide) (by decide) (by decide) (by decide) (by decide)]; exact a1, ?_, by rw [f 22 (by decide) (by decide) (by decide) (by decide) (by decide)]; exact a3, ?_, by rw [f 25 (by decide) (by decide) (by decide) (by decide) (by decide)]; exact a5, fun z => ?_, by rw [f 26 (by decide) (by decide) (by decide) (by decide) (by decide)]; exact a7, ?_, ?_⟩
          · rw [h2, kf 21 (by decide), a2]
            exact nI_1 _
          · rw [h3, kf 24 (by decide), a4]
            rfl
          · obtain ⟨q1, q2⟩ := a6 z
            refine ⟨by rw [f 25 (by decide) (by decide) (by decide) (by decide) (by decide)]; exact q1, ?_⟩
            unfold tld
            rw [g 13 (by decide) (by decide)]
            exact q2
          · rw [h1 23 (by decide) (by decide) (by decide) (by decide), k23]
            rfl
          · rw [g 14 (by decide) (by decide), g 15 (by decide) (by decide), g 16 (by decide) (by decide), g 17 (by decide) (by decide), g 18 (by decide) (by decide), g 19 (by decide) (by decide)]
            exact a9
        by_cases hg : P 12 A.1 = 0
        · refine m_W_b_t hmn (A := first) (K := (A :: r).length) (c := A.1) c26 (by omega) (by simp) (by omega) (by omega) c27 (by rw [c12]; exact hg) ?_
          have t47 : (wF (wF s1 21 (s1.1 21 + 1)) 24 (s1.1 24 ||| 1 <<< (nI A.1 &&& 31))).1 47 = 0 := by
            rw [wF_ne (by decide), wF_ne (by decide), kf 47 (by decide)]
            exact e5
          refine m_W_b_up hmn (by omega) t47 k33 ?_
          refine K1 _ pl X (stT A.1 way st) ?_ (fr33 _ kj k33' (fun k hk => ?_)) (fun _ _ => rfl) (Nat.le_refl _) ⟨fun j hj => (kj j (by omega)).trans (e1 j hj), ?_, ?_, rsT _ (fun k q1 q2 _ _ => ?_) ?_ ?_ (fun _ _ _ => rfl), t47⟩
          · simp only [aB]
            rw [hA1]
            exact if_pos hg
          · rw [wF_ne (by omega), wF_ne (by omega)]
            exact kf k (by omega)
          · unfold plOk at e2 ⊢
            rw [wF_ne (by decide), wF_ne (by decide), kf 34 (by decide)]
            show (s.1 34 = _ ∧ 1 ≤ X ∧ pl 0 = [] ∧ (∀ p, p < X → s1.2 21 p = _ ∧ s1.2 20 p = _ ∧ ∀ e, e < 32 → s1.2 22 (32 * p + e) = 0 ∨ ∃ p', 0 < p' ∧ p' < X ∧ s1.2 22 (32 * p + e) = nI p' ∧ pl p' = pl p ++ [e]) ∧ _ ∧ ∀ p', 0 < p' → p' < X → (∃ v, v < N ∧ pos v = pl p') ∧ ∃ p e, p < p' ∧ e < 32 ∧ pl p' = pl p ++ [e] ∧ s1.2 22 (32 * p + e) = nI p')
            rw [kj 20 (by decide), kj 21 (by decide), kj 22 (by decide)]
            exact e2
          · unfold anS at e3 ⊢
            show (∀ p, p < X → s1.2 23 p = _ ∧ (_ → s1.2 24 p = _)) ∧ _
            rw [kj 23 (by decide), kj 24 (by decide)]
            exact e3
          · rw [wF_ne q2, wF_ne q1]
          · rw [wF_ne (by decide), wF_at]
          · exact wF_at
        · -- it is guarded
          refine m_W_b_g hmn (A := first) (K := (A :: r).length) (c := A.1) c26 (by omega) (by simp) (by omega) (by omega) c27 (by rw [c12]; exact hg) ?_
          have esum : nI first + nI (A :: r).length = nI (first + (A :: r).length) := i_nI (add_hi (nI_hi (by omega)) (nI_hi (by omega)) (by omega))
          rw [esum]
          have tj : ∀ j, (wF (wF (wF s1 21 (s1.1 21 + 1)) 24 (s1.1 24 ||| 1 <<< (nI A.1 &&& 31))) 46 (nI (first + (A :: r).length))).2 j = s1.2 j := fun j => rfl
          have tf : ∀ k, k ≠ 21 → k ≠ 24 → k ≠ 46 → (wF (wF (wF s1 21 (s1.1 21 + 1)) 24 (s1.1 24 ||| 1 <<< (nI A.1 &&& 31))) 46 (nI (first + (A :: r).length))).1 k = s1.1 k := fun k q1 q2 q3 => by
            rw [wF_ne q3, wF_ne q2, wF_ne q1]
          have t21 : (wF (wF (wF s1 21 (s1.1 21 + 1)) 24 (s1.1 24 ||| 1 <<< (nI A.1 &&& 31))) 46 (nI (first + (A :: r).length))).1 21 = s1.1 21 + 1 := by
            rw [wF_ne (by decide), wF_ne (by decide), wF_at]
          have t24 : (wF (wF (wF s1 21 (s1.1 21 + 1)) 24 (s1.1 24 ||| 1 <<< (nI A.1 &&& 31))) 46 (nI (first + (A :: r).length))).1 24 = (s1.1 24 ||| 1 <<< (nI A.1 &&& 31)) := by
            rw [wF_ne (by decide), wF_at]
          have t46 : (wF (wF (wF s1 21 (s1.1 21 + 1)) 24 (s1.1 24 ||| 1 <<< (nI A.1 &&& 31))) 46 (nI (first + (A :: r).length))).1 46 = nI (first + (A :: r).length) := wF_at
          generalize wF (wF (wF s1 21 (s1.1 21 + 1)) 24 (s1.1 24 ||| 1 <<< (nI A.1 &&& 31))) 46 (nI (first + (A :: r).length)) = s2 at tj tf t21 t24 t46 ⊢
          have j2 : ∀ j, j ≠ 33 → s2.2 j = s.2 j := fun j h => (tj j).trans (kj j h)
          have R2 : ∀ R, sR s s2 R := fun R => by
            unfold sR
            rw [j2 26 (by decide), j2 27 (by decide), j2 28 (by decide), j2 29 (by decide), j2 30 (by decide)]
            exact ⟨rfl, rfl, fun _ _ => ⟨rfl, rfl⟩, fun _ _ => rfl⟩
          have hr2 : hPs s2 pl X first (A :: r) := hPs_fr hr len26 (fun R _ => R2 R) (Nat.le_refl _) (fun _ _ => rfl) (Nat.le_refl _)
          have OL := other_list (c := A.1) hr2 (fun A' hA' => ⟨len26 A' hA', by have := (hL A' hA').2.1; omega⟩) t46 (Nat.le_refl _) (by omega) (by omega) (A :: r).length (Nat.le_refl _)
          rw [List.take_length] at OL
          have hv2 := vR_fr hvr (fun R _ => R2 R)
          have K := m_W_otherRows (E := E) (d := d + 3) (G := G) (m := m) (n := n) (s := s2) (f := nI first) (q := nI (A :: r).length) (x := nI A.1) (A := first) (K := (A :: r).length) hmn (nI_hi (by omega)) (nI_hi (by omega)) (by rw [t46]; exact nI_pos (by omega)) (by rw [t46, tnI (by omega)]; omega) (by rw [t46, tnI (by omega)]; exact Nat.le_refl _) (fun R hR => (hv2 R hR).1)
          refine c_V (as := [.int (nI first), .int (nI (A :: r).length), .int (nI A.1)]) kv_Model_otherRows ml_Model_252 rfl mw_f K rfl (Nat.le_of_ble_eq_true rfl) rfl d_Model_build_325 (fun v G' hq => ?_) (fun Cx G' hq => by cases hq.1)
          obtain ⟨ho, rfl⟩ := hq
          cases ho
          show GT E Y_Model_build (d + 5) G0 328 [(0, .ref m), (1, .int (nI D)), (2, .int (nI way)), (3, .int 1), (4, .int 0), (5, .int (nI first)), (6, .int (nI (A :: r).length))] [] (mW E G m n (rOther s2 first (nI A.1) (A :: r).length)) Q
          generalize rOther s2 first (nI A.1) (A :: r).length = s3 at OL ⊢
          obtain ⟨f3, o46, o47, o4⟩ := OL
          have u47 : s3.1 47 = 0 := by rw [o47, tf 47 (by decide) (by decide) (by decide), kf 47 (by decide)]; exact e5
          have u33 : s3.2 33 D = -1 := by rw [f3.1 33 (by omega), tj 33]; exact k33
          refine m_W_b_g2 hmn (m_W_b_down hmn (by omega) u47 u33 ?_)
          have lo := aOt_len (c := A.1) (A :: r)
          have u31 : s3.2 31 D + s3.2 32 D = nI (first + (A :: r).length) := by
            rw [f3.1 31 (by omega), f3.1 32 (by omega), j2 31 (by decide), j2 32 (by decide), g31, g32]
            exact esum
          have usub : s3.1 46 - (s3.2 31 D + s3.2 32 D) = nI (aOt A.1 (A :: r)).length := by
            rw [u31, o46]
            have := sub_hi (nI_hi (n := first + (A :: r).length + (aOt A.1 (A :: r)).length) (by omega)) (nI_hi (n := first + (A :: r).length) (by omega)) (by omega)
            rw [show first + (A :: r).length + (aOt A.1 (A :: r)).length - (first + (A :: r).length) = (aOt A.1 (A :: r)).length by omega] at this
            exact i_nI this
          rw [usub, u31]
          have hway2 := aOt_way (c := A.1) hL
          have hv3 : vR s3 (first + (A :: r).length + (aOt A.1 (A :: r)).length) := vR_add wf (vR_fr hv2 f3.2.2.1) o4 (fun B hB => (hway2 B hB).1)
          generalize hS : wA (wA s3 31 (D + 1) (nI (first + (A :: r).length))) 32 (D + 1) (nI (aOt A.1 (A :: r)).length) = s5
          have w31 : s5.2 31 (D + 1) = nI (first + (A :: r).length) := by subst hS; show upd (s3.2 31) (D + 1) _ (D + 1) = _; exact up_at
          have w32 : s5.2 32 (D + 1) = nI (aOt A.1 (A :: r)).length := by subst hS; show upd (s3.2 32) (D + 1) _ (D + 1) = _; exact up_at
          have wj : ∀ j, j ≠ 31 → j ≠ 32 → s5.2 j = s3.2 j := fun j h1 h2 => by
            subst hS
            unfold wA wR upA
            dsimp only
            simp only [h1, h2, if_false]
          have wf' : s5.1 = s3.1 := by subst hS; rfl
          have wi : ∀ i, i < D + 1 → s5.2 31 i = s3.2 31 i ∧ s5.2 32 i = s3.2 32 i := fun i hi => by
            subst hS
            refine ⟨?_, ?_⟩
            · show upd (s3.2 31) (D + 1) _ i = _
              exact up_ne (by omega)
            · show upd (s3.2 32) (D + 1) _ i = _
              exact up_ne (by omega)
          have wR' : ∀ R, sR s3 s5 R := fun R => by
            unfold sR
            rw [wj 26 (by decide) (by decide), wj 27 (by decide) (by decide), wj 28 (by decide) (by decide), wj 29 (by decide) (by decide), wj 30 (by decide) (by decide)]
            exact ⟨rfl, rfl, fun _ _ => ⟨rfl, rfl⟩, fun _ _ => rfl⟩
          -- from s to s5
          have j5 : ∀ j, j < 26 ∨ 30 < j → j ≠ 31 → j ≠ 32 → j ≠ 33 → s5.2 j = s.2 j := fun j h1 h2 h3 h4 => (wj j h2 h3).trans ((f3.1 j h1).trans (j2 j h4))
          have f5 : ∀ k, k ≠ 21 → k ≠ 23 → k ≠ 24 → k ≠ 46 → k ≠ 47 → s5.1 k = s.1 k := fun k h1 h2 h3 h4 h5 => by
            rw [wf', f3.2.1 k h4 h5, tf k h1 h3 h4]
            exact kf k h2
          have fX5 : fX s s5 D (first + (A :: r).length) := by
            refine ⟨fun j hj => j5 j (by omega) (by omega) (by omega) (by omega), fun k hk => f5 k (by omega) (by omega) (by omega) (by omega) (by omega), fun R hR => sR_tr (R2 R) (sR_tr (f3.2.2.1 R hR) (wR' R)), fun i hi j h1 h2 => ?_⟩
            rcases (show j = 31 ∨ j = 32 ∨ j = 33 ∨ j = 34 ∨ j = 35 by omega) with rfl | rfl | rfl | rfl | rfl
            · rw [(wi i (by omega)).1, f3.1 31 (by omega), j2 31 (by decide)]
            · rw [(wi i (by omega)).2, f3.1 32 (by omega), j2 32 (by decide)]
            · rw [wj 33 (by decide) (by decide), f3.1 33 (by omega), tj 33]
              exact k33' i (by omega)
            · rw [j5 34 (by omega) (by decide) (by decide) (by decide)]
            · rw [j5 35 (by omega) (by decide) (by decide) (by decide)]
          have v33 : s5.2 33 D = -1 := by rw [wj 33 (by decide) (by decide)]; exact u33
          have hst5 : stB (stT A.1 way st) := ⟨B1, B2, by show max st.2.2.2.2.2.2.1 way ≤ 2000; omega, B4⟩
          have aBe : aB P t0 (f + 1) (A :: r) up via way an st = aB P t0 f (aOt A.1 (A :: r)) up via way an (stT A.1 way st) := by
            simp only [aB]
            rw [hA1]
            exact if_neg hg
          have hWd2 : pWd N pos C W (A.1 :: Dr) an := ⟨hWd.1, hWd.2.1, List.nodup_cons.mpr ⟨hA.2.2.1, hWd.2.2.1⟩, fun c hc => by
            rcases List.mem_cons.mp hc with rfl | hc
            · exact hAC
            · exact hWd.2.2.2.1 c hc, hWd.2.2.2.2⟩
          refine ih (by omega) (aOt A.1 (A :: r)) (first + (A :: r).length) up via way an (stT A.1 way st) W (A.1 :: Dr) (D + 1) s5 pl X (by omega) (by simp; omega) hway hWd2 hway2 hok ⟨sPA_X e1 fX5, ?_, ?_, rsT s5 (fun k q1 q2 q3 q4 => ?_) ?_ ?_ (fun j q1 q2 => ?_), ?_⟩ (hPs_fr o4 (fun B hB => len26 B (aOt_mem hB).1) (fun R _ => wR' R) (Nat.le_refl _) (fun _ _ => rfl) (Nat.le_refl _)) (by omega) (vR_fr hv3 (fun R _ => wR' R)) w31 w32 ?_ ?_ hst5 (fun s6 pl6 X6 st6 hq fr6 hpe6 hX6 he6 => ?_) (fun s6 dd wy fr' hq fr6 h6 => ?_)
          · unfold plOk at e2 ⊢
            rw [j5 20 (by omega) (by decide) (by decide) (by decide), j5 21 (by omega) (by decide) (by decide) (by decide), j5 22 (by omega) (by decide) (by decide) (by decide), f5 34 (by decide) (by decide) (by decide) (by decide) (by decide)]
            exact e2
          · unfold anS at e3 ⊢
            rw [j5 23 (by omega) (by decide) (by decide) (by decide), j5 24 (by omega) (by decide) (by decide) (by decide)]
            exact e3
          · rw [wf', f3.2.1 k (by omega) (by omega), tf k q1 q2 (by omega)]
          · rw [wf', f3.2.1 21 (by decide) (by decide)]
            exact t21
          · rw [wf', f3.2.1 24 (by decide) (by decide)]
            exact t24
          · rw [wj j (by omega) (by omega), f3.1 j (by omega)]
            exact tj j
          · rw [wf']
            exact u47
          · rw [rPar_s, v33, if_pos rfl, if_pos rfl]
            have : rPar s5 D = (up, via) := by
              rw [← hpar]
              exact rPar_fr D (fun i hi => ⟨fX5.2.2.2 i hi 33 (by omega) (by omega), fX5.2.2.2 i hi 34 (by omega) (by omega)⟩)
            rw [this]
          · show first + (A :: r).length ≤ st.2.2.2.2.2.1 + 80 * (A.1 :: Dr).length
            simp only [List.length_cons] at hL80 ⊢
            omega
          · have ed : nI (D + 1) + (-1) = nI D := by rw [nI_m1 (by omega) (by omega)]; rfl
            rw [ed]
            refine m_W_b_back hmn (by omega) he6.2.2.2.2 (m_W_b_up hmn (by omega) he6.2.2.2.2 (by rw [fr6.2.2.2 D (by omega) 33 (by omega) (by omega)]; exact v33) ?_)
            exact K1 s6 pl6 X6 st6 (by rw [aBe]; exact hq) (fX_tr fX5 (fX_le fr6 (by omega) (by omega)) (Nat.le_refl _) (Nat.le_refl _)) hpe6 hX6 he6
          · exact K2 s6 dd wy fr' (by rw [aBe]; exact hq) (fX_tr (fX_le (D' := 0) (r' := 0) fX5 (by omega) (by omega)) fr6 (by omega) (by omega)) h6
      | cons y t =>
        -- a question
        obtain ⟨p, hp, h28, hπ⟩ := rA3 y t hA1
        have hy : y ∈ A.2.1 := by rw [hA1]; exact List.mem_cons_self
        obtain ⟨hyW, hycl, hyz⟩ := hA.2.2.2 y hy
        have hyok := hA.1.1 y hy
        have hys := (wf.1.2 y.2 hyok.1.1).1
        have h16 : tyP P t0 y.1 < 16 := by
          have h21 := (e2.2.2.2.1 p hp).1
          obtain ⟨t4, ht4, et4⟩ := (wf.2.2 y.2 hyok.1.1).1
          have hx := hyok.1.2.2
          have key : ∀ q, q < X → tyP P t0 (pl q) < 16 := by
            intro q
            induction q using Nat.strongRecOn with
            | ind q ihq =>
              intro hq
              rcases Nat.eq_zero_or_pos q with z | z
              · subst z
                rw [e2.2.2.1]
                exact ht0
              · obtain ⟨-, p1, ee, l1, l2, l3, -⟩ := e2.2.2.2.2.2 q z hq
                rw [l3, tyP_app]
                have := ihq p1 l1 (by omega)
                obtain ⟨t', ht', et'⟩ := wf.2.1 (32 * tyP P t0 (pl p1) + ee) (by omega)
                rw [et', tnI (by omega)]
                exact ht'
          have := key p hp
          rw [hπ] at this
          exact this
        obtain ⟨mk1, mk2, mk3⟩ := made_kind wf wk hyok.1 hyok.2 (by omega)
        have hkd : ∀ A' ∈ A :: r, ∀ z ∈ A'.2.1, z.1 = y.1 → ¬ P 0 (tyP P t0 y.1) ≤ 1 → P 3 z.2 = 2 := fun A' hA' z hz ez hm => by
          have := made_kind wf wk ((hL A' hA').1.1 z hz).1 ((hL A' hA').1.1 z hz).2 (by rw [ez]; omega)
          rw [ez] at this
          exact this.2.1 hm
        have n27 : ¬ s.2 27 first = 0 := by
          rw [rA2, hA1]
          exact nI_ne (a := (y :: t).length) (b := 0) (by simp) (by have := rOk_len wf hA.1; rw [hA1] at this; omega) (by omega)
        have n20 : ¬ s.1 20 = 1000 := by rw [e4.1]; exact nI_ne (b := 1000) (by omega) (by omega) (by omega)
        refine m_W_b_k hmn (D := D) (A := first) (K := (A :: r).length) (by omega) e5 g31 g32 (by omega) (by omega) (by simp) n27 n20 ?_
        -- asks
        have s1R : ∀ R, sR s (wA s 33 D (-1)) R := fun R => sR_rf
        have tr : tRows (wA s 33 D (-1)) P N t0 pos pl X first (A :: r) := ⟨e2, hPs_fr (r := first + (A :: r).length) hr len26 (fun R _ => s1R R) (Nat.le_refl _) (fun _ _ => rfl) (Nat.le_refl _), fun A' hA' => (hL A' hA').1, e1 5 (by omega)⟩
        have par1 : rPar (wA s 33 D (-1)) D = (up, via) := by
          rw [← hpar]
          exact rPar_fr D (fun i hi => ⟨by show upd (s.2 33) D (-1) i = _; exact up_ne (by omega), rfl⟩)
        have FQ := asks_ok (way := way) wf tr hp hπ (by omega) (e1 0 (by omega)) h16 mk3 e4.1 (by omega) g32 h28 par1
        have hT : ¬ (wA s 33 D (-1)).2 21 p < 0 ∧ tn ((wA s 33 D (-1)).2 21 p) < 16 := by
          have h21 := (e2.2.2.2.1 p hp).1
          rw [hπ] at h21
          show ¬ s.2 21 p < 0 ∧ tn (s.2 21 p) < 16
          rw [h21]
          exact ⟨nI_pos (by omega), by rw [tnI (by omega)]; exact h16⟩
        have K := m_W_asks (E := E) (d := d + 1) (G := G) (m := m) (n := n) (s := wA s 33 D (-1)) (dd := nI D) (wy := nI way) (D := D) (A := first) (K := (A :: r).length) (P := p) hmn (nI_hi (by omega)) (by omega) (by show (s.2 31 D).toInt = _; rw [g31]; exact nI_hi (by omega)) (by show (s.2 32 D).toInt = _; rw [g32]; exact nI_hi (by omega)) (fun R hR => (hvr R hR).1) (fun R hR => (hvr R hR).2) (by omega) (by simp) (by show (s.2 28 (26 * first)).toInt = _; rw [h28]; exact nI_hi (by omega)) (by omega) hT (by show ¬ s.1 20 < 0; rw [e4.1]; exact nI_pos (by omega)) (by show tn (s.1 20) < 1001; rw [e4.1, tnI (by omega)]; omega)
        refine c_V (as := [.int (nI D), .int (nI way)]) kv_Model_asks ml_Model_255 rfl mw_f K rfl (Nat.le_of_ble_eq_true rfl) rfl d_Model_build_355 (fun v G' hq => ?_) (fun Cx G' hq => by cases hq.1)
        obtain ⟨ho, rfl⟩ := hq
        cases ho
        show GT E Y_Model_build (d + 5) G0 358 [(0, .ref m), (1, .int (nI D)), (2, .int (nI way)), (3, .int 1), (4, .int 0), (5, .int (nI first)), (6, .int (nI (A :: r).length))] [] (mW E G m n (rAsks (wA s 33 D (-1)) D first (A :: r).length p (nI way))) Q
        refine m_W_b_k2 hmn ?_
        rw [nI_1]
        generalize rAsks (wA s 33 D (-1)) D first (A :: r).length p (nI way) = s2 at FQ ⊢
        have fA : fX s s2 D (first + (A :: r).length) := by
          obtain ⟨b1, b2, b3, b4, b5, b6, b7, b8, b9, b10, b11, b12, b13, b14, b15, b16⟩ := FQ
          have a1 : ∀ j, j < 14 ∨ (19 < j ∧ j < 33) ∨ j = 36 ∨ j = 37 ∨ j = 38 → s2.2 j = s.2 j := fun j hj => by
            rw [b1 j hj]
            unfold wA wR upA
            dsimp only
            simp only [show ¬ j = 33 by omega, if_false]
          refine ⟨fun j hj => a1 j (by omega), fun k hk => ?_, fun R _ => ?_, fun i hi j h1 h2 => ?_⟩
          · rw [b13 k (by omega) (by omega) (by omega)]
            rfl
          · unfold sR
            rw [a1 26 (by omega), a1 27 (by omega), a1 28 (by omega), a1 29 (by omega), a1 30 (by omega)]
            exact ⟨rfl, rfl, fun _ _ => ⟨rfl, rfl⟩, fun _ _ => rfl⟩
          · rcases (show j = 31 ∨ j = 32 ∨ j = 33 ∨ j = 34 ∨ j = 35 by omega) with rfl | rfl | rfl | rfl | rfl
            · rw [a1 31 (by omega)]
            · rw [a1 32 (by omega)]
            · rw [(b2 i (by omega)).1]
              show upd (s.2 33) D (-1) i = _
              exact up_ne (by omega)
            · rw [(b2 i (by omega)).2.1]
              rfl
            · rw [(b2 i (by omega)).2.2]
              rfl
        have hrS : rS P t0 (wA s 33 D (-1)) st := rS_keep e4 (fun _ _ _ => rfl) (fun j h1 h2 => by
          unfold wA wR upA
          dsimp only
          simp only [show ¬ j = 33 by omega, if_false])
        have rs2 := rS_ask hrS FQ rfl (by omega)
        have q47 : s2.1 47 = rTM (wA s 33 D (-1)) D := FQ.2.2.2.2.2.2.2.2.2.2.2.2.2.2.2
        have aBq : aB P t0 (f + 1) (A :: r) up via way an st = if 800 < st.2.2.2.2.2.1 + (A :: r).length then none else aBs (fun a st' => if 80 < (qL P t0 (A :: r) y.1 a).length then none else aB P t0 f (qL P t0 (A :: r) y.1 a) (nI st.1.length) (nI a) (way + 1) (anU an y.1 (qX P t0 (A :: r) y.1 a)) st') (qN P t0 (A :: r) y.1) 0 (stQ (A :: r) y.1 way up via st) := by
          simp only [aB]
          rw [hA1]
          dsimp only
          rw [if_neg (by omega)]
        have e26 : (wA s 33 D (-1)).1 26 + (wA s 33 D (-1)).2 32 D = nI (st.2.2.2.2.2.1 + (A :: r).length) := by
          show s.1 26 + s.2 32 D = _
          rw [e4.2.2.2.2.2.2.1, g32]
          exact i_nI (add_hi (nI_hi (by omega)) (nI_hi (by omega)) (by omega))
        by_cases c800 : 800 < st.2.2.2.2.2.1 + (A :: r).length
        · have tm1 : s2.1 47 = 1 := by
            rw [q47]
            unfold rTM
            rw [if_pos (Or.inr (by rw [e26]; intro z; have := (le_hi (nI_hi (n := st.2.2.2.2.2.1 + (A :: r).length) (by omega)) (show (800 : Int32).toInt = ((800 : Nat) : Int) by decide)).mp z; omega))]
          refine m_W_b_x hmn (by omega) (by rw [tm1]; decide) (m_W_b_out hmn (by omega) (by rw [tm1]; decide) ?_)
          exact K2 s2 _ _ _ (by rw [aBq, if_pos c800]) (fX_le fA (by omega) (by omega)) tm1
        · have tm0 : s2.1 47 = 0 := by
            rw [q47]
            unfold rTM
            rw [if_neg (fun z => z.elim (fun z => z e5) (fun z => z (by rw [e26]; exact (le_hi (nI_hi (n := st.2.2.2.2.2.1 + (A :: r).length) (by omega)) (show (800 : Int32).toInt = ((800 : Nat) : Int) by decide)).mpr (by omega))))]
          have aBq2 := aBq
          rw [if_neg c800] at aBq2
          have hz : (an y.1).1 = 0 := Classical.byContradiction (fun z => hyW (hWd.2.2.2.2 y.1 z))
          have anU0 : anU an y.1 (an y.1) = an := by
            funext ρ
            unfold anU
            by_cases z : ρ = y.1
            · rw [if_pos z, z]
            · rw [if_neg z]
          have a23 : s2.2 23 = s.2 23 := (FQ.1 23 (by omega)).trans rfl
          have a24 : s2.2 24 = s.2 24 := (FQ.1 24 (by omega)).trans rfl
          have pl2 : plOk s2 P N t0 pos pl X := by
            unfold plOk at e2 ⊢
            rw [FQ.1 20 (by omega), FQ.1 21 (by omega), FQ.1 22 (by omega), FQ.2.2.2.2.2.2.2.2.2.2.2.2.1 34 (by decide) (by decide) (by decide)]
            exact e2
          have an2 : anS s2 pl X (anU an y.1 (an y.1)) := by
            rw [anU0]
            unfold anS at e3 ⊢
            rw [a23, a24]
            exact e3
          refine ans_iter (E := E) (d := d) (G := G) (G0 := G0) (Q := Q) (s := s2) (an := an) (st := stQ (A :: r) y.1 way up via st) (pl := pl) (X := X) (L := A :: r) (first := first) (way := way) (q := st.1.length) (p := p) (D := D) (W := W) (Dr := Dr) (π := y.1) hmn wf wk ht0 hNC hC20 h0 hAr (ih (by omega)) (by simp) (by omega) (by omega) hD hway hWd hL hok hL80 hyW ⟨y.2, hyok.1.1, hyok.1.2.1.symm⟩ (by omega) hycl (by omega) mk3 h16 hkd hp hπ (fun s' pl' X' st' t1 t2 t3 t4 t5 => ?_) (fun s' dd wy fr t1 t2 t3 => ?_) (qN P t0 (A :: r) y.1) 0 s2 pl X (stQ (A :: r) y.1 way up via st) (an y.1) 1 (by omega) (fun _ => hz) (fun z => by omega) fX_rf (fun _ _ => rfl) (Nat.le_refl _) ⟨sPA_X e1 fA, pl2, an2, rs2, tm0⟩ ⟨?_, ?_, B3, ?_⟩ ?_ ?_ (hPs_fr hr len26 fA.2.2.1 (Nat.le_refl _) (fun _ _ => rfl) (Nat.le_refl _)) (vR_fr hvr fA.2.2.1) ?_ ?_ FQ.2.2.1 FQ.2.2.2.2.1 ?_ ⟨((A :: r), y.1, way, up, via), ?_, rfl, rfl⟩ rfl
          · exact K1 s' pl' X' st' (by rw [aBq2]; exact t5) (fX_tr fA t1 (Nat.le_refl _) (Nat.le_refl _)) t2 t3 t4
          · exact K2 s' dd wy fr (by rw [aBq2]; exact t1) (fX_tr (fX_le (D' := 0) (r' := 0) fA (by omega) (by omega)) t2 (by omega) (by omega)) t3
          · show st.2.2.2.2.2.1 + (A :: r).length ≤ 800
            omega
          · show st.2.2.1 ≤ 11 * (st.2.2.2.2.2.1 + (A :: r).length)
            omega
          · show (st.1 ++ [_]).length ≤ st.2.2.2.2.2.1 + (A :: r).length
            rw [List.length_append]
            simp only [List.length_cons, List.length_nil]
            omega
          · show first + (A :: r).length ≤ st.2.2.2.2.2.1 + (A :: r).length + 80 * Dr.length
            omega
          · show st.2.2.1 + 11 * (A :: r).length ≤ 11 * (st.2.2.2.2.2.1 + (A :: r).length) + 0
            omega
          · rw [FQ.1 31 (by omega)]
            exact g31
          · rw [FQ.1 32 (by omega)]
            exact g32
          · rw [FQ.2.2.2.1]
            rfl
          · show (st.1 ++ [((A :: r), y.1, way, up, via)])[st.1.length]? = _
            rw [List.getElem?_append_right (Nat.le_refl _), Nat.sub_self]
            rfl
end BQ
