/-! The reference's build: the answers of a question -/
section BO
variable {E : gE} {d : Nat} {G G0 : gS} {m n : Nat} {s s' : mS} {Q : gO → gS → Prop} {P : Nat → Nat → Int32} {N X X' t0 C : Nat} {pl pl' pos : Nat → List Nat} {an : aAn} {st : aSt}
def eSt (P : Nat → Nat → Int32) (N t0 : Nat) (pos pl : Nat → List Nat) (X : Nat) (an : aAn) (st : aSt) (s : mS) : Prop := sPA s P ∧ plOk s P N t0 pos pl X ∧ anS s pl X an ∧ rS P t0 s st ∧ s.1 47 = 0
/-- the counts are small -/
def stB (st : aSt) : Prop := st.2.2.2.2.2.1 ≤ 800 ∧ st.2.2.1 ≤ 11 * st.2.2.2.2.2.1 ∧ st.2.2.2.2.2.2.1 ≤ 2000 ∧ st.1.length ≤ st.2.2.2.2.2.1
/-- the tree behind rows L at step D: the loop does it -/
def eXp (E : gE) (d : Nat) (G G0 : gS) (m n : Nat) (Q : gO → gS → Prop) (P : Nat → Nat → Int32) (N t0 : Nat) (pos : Nat → List Nat) (C f : Nat) : Prop :=
  ∀ (L : List pRow) (first : Nat) (up via : Int32) (way : Nat) (an : aAn) (st : aSt) (W : List (List Nat)) (Dr : List Nat) (D : Nat) (s : mS) (pl : Nat → List Nat) (X : Nat),
    N + C < f + D → D = W.length + Dr.length → way = W.length → pWd N pos C W Dr an → (∀ A ∈ L, pRk P N pos t0 C W Dr A) → anOk P t0 an → eSt P N t0 pos pl X an st s → hPs s pl X first L → L.length ≤ 80 → vR s (first + L.length) → s.2 31 D = nI first → s.2 32 D = nI L.length → rPar s D = (up, via) → first ≤ st.2.2.2.2.2.1 + 80 * Dr.length → stB st →
    (∀ s' pl' X' st', aB P t0 f L up via way an st = some st' → fX s s' D (first + L.length) → (∀ q, q < X → pl' q = pl q) → X ≤ X' → eSt P N t0 pos pl' X' an st' s' → GT E Y_Model_build (d + 5) G0 145 [(0, .ref m), (1, .int (nI D + (-1))), (2, .int (nI way)), (3, .int 0)] [] (mW E G m n s') Q) →
    (∀ s' dd wy fr, aB P t0 f L up via way an st = none → fX s s' 0 0 → s'.1 47 = 1 → GT E Y_Model_build (d + 5) G0 474 [(0, .ref m), (1, .int dd), (2, .int wy), (3, .int fr)] [] (mW E G m n s') Q) →
    GT E Y_Model_build (d + 5) G0 145 [(0, .ref m), (1, .int (nI D)), (2, .int (nI way)), (3, .int 1)] [] (mW E G m n s) Q
theorem fX_le {D r D' r' : Nat} (h : fX s s' D r) (hD : D' ≤ D) (hr : r' ≤ r) : fX s s' D' r' := ⟨h.1, h.2.1, fun R hR => h.2.2.1 R (by omega), fun i hi => h.2.2.2 i (by omega)⟩
theorem fX_N {D p a r0 r D' : Nat} {x : Int32 × Int32} (h : fN s s' D p a r0 x) (hD : D' ≤ D) : fX s s' D' r := by
  refine ⟨fun j hj => h.1 j (by omega) (by omega) (by omega) (by omega), fun k hk => h.2.2.2.2.2.2.1 k (by omega), fun R _ => fN_sR h, fun i hi j h1 h2 => ?_⟩
  by_cases e : j = 34
  · subst e
    exact h.2.1 i (by omega)
  · rw [h.1 j (by omega) (by omega) e (by omega)]
theorem fX_B {r0 D : Nat} (h : fB s s' r0 X X') : fX s s' D r0 :=
  ⟨fun j hj => h.1 j (by omega), fun k hk => h.2.1 k (by omega) (by omega) (by omega), h.2.2.1, fun i _ j h1 h2 => by rw [h.1 j (by omega)]⟩
theorem rS_keep {st : aSt} (h : rS P t0 s st) (h1 : ∀ k, 20 ≤ k → k ≤ 26 → s'.1 k = s.1 k) (h2 : ∀ j, 13 ≤ j → j ≤ 19 → s'.2 j = s.2 j) : rS P t0 s' st := by
  obtain ⟨a1, a2, a3, a4, a5, a6, a7, a8, a9⟩ := h
  refine ⟨?_, ?_, ?_, ?_, ?_, ?_, ?_, ?_, ?_⟩
  · rw [h1 20 (by omega) (by omega)]; exact a1
  · rw [h1 21 (by omega) (by omega)]; exact a2
  · rw [h1 22 (by omega) (by omega)]; exact a3
  · rw [h1 24 (by omega) (by omega)]; exact a4
  · rw [h1 25 (by omega) (by omega)]; exact a5
  · intro z
    obtain ⟨b1, b2⟩ := a6 z
    refine ⟨by rw [h1 25 (by omega) (by omega)]; exact b1, ?_⟩
    unfold tld
    rw [h2 13 (by omega) (by omega)]
    exact b2
  · rw [h1 26 (by omega) (by omega)]; exact a7
  · rw [h1 23 (by omega) (by omega)]; exact a8
  · rw [h2 14 (by omega) (by omega), h2 15 (by omega) (by omega), h2 16 (by omega) (by omega), h2 17 (by omega) (by omega), h2 18 (by omega) (by omega), h2 19 (by omega) (by omega)]
    exact a9
theorem rS_N {D p a r0 : Nat} {x : Int32 × Int32} (h : rS P t0 s st) (h' : fN s s' D p a r0 x) : rS P t0 s' st := rS_keep h (fun k h1 h2 => h'.2.2.2.2.2.2.1 k (by omega)) (fun j h1 h2 => h'.1 j (by omega) (by omega) (by omega) (by omega))
theorem rS_B {r0 : Nat} (h : rS P t0 s st) (h' : fB s s' r0 X X') : rS P t0 s' st := rS_keep h (fun k h1 h2 => h'.2.1 k (by omega) (by omega) (by omega)) (fun j h1 h2 => h'.1 j (by omega))
theorem anS_B {r0 : Nat} (h : anS s pl X an) (h' : fB s s' r0 X X') (hpl' : plOk s' P N t0 pos pl' X') (he : ∀ q, q < X → pl' q = pl q) : anS s' pl' X' an := by
  have hX := h'.2.2.2.2.2
  refine ⟨fun p hp => ?_, fun π hπ => h.2 π (fun p hp => by rw [← he p hp]; exact hπ p (by omega))⟩
  by_cases e : p < X
  · rw [he p e, h'.2.2.2.1 p e, h'.1 24 (by omega)]
    exact h.1 p e
  · have e23 := h'.2.2.2.2.1 p (by omega) hp
    have ez : (an (pl' p)).1 = 0 := h.2 _ (fun q hq z => by
      rw [← he q hq] at z
      have := hpl'.2.2.2.2.1 q p (by omega) hp z
      omega)
    rw [e23, ez]
    exact ⟨rfl, fun z => absurd z (by decide)⟩
theorem rPar_s {D : Nat} : rPar s (D + 1) = (if s.2 33 D = -1 then (rPar s D).1 else s.2 33 D, if s.2 33 D = -1 then (rPar s D).2 else s.2 34 D) := rfl
theorem rPar_fr : ∀ (D : Nat), (∀ i, i < D → s'.2 33 i = s.2 33 i ∧ s'.2 34 i = s.2 34 i) → rPar s' D = rPar s D
  | 0, _ => rfl
  | D + 1, h => by
    rw [rPar_s, rPar_s, (h D (by omega)).1, (h D (by omega)).2, rPar_fr D (fun i hi => h i (by omega))]
theorem nI_ne1 {k : Nat} (h : k < 2 ^ 31) : ¬ nI k = -1 := fun e => by
  have := nI_pos h
  rw [e] at this
  exact this (by decide)
theorem ans_iter (hmn : m < n) (wf : wfA P N pos) (wk : wfK P N) (ht0 : t0 < 16) (hNC : N + C ≤ 511) (hC20 : C ≤ 20) (h0 : ∀ t, tn (P 0 t) ≤ 9) (hAr : ∀ π w, ¬ P 0 (tyP P t0 π) ≤ 1 → w < tn (P 0 (tyP P t0 π)) - 1 → ∃ a, a ≤ 4 ∧ P 1 (8 * tyP P t0 π + w) = nI a) {f : Nat} (IH : eXp E d G G0 m n Q P N t0 pos C f) {L : List pRow} {first way q p D : Nat} {W : List (List Nat)} {Dr : List Nat} {π : List Nat} (hL1 : 1 ≤ L.length) (bf : f ≤ 1000) (hfu : N + C < f + (D + 1)) (hD : D = W.length + Dr.length) (hway : way = W.length) (hWd : pWd N pos C W Dr an) (hL : ∀ A ∈ L, pRk P N pos t0 C W Dr A) (hok : anOk P t0 an) (hL80 : L.length ≤ 80) (hW : ¬ π ∈ W) (hv : ∃ v, v < N ∧ pos v = π) (hl : π.length ≤ 23) (hcl : ∀ ρ e, ρ ++ [e] <+: π → ρ ∈ W) (bq : q < 1001)
    (hty : P 0 (tyP P t0 π) = 1 ∨ ∃ T, 2 ≤ T ∧ T ≤ 9 ∧ P 0 (tyP P t0 π) = nI T) (h16 : tyP P t0 π < 16) (hkd : ∀ A ∈ L, ∀ y ∈ A.2.1, y.1 = π → ¬ P 0 (tyP P t0 π) ≤ 1 → P 3 y.2 = 2) (hp : p < X) (hπ : pl p = π)
    (K1 : ∀ s' pl' X' st', fX s s' D (first + L.length) → (∀ y, y < X → pl' y = pl y) → X ≤ X' → eSt P N t0 pos pl' X' an st' s' → aBs (fun a st' => if 80 < (qL P t0 L π a).length then none else aB P t0 f (qL P t0 L π a) (nI q) (nI a) (way + 1) (anU an π (qX P t0 L π a)) st') (qN P t0 L π) 0 st = some st' → GT E Y_Model_build (d + 5) G0 145 [(0, .ref m), (1, .int (nI D + (-1))), (2, .int (nI way)), (3, .int 0)] [] (mW E G m n s') Q)
    (K2 : ∀ s' dd wy fr, aBs (fun a st' => if 80 < (qL P t0 L π a).length then none else aB P t0 f (qL P t0 L π a) (nI q) (nI a) (way + 1) (anU an π (qX P t0 L π a)) st') (qN P t0 L π) 0 st = none → fX s s' 0 0 → s'.1 47 = 1 → GT E Y_Model_build (d + 5) G0 474 [(0, .ref m), (1, .int dd), (2, .int wy), (3, .int fr)] [] (mW E G m n s') Q) :
    ∀ (k a : Nat) (s1 : mS) (pl1 : Nat → List Nat) (X1 : Nat) (st1 : aSt) (x : Int32 × Int32) (fr : Int32), a + k = qN P t0 L π → (a = 0 → x.1 = 0) → (1 ≤ a → x = qX P t0 L π (a - 1)) → fX s s1 D (first + L.length) → (∀ y, y < X → pl1 y = pl y) → X ≤ X1 → eSt P N t0 pos pl1 X1 (anU an π x) st1 s1 → stB st1 → first + L.length ≤ st1.2.2.2.2.2.1 + 80 * Dr.length → st1.2.2.1 + 11 * L.length ≤ 11 * st1.2.2.2.2.2.1 + a → hPs s1 pl1 X1 first L → vR s1 (first + L.length) → s1.2 31 D = nI first → s1.2 32 D = nI L.length → s1.2 33 D = nI q → s1.2 35 D = nI p → s1.2 34 D + 1 = nI a → (∃ z, st1.1[q]? = some z ∧ z.1 = L ∧ z.2.1 = π) →
      aBs (fun a st' => if 80 < (qL P t0 L π a).length then none else aB P t0 f (qL P t0 L π a) (nI q) (nI a) (way + 1) (anU an π (qX P t0 L π a)) st') (qN P t0 L π) 0 st = aBs (fun a st' => if 80 < (qL P t0 L π a).length then none else aB P t0 f (qL P t0 L π a) (nI q) (nI a) (way + 1) (anU an π (qX P t0 L π a)) st') k a st1 →
      GT E Y_Model_build (d + 5) G0 361 [(0, .ref m), (1, .int (nI D)), (2, .int (nI (way + 1))), (3, .int fr), (4, .int 0)] [] (mW E G m n s1) Q := by
  have bW := nd_le hWd.1 (fun π h => (hWd.2.1 π h).1)
  have bDr := nd_leN hWd.2.2.1 hWd.2.2.2.1
  have hD1 := pWd_ask (x := (0, 0)) hWd hW hv hl hcl
  have bW1 := nd_le hD1.1 (fun π h => (hD1.2.1 π h).1)
  simp only [List.length_cons] at bW1
  have bN := wf.1.1
  have hqn := qN_le (t0 := t0) h0 L π
  intro k
  induction k with
  | zero =>
    intro a s1 pl1 X1 st1 x fr hak hx0 hx1 f1 hpe hX he hB hfi hfl hr hvr g31 g32 g33 g35 g34 gq heq
    obtain ⟨e1, e2, e3, e4, e5⟩ := he
    obtain ⟨zq, gq1, gq2, gq3⟩ := gq
    have g15 : s1.2 15 q = nI (qN P t0 L π) := by
      have := (e4.2.2.2.2.2.2.2.2 q zq gq1).2.1
      rw [gq2, gq3] at this
      exact this
    have bX := plOk_X e2
    have epl : pl1 p = π := by rw [hpe p hp]; exact hπ
    refine m_W_b_q hmn (by omega) e5 (by rw [g33]; exact nI_ne1 (by omega)) ?_
    have K := m_W_next (E := E) (d := d) (G := G) (m := m) (n := n) (s := s1) hmn wf wk ht0 (D := D) (first := first) (p := p) (q := q) (a := a) (R := L) (π := π) e1 e2 hr (fun A hA => (hL A hA).1) hvr (by omega) (by omega) epl (by omega) bq (by have := hB.1; omega) g31 g32 g35 g33 g15 g34 (by omega) e5 hty h16 hkd (fun hm ha => by
      have := (e3.1 p (by omega)).2
      rw [epl] at this
      unfold anU at this
      rw [if_pos rfl, hx1 ha] at this
      unfold qX at this
      rw [if_pos hm] at this
      exact this rfl)
    refine c_V (as := [.int (nI D)]) kv_Model_answersNext ml_Model_258 rfl mw_f K rfl (Nat.le_of_ble_eq_true rfl) rfl d_Model_build_380 (fun v G' hq => ?_) (fun Cx G' hq => ?_)
    · rcases hq with ⟨-, ho, rfl⟩ | ⟨hlt, -⟩
      · cases ho
        show GT E Y_Model_build (d + 5) G0 383 [(0, .ref m), (1, .int (nI D)), (2, .int (nI (way + 1))), (3, .int fr), (4, .int 0)] [.int 0] (mW E G m n (wA (wA s1 34 D (nI a)) 23 p 0)) Q
        refine m_W_b_q0 hmn (by omega) e5 ?_
        have ew : nI (way + 1) - 1 = nI way := by
          have := sub_hi (nI_hi (n := way + 1) (by omega)) i1 (by omega)
          exact i_nI this
        rw [ew]
        refine K1 _ pl1 X1 st1 ?_ hpe hX ⟨?_, ?_, ?_, ?_, e5⟩ heq
        · refine fX_tr f1 ⟨fun j hj => ?_, fun k hk => rfl, fun R _ => sR_rf, fun i hi j h1 h2 => ?_⟩ (Nat.le_refl _) (Nat.le_refl _)
          · unfold wA wR upA
            dsimp only
            simp only [show ¬ j = 23 by omega, show ¬ j = 34 by omega, if_false]
          · by_cases ej : j = 34
            · subst ej
              show upd (s1.2 34) D (nI a) i = _
              exact up_ne (by omega)
            · unfold wA wR upA
              dsimp only
              simp only [show ¬ j = 23 by omega, ej, if_false]
        · intro j hj
          rw [← e1 j hj]
          unfold wA wR upA
          dsimp only
          simp only [show ¬ j = 23 by omega, show ¬ j = 34 by omega, if_false]
        · exact e2
        · have hz : (an π).1 = 0 := Classical.byContradiction (fun z => hW (hWd.2.2.2.2 π z))
          refine ⟨fun y hy => ?_, fun ρ hρ => ?_⟩
          · by_cases ey : y = p
            · subst ey
              rw [epl]
              refine ⟨?_, fun z => by rw [hz] at z; exact absurd z (by decide)⟩
              show upd (s1.2 23) y 0 y = _
              rw [up_at, hz]
            · have hy2 := e3.1 y hy
              have hne : pl1 y ≠ π := fun z => ey (e2.2.2.2.2.1 y p hy (by omega) (by rw [z, epl]))
              unfold anU at hy2
              rw [if_neg hne] at hy2
              refine ⟨?_, hy2.2⟩
              show upd (s1.2 23) p 0 y = _
              rw [up_ne ey]
              exact hy2.1
          · have := e3.2 ρ hρ
            unfold anU at this
            rw [if_neg (fun z => hρ p (by omega) (by rw [epl, z]))] at this
            exact this
        · exact rS_keep e4 (fun _ _ _ => rfl) (fun j h1 h2 => by
            unfold wA wR upA
            dsimp only
            simp only [show ¬ j = 23 by omega, show ¬ j = 34 by omega, if_false])
      · omega
    · rcases hq with ⟨-, ho, -⟩ | ⟨-, ho, -⟩
      · cases ho
      · cases ho
  | succ k ih =>
    intro a s1 pl1 X1 st1 x fr hak hx0 hx1 f1 hpe hX he hB hfi hfl hr hvr g31 g32 g33 g35 g34 gq heq
    obtain ⟨e1, e2, e3, e4, e5⟩ := he
    obtain ⟨zq, gq1, gq2, gq3⟩ := gq
    have g15 : s1.2 15 q = nI (qN P t0 L π) := by
      have := (e4.2.2.2.2.2.2.2.2 q zq gq1).2.1
      rw [gq2, gq3] at this
      exact this
    have bX := plOk_X e2
    have epl : pl1 p = π := by rw [hpe p hp]; exact hπ
    have hB0 := hB.1
    refine m_W_b_q hmn (by omega) e5 (by rw [g33]; exact nI_ne1 (by omega)) ?_
    have K := m_W_next (E := E) (d := d) (G := G) (m := m) (n := n) (s := s1) hmn wf wk ht0 (D := D) (first := first) (p := p) (q := q) (a := a) (R := L) (π := π) e1 e2 hr (fun A hA => (hL A hA).1) hvr (by omega) (by omega) epl (by omega) bq (by omega) g31 g32 g35 g33 g15 g34 (by omega) e5 hty h16 hkd (fun hm ha => by
      have := (e3.1 p (by omega)).2
      rw [epl] at this
      unfold anU at this
      rw [if_pos rfl, hx1 ha] at this
      unfold qX at this
      rw [if_pos hm] at this
      exact this rfl)
    refine c_V (as := [.int (nI D)]) kv_Model_answersNext ml_Model_258 rfl mw_f K rfl (Nat.le_of_ble_eq_true rfl) rfl d_Model_build_380 (fun v G' hq => ?_) (fun Cx G' hq => ?_)
    · rcases hq with ⟨he', -⟩ | ⟨hlt, ho, s2, s3, rfl, hN, pl3, X3, q1, q2, q3, q4⟩
      · omega
      · cases ho
        show GT E Y_Model_build (d + 5) G0 383 [(0, .ref m), (1, .int (nI D)), (2, .int (nI (way + 1))), (3, .int fr), (4, .int 0)] [.int 1] (mW E G m n s3) Q
        have hX3 := q3.2.2.2.2.2
        have fA : fX s s3 D (first + L.length) := fX_tr f1 (fX_tr (fX_N hN (Nat.le_refl _)) (fX_B q3) (Nat.le_refl _) (Nat.le_refl _)) (Nat.le_refl _) (Nat.le_refl _)
        rcases q4 with ⟨o1, o2⟩ | ⟨o1, o2, o3, o4⟩
        · -- too many rows
          refine m_W_b_qx hmn (by omega) (by rw [o2]; decide) (m_W_b_out hmn (by omega) (by rw [o2]; decide) ?_)
          refine K2 _ _ _ _ ?_ (fX_le fA (by omega) (by omega)) o2
          rw [heq]
          simp only [aBs]
          rw [if_pos o1]
        · refine m_W_b_q1 hmn (by omega) o2 ?_
          have e0s : nI (way + 1) - 0 = nI (way + 1) := Int32.sub_zero _
          rw [e0s]
          have s31 : s3.2 31 D = nI first := by rw [q3.1 31 (by omega), hN.1 31 (by decide) (by decide) (by decide) (by decide)]; exact g31
          have s32 : s3.2 32 D = nI L.length := by rw [q3.1 32 (by omega), hN.1 32 (by decide) (by decide) (by decide) (by decide)]; exact g32
          have s33 : s3.2 33 D = nI q := by rw [q3.1 33 (by omega), hN.1 33 (by decide) (by decide) (by decide) (by decide)]; exact g33
          have s35 : s3.2 35 D = nI p := by rw [q3.1 35 (by omega), hN.1 35 (by decide) (by decide) (by decide) (by decide)]; exact g35
          have s34 : s3.2 34 D = nI a := by rw [q3.1 34 (by omega)]; exact hN.2.2.1
          have esum : s3.2 31 D + s3.2 32 D = nI (first + L.length) := by rw [s31, s32]; exact i_nI (add_hi (nI_hi (by omega)) (nI_hi (by omega)) (by omega))
          have esub : s3.1 46 - (s3.2 31 D + s3.2 32 D) = nI (qL P t0 L π a).length := by
            rw [esum, o3]
            have := sub_hi (nI_hi (n := first + L.length + (qL P t0 L π a).length) (by omega)) (nI_hi (n := first + L.length) (by omega)) (by omega)
            rw [show first + L.length + (qL P t0 L π a).length - (first + L.length) = (qL P t0 L π a).length by omega] at this
            exact i_nI this
          rw [esub, esum]
          have hpe3 : ∀ y, y < X → pl3 y = pl y := fun y hy => by rw [q2 y (by omega)]; exact hpe y hy
          have han2 : anS s2 pl1 X1 (anU an π (qX P t0 L π a)) := by
            have := anS_N e2 e3 hN (by omega)
            rw [epl] at this
            have e : anU (anU an π x) π (qX P t0 L π a) = anU an π (qX P t0 L π a) := by
              funext ρ
              unfold anU
              by_cases z : ρ = π
              · rw [if_pos z, if_pos z]
              · rw [if_neg z, if_neg z, if_neg z]
            rw [e] at this
            exact this
          have han3 := anS_B han2 q3 q1 q2
          have hr3 : hPs s3 pl3 X3 first L := hPs_fr (hPs_fr hr (fun A hA => by have := rOk_len wf (hL A hA).1; omega) (fun R _ => fN_sR hN) (Nat.le_refl _) (fun _ _ => rfl) (Nat.le_refl _)) (fun A hA => by have := rOk_len wf (hL A hA).1; omega) q3.2.2.1 (Nat.le_refl _) q2 hX3
          have hway : ∀ A ∈ qL P t0 L π a, pRk P N pos t0 C (π :: W) Dr A := aAns_way wf ht0 hW hcl (fun σ h => (hWd.2.1 σ h).2.2) L hL (fun A hA y hy e h => hkd A hA y hy e (fun z => h (if_pos z)))
          have hv3 : vR s3 (first + L.length + (qL P t0 L π a).length) := vR_add wf (vR_fr hvr (fun R hR => sR_tr (fN_sR hN) (q3.2.2.1 R hR))) o4 (fun A hA => (hway A hA).1)
          -- the new step
          generalize hS : wA (wA s3 31 (D + 1) (nI (first + L.length))) 32 (D + 1) (nI (qL P t0 L π a).length) = s5
          have k31 : s5.2 31 (D + 1) = nI (first + L.length) := by subst hS; show upd (s3.2 31) (D + 1) _ (D + 1) = _; exact up_at
          have k32 : s5.2 32 (D + 1) = nI (qL P t0 L π a).length := by subst hS; show upd (s3.2 32) (D + 1) _ (D + 1) = _; exact up_at
          have kj : ∀ j, j ≠ 31 → j ≠ 32 → s5.2 j = s3.2 j := fun j h1 h2 => by
            subst hS
            unfold wA wR upA
            dsimp only
            simp only [h1, h2, if_false]
          have kf : s5.1 = s3.1 := by subst hS; rfl
          have ki : ∀ i, i < D + 1 → s5.2 31 i = s3.2 31 i ∧ s5.2 32 i = s3.2 32 i := fun i hi => by
            subst hS
            refine ⟨?_, ?_⟩
            · show upd (s3.2 31) (D + 1) _ i = _
              exact up_ne (by omega)
            · show upd (s3.2 32) (D + 1) _ i = _
              exact up_ne (by omega)
          have kR : ∀ R, sR s3 s5 R := fun R => by
            unfold sR
            rw [kj 26 (by decide) (by decide), kj 27 (by decide) (by decide), kj 28 (by decide) (by decide), kj 29 (by decide) (by decide), kj 30 (by decide) (by decide)]
            exact ⟨rfl, rfl, fun _ _ => ⟨rfl, rfl⟩, fun _ _ => rfl⟩
          have fK : ∀ r, fX s3 s5 (D + 1) r := fun r => ⟨fun j hj => kj j (by omega) (by omega), fun k _ => by rw [kf], fun R _ => kR R, fun i hi j h1 h2 => by
            by_cases e1 : j = 31
            · subst e1; exact (ki i hi).1
            · by_cases e2 : j = 32
              · subst e2; exact (ki i hi).2
              · rw [kj j e1 e2]⟩
          have pl5 : plOk s5 P N t0 pos pl3 X3 := by
            unfold plOk at q1 ⊢
            rw [kj 20 (by decide) (by decide), kj 21 (by decide) (by decide), kj 22 (by decide) (by decide), kf]
            exact q1
          have an5 : anS s5 pl3 X3 (anU an π (qX P t0 L π a)) := by
            unfold anS at han3 ⊢
            rw [kj 23 (by decide) (by decide), kj 24 (by decide) (by decide)]
            exact han3
          have rs5 : rS P t0 s5 st1 := rS_keep (rS_B (rS_N e4 hN) q3) (fun k _ _ => by rw [kf]) (fun j h1 h2 => kj j (by omega) (by omega))
          have hokA : anOk P t0 (anU an π (qX P t0 L π a)) := fun ρ => by
            unfold anU
            by_cases z : ρ = π
            · rw [if_pos z]
              unfold qX
              by_cases hm : P 0 (tyP P t0 π) ≤ 1
              · rw [if_pos hm]
                exact Or.inr (Or.inl rfl)
              · rw [if_neg hm]
                have hlt2 : a < tn (P 0 (tyP P t0 π)) - 1 := by
                  unfold qN at hlt
                  rw [if_neg hm] at hlt
                  exact hlt
                obtain ⟨b, b4, eb⟩ := hAr π a hm hlt2
                have := h0 (tyP P t0 π)
                exact Or.inr (Or.inr ⟨a, b, by omega, rfl, b4, by rw [z]; exact eb, by rw [z]; exact h16⟩)
            · rw [if_neg z]
              exact hok ρ
          have hst1 : stB st1 := ⟨hB0, by omega, hB.2.2.1, hB.2.2.2⟩
          refine IH (qL P t0 L π a) (first + L.length) (nI q) (nI a) (way + 1) (anU an π (qX P t0 L π a)) st1 (π :: W) Dr (D + 1) s5 pl3 X3 (by omega) (by simp; omega) (by simp; omega) (pWd_ask hWd hW hv hl hcl) hway hokA ⟨sPA_X (sPA_A (sPA_N e1 hN) q3) (fK 0), pl5, an5, rs5, by rw [kf]; exact o2⟩ (hPs_fr o4 (fun A hA => by have := rOk_len wf (hway A hA).1; omega) (fun R _ => kR R) (Nat.le_refl _) (fun _ _ => rfl) (Nat.le_refl _)) o1 (vR_fr hv3 (fun R _ => kR R)) k31 k32 ?_ hfi hst1 (fun s6 pl6 X6 st6 hq fr6 hpe6 hX6 he6 => ?_) (fun s6 dd wy fr' hq fr6 h6 => ?_)
          · rw [rPar_s, kj 33 (by decide) (by decide), kj 34 (by decide) (by decide), s33, s34, if_neg (nI_ne1 (by omega)), if_neg (nI_ne1 (by omega))]
          · have ed : nI (D + 1) + (-1) = nI D := by rw [nI_m1 (by omega) (by omega)]; rfl
            rw [ed]
            have f6 : fX s3 s6 (D + 1) (first + L.length) := fX_tr (fK (first + L.length)) fr6 (Nat.le_refl _) (by omega)
            refine m_W_b_back hmn (by omega) he6.2.2.2.2 ?_
            have ct := aB_ct (B := 2000) h0 f _ _ _ _ _ _ _ (by omega) hq
            obtain ⟨ce, c1, c2, c3, c4, c5⟩ := ct
            have hB6 := hB.2.2.2
            have hB7 := hB.2.2.1
            refine ih (a + 1) s6 pl6 X6 st6 (qX P t0 L π a) 0 (by omega) (fun z => by omega) (fun _ => by rw [Nat.add_sub_cancel]) (fX_tr fA (fX_le f6 (by omega) (Nat.le_refl _)) (Nat.le_refl _) (Nat.le_refl _)) (fun y hy => by rw [hpe6 y (by omega)]; exact hpe3 y hy) (by omega) he6 ⟨c2 hB0, by omega, c4 hB7, by omega⟩ (by omega) (by omega) (hPs_fr hr3 (fun A hA => by have := rOk_len wf (hL A hA).1; omega) f6.2.2.1 (Nat.le_refl _) hpe6 hX6) (vR_fr (vR_fr hvr (fun R hR => sR_tr (fN_sR hN) (q3.2.2.1 R hR))) f6.2.2.1) (by rw [f6.2.2.2 D (by omega) 31 (by omega) (by omega)]; exact s31) (by rw [f6.2.2.2 D (by omega) 32 (by omega) (by omega)]; exact s32) (by rw [f6.2.2.2 D (by omega) 33 (by omega) (by omega)]; exact s33) (by rw [f6.2.2.2 D (by omega) 35 (by omega) (by omega)]; exact s35) (by rw [f6.2.2.2 D (by omega) 34 (by omega) (by omega), s34]; exact nI_1 a) ?_ ?_
            · obtain ⟨ex, hex⟩ := ce
              refine ⟨zq, ?_, gq2, gq3⟩
              rw [hex, List.getElem?_append_left (List.getElem?_eq_some_iff.mp gq1).1]
              exact gq1
            · rw [heq]
              simp only [aBs]
              rw [if_neg (by omega), hq]
          · refine K2 s6 dd wy fr' ?_ (fX_tr (fX_le (D' := 0) (r' := 0) fA (by omega) (by omega)) (fX_tr (fX_le (D' := 0) (r' := 0) (fK 0) (by omega) (by omega)) fr6 (by omega) (by omega)) (by omega) (by omega)) h6
            rw [heq]
            simp only [aBs]
            rw [if_neg (by omega), hq]
    · rcases hq with ⟨-, ho, -⟩ | ⟨-, ho, -⟩
      · cases ho
      · cases ho
end BO
