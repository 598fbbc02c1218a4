/-! The reference's match: its loop gives lp -/
section NC
variable {E : gE} {d : Nat} {G G0 : gS} {m n : Nat} {s s' s1 : mS} {Q : gO → gS → Prop} {P : Nat → Nat → Int32} {N X X' t0 C : Nat} {pos pl pl' : Nat → List Nat} {W : List (List Nat)} {Dr as : List Nat} {V : Nat → Prop} {L : List pRow} {first p : Nat} {π : List Nat} {st : aSt} {an : aAn}
/-- each path that the rows speak of has its place, and there the value's part -/
def vI (P : Nat → Nat → Int32) (v0 : Nat) (s : mS) (pl : Nat → List Nat) (X : Nat) (L : List pRow) : Prop := ∀ A ∈ L, ∀ ρ, mnP A ρ → ∃ p, p < X ∧ pl p = ρ ∧ s.2 25 p = nI (vAt P v0 ρ)
/-- match leaves all else -/
def mzF (s s' : mS) : Prop := (∀ j, j < 20 ∨ j = 24 → s'.2 j = s.2 j) ∧ ∀ k, k ≠ 34 → k ≠ 46 → k ≠ 47 → k ≠ 54 → s'.1 k = s.1 k
def mtI (P : Nat → Nat → Int32) (N t0 C : Nat) (pos : Nat → List Nat) (v0 : Nat) (st : aSt) (W : List (List Nat)) (Dr as : List Nat) (L : List pRow) (first : Nat) (s : mS) (pl : Nat → List Nat) (X : Nat) : Prop :=
  eSt P N t0 pos pl X an0 st s ∧ hPs s pl X first L ∧ vR s (first + L.length) ∧ s.1 46 = nI (first + L.length) ∧ L.length ≤ 80 ∧ first + 80 ≤ 80 * (1 + W.length + Dr.length) ∧ pWd N pos C W Dr an0 ∧ (∀ A ∈ L, pRk P N pos t0 C W Dr A) ∧ (∀ A ∈ L, ∀ ρ, mnP A ρ → vP P v0 ρ) ∧ (∀ π ∈ W, vP P v0 π) ∧ vI P v0 s pl X L ∧ s.1 54 = nI as.length ∧ as.length = W.length ∧ (∀ i y, as[i]? = some y → s.2 37 i = nI y) ∧ ∀ k, k < 8 → s.2 38 k = -1
def bdv (P : Nat → Nat → Int32) (v0 : Nat) : Option (List Nat) → Int32
  | none => -1
  | some π => nI (vAt P v0 π)
/-- the end of match -/
def mtZ (E : gE) (G : gS) (m n : Nat) (P : Nat → Nat → Int32) (N t0 : Nat) (pos : Nat → List Nat) (st : aSt) (v0 : Nat) (s0 : mS) (R : Option pRow × List Nat) : gO → gS → Prop := fun o G' =>
  ∃ s' pl' X', G' = mW E G m n s' ∧ eSt P N t0 pos pl' X' an0 st s' ∧ mzF s0 s' ∧ s'.1 54 = nI R.2.length ∧ R.2.length ≤ 60 ∧ (∀ i y, R.2[i]? = some y → s'.2 37 i = nI y) ∧
  ((R.1 = none ∧ o = .inl (some (.int (-1))) ∧ ∀ k, k < 8 → s'.2 38 k = -1) ∨ ∃ A, R.1 = some A ∧ o = .inl (some (.int (nI A.1))) ∧ (∀ k, k < 8 → s'.2 38 k = bdv P v0 (A.2.2 k)) ∧ ∀ k ρ, A.2.2 k = some ρ → vP P v0 ρ)
theorem mzF_rf : mzF s s := ⟨fun _ _ => rfl, fun _ _ _ _ _ => rfl⟩
theorem mzF_tr {t : mS} (h : mzF s s') (h' : mzF s' t) : mzF s t := ⟨fun j hj => (h'.1 j hj).trans (h.1 j hj), fun k a b c e => (h'.2 k a b c e).trans (h.2 k a b c e)⟩
theorem eSt_eq (h : eSt P N t0 pos pl X an st s) (ha : ∀ j, j < 25 → s'.2 j = s.2 j) (hf : ∀ k, 20 ≤ k → k ≤ 47 → k ≠ 46 → s'.1 k = s.1 k) : eSt P N t0 pos pl X an st s' := by
  obtain ⟨h1, h2, h3, h4, h5⟩ := h
  refine ⟨fun j hj => (ha j (by omega)).trans (h1 j hj), ?_, ?_, rS_keep h4 (fun k a b => hf k (by omega) (by omega) (by omega)) (fun j a b => ha j (by omega)), (hf 47 (by omega) (by omega) (by omega)).trans h5⟩
  · unfold plOk at h2 ⊢
    rw [ha 20 (by omega), ha 21 (by omega), ha 22 (by omega), hf 34 (by omega) (by omega) (by omega)]
    exact h2
  · unfold anS at h3 ⊢
    rw [ha 23 (by omega), ha 24 (by omega)]
    exact h3
theorem sR_eq {R : Nat} (ha : ∀ j, 26 ≤ j → j ≤ 30 → s'.2 j = s.2 j) : sR s s' R := by
  unfold sR
  rw [ha 26 (by omega) (by omega), ha 27 (by omega) (by omega), ha 28 (by omega) (by omega), ha 29 (by omega) (by omega), ha 30 (by omega) (by omega)]
  exact ⟨rfl, rfl, fun _ _ => ⟨rfl, rfl⟩, fun _ _ => rfl⟩
theorem hPs_eq {r : Nat} (h : hPs s pl X r L) (hl : ∀ A ∈ L, A.2.1.length ≤ 26) (ha : ∀ j, 26 ≤ j → j ≤ 30 → s'.2 j = s.2 j) : hPs s' pl X r L := hPs_fr (r := r + L.length) h hl (fun _ _ => sR_eq ha) (Nat.le_refl _) (fun _ _ => rfl) (Nat.le_refl _)
theorem wW_le (wf : wfA P N pos) (hV : vOkN P N V) {v0 : Nat} (h0 : V v0) (hv60 : tn (P 7 v0) ≤ 60) (hn : W.Nodup) (h : ∀ π ∈ W, vP P v0 π) : W.length ≤ 60 := by
  have h1 := sub_len (l := vPs P 512 v0) hn (fun π hπ => vPs_mem wf hV 512 v0 π h0 (by have := (hV v0 h0).1; have := wf.1.1; omega) (h π hπ))
  have h2 := vPs_len wf hV 512 v0 h0
  omega
abbrev mLv (m : Nat) (gs : Int32) (A K : Int32) (up via : Int32) : List (Nat × Value) := [(0, .ref m), (1, .int gs), (2, .int 1), (3, .int A), (4, .int K), (5, .int up), (6, .int via)]
/-- the names are bound -/
theorem mt_bind (hmn : m < n) {gs q2 up via q7 q8 : Int32} {A : pRow} {R K v0 : Nat} (bR : R < 41600) (hrow : hP s pl X R A) (bX : X < 2200) (hinj : ∀ p p', p < X → p' < X → pl p = pl p' → p = p') (hvi : ∀ ρ, mnP A ρ → ∃ p, p < X ∧ pl p = ρ ∧ s.2 25 p = nI (vAt P v0 ρ))
    (kk : ∀ s2, (∀ j, j ≠ 38 → s2.2 j = s.2 j) → s2.1 = s.1 → (∀ i, i < 8 → s2.2 38 i = bdv P v0 (A.2.2 i)) → Q (.inl (some (.int q8))) (mW E G m n s2)) :
    ∀ (w k : Nat) (s1 : mS), k + w = 8 → (∀ j, j ≠ 38 → s1.2 j = s.2 j) → s1.1 = s.1 → (∀ i, i < k → s1.2 38 i = bdv P v0 (A.2.2 i)) → GT E Y_Model_match (d + 4) G0 166 [(0, .ref m), (1, .int gs), (2, .int q2), (3, .int (nI R)), (4, .int (nI K)), (5, .int up), (6, .int via), (7, .int q7), (8, .int q8), (9, .int (nI k))] [] (mW E G m n s1) Q := by
  intro w
  induction w with
  | zero =>
    intro k s1 hk h1 h2 h3
    obtain rfl : k = 8 := by omega
    exact m_W_mt_b2 hmn (kk s1 h1 h2 h3)
  | succ w ih =>
    intro k s1 hk h1 h2 h3
    obtain ⟨ws, bd, hr, -, e3, -, h5⟩ := id hrow
    have h30 := hr.2.2.2 k (by omega)
    have step : ∀ x : Int32, x = bdv P v0 (A.2.2 k) → GT E Y_Model_match (d + 4) G0 166 [(0, .ref m), (1, .int gs), (2, .int q2), (3, .int (nI R)), (4, .int (nI K)), (5, .int up), (6, .int via), (7, .int q7), (8, .int q8), (9, .int (nI (k + 1)))] [] (mW E G m n (wA s1 38 k x)) Q := fun x hx => by
      refine ih (k + 1) _ (by omega) (fun j hj => ?_) h2 (fun i hi => ?_)
      · rw [← h1 j hj]
        exact upA_ne hj
      · show upA s1.2 38 (upd (s1.2 38) k x) 38 i = _
        rw [upA_at]
        by_cases e : i = k
        · rw [e, up_at, hx]
        · rw [up_ne e]
          exact h3 i (by omega)
    cases hb : bd k with
    | none =>
      rw [hb] at h30
      refine m_W_mt_b0 hmn bR (by omega) (by rw [h1 30 (by decide)]; exact h30) (step _ ?_)
      rw [e3]
      show -1 = bdv P v0 ((bd k).map pl)
      rw [hb]
      rfl
    | some p =>
      rw [hb] at h30
      have hp := h5 k p hb
      have hAk : A.2.2 k = some (pl p) := by rw [e3]; show (bd k).map pl = _; rw [hb]; rfl
      obtain ⟨p', b1, b2, b3⟩ := hvi (pl p) (Or.inr ⟨k, hAk⟩)
      have e := hinj p' p b1 hp b2
      subst e
      refine m_W_mt_b1 hmn bR (by omega) (by rw [h1 30 (by decide)]; exact h30) (by omega) (step _ ?_)
      rw [h1 25 (by decide), b3, hAk]
      rfl
/-- the question is found -/
theorem mt_search (hmn : m < n) {gs q2 up via q7 q8 : Int32} {A K : Nat} (hr : rS P t0 s st) (bQ : st.1.length ≤ 1000) {i : Nat} {x : qR} (hx : st.1[i]? = some x) (hu : x.2.2.2.1 = up) (hv : x.2.2.2.2 = via) (hno : ∀ i' x', i' < i → st.1[i']? = some x' → ¬ (x'.2.2.2.1 = up ∧ x'.2.2.2.2 = via)) (h54 : ¬ s.1 54 < 0) (b54 : tn (s.1 54) < 520)
    (kk : GT E Y_Model_match (d + 4) G0 303 [(0, .ref m), (1, .int gs), (2, .int q2), (3, .int (nI A)), (4, .int (nI K)), (5, .int up), (6, .int via), (7, .int q7), (8, .int q8), (9, .int (nI i))] [] (mW E G m n (wF (wA s 37 (tn (s.1 54)) (nI i)) 54 (s.1 54 + 1))) Q) :
    ∀ (w j : Nat), j + w = i → GT E Y_Model_match (d + 4) G0 252 [(0, .ref m), (1, .int gs), (2, .int q2), (3, .int (nI A)), (4, .int (nI K)), (5, .int up), (6, .int via), (7, .int q7), (8, .int q8), (9, .int (nI j))] [] (mW E G m n s) Q := by
  have hi : i < st.1.length := (List.getElem?_eq_some_iff.mp hx).1
  intro w
  induction w with
  | zero =>
    intro j hj
    obtain rfl : j = i := by omega
    obtain ⟨-, -, -, -, a, b⟩ := hr.2.2.2.2.2.2.2.2 j x hx
    exact m_W_mt_s2 hmn (by omega) (a.trans hu) (b.trans hv) h54 b54 kk
  | succ w ih =>
    intro j hj
    obtain ⟨y, hy⟩ : ∃ y, st.1[j]? = some y := ⟨st.1[j]'(by omega), List.getElem?_eq_getElem _⟩
    obtain ⟨-, -, -, -, a, b⟩ := hr.2.2.2.2.2.2.2.2 j y hy
    refine m_W_mt_s1 hmn (by omega) (fun q => hno j y (by omega) hy ⟨a.symm.trans q.1, b.symm.trans q.2⟩) (ih (j + 1) (by omega))
/-- the new places get their parts of the value -/
theorem mt_vals (hmn : m < n) {gs q2 b6 q7 iz : Int32} {A K q v t w ar : Nat} (bN : N ≤ 512) (hpl : plOk s P N t0 pos pl X) (hp : p < X) (bv : v < 700) (bt : t < 16) (ht : s.2 21 p = nI t) (h5 : s.2 5 v = nI w) (bw : w < 8) (h1 : s.2 1 (8 * t + w) = nI ar) (bar : ar ≤ 4)
    (kk : ∀ s2, (∀ j, j ≠ 25 → s2.2 j = s.2 j) → s2.1 = s.1 → (∀ q, (∀ i, i < ar → ¬ (0 < q ∧ s.2 22 (32 * p + 4 * w + i) = nI q)) → s2.2 25 q = s.2 25 q) → (∀ i q, i < ar → 0 < q → q < X → s.2 22 (32 * p + 4 * w + i) = nI q → s2.2 25 q = s.2 6 (4 * v + i)) → GT E Y_Model_match (d + 4) G0 115 [(0, .ref m), (1, .int gs), (2, .int q2), (3, .int q7), (4, .int (s2.1 46 - q7)), (5, .int (nI q)), (6, .int b6)] [] (mW E G m n s2) Q) :
    ∀ (r k : Nat) (s1 : mS), k + r = ar → (∀ j, j ≠ 25 → s1.2 j = s.2 j) → s1.1 = s.1 → (∀ q, (∀ i, i < k → ¬ (0 < q ∧ s.2 22 (32 * p + 4 * w + i) = nI q)) → s1.2 25 q = s.2 25 q) → (∀ i q, i < k → 0 < q → q < X → s.2 22 (32 * p + 4 * w + i) = nI q → s1.2 25 q = s.2 6 (4 * v + i)) →
    GT E Y_Model_match (d + 4) G0 443 [(0, .ref m), (1, .int gs), (2, .int q2), (3, .int (nI A)), (4, .int (nI K)), (5, .int (nI q)), (6, .int b6), (7, .int q7), (8, .int (nI p)), (9, .int (nI q)), (10, .int (nI v)), (11, .int 1), (12, .int iz), (13, .int (nI k))] [] (mW E G m n s1) Q := by
  have bX := plOk_X hpl
  intro r
  induction r with
  | zero =>
    intro k s1 hk g1 g2 g3 g4
    obtain rfl : k = ar := by omega
    exact m_W_mt_le hmn (t := t) (w := w) (ar := k) (by omega) bv ((congrFun (g1 21 (by decide)) p).trans ht) bt ((congrFun (g1 5 (by decide)) v).trans h5) bw ((congrFun (g1 1 (by decide)) _).trans h1) bar rfl (kk s1 g1 g2 g3 g4)
  | succ r ih =>
    intro k s1 hk g1 g2 g3 g4
    have e32 : 32 * p + 4 * w + k = 32 * p + (4 * w + k) := by omega
    rcases (hpl.2.2.2.1 p hp).2.2 (4 * w + k) (by omega) with h0 | ⟨p', b0, b1, b2, b3⟩
    · refine m_W_mt_l0 hmn (t := t) (w := w) (ar := ar) (by omega) bv ((congrFun (g1 21 (by decide)) p).trans ht) bt ((congrFun (g1 5 (by decide)) v).trans h5) bw ((congrFun (g1 1 (by decide)) _).trans h1) bar (by omega) (by rw [g1 22 (by decide), e32]; exact h0) (ih (k + 1) s1 (by omega) g1 g2 (fun q hq => g3 q (fun i hi => hq i (by omega))) (fun i q hi hq0 hqX hq => ?_))
      by_cases e : i = k
      · exfalso
        rw [e, e32, h0] at hq
        have : (0 : Nat) = q := by
          have h2 := congrArg tn hq
          rw [tnI (by omega)] at h2
          exact h2
        omega
      · exact g4 i q (by omega) hq0 hqX hq
    · refine m_W_mt_l1 hmn (t := t) (w := w) (ar := ar) (p' := p') (by omega) bv ((congrFun (g1 21 (by decide)) p).trans ht) bt ((congrFun (g1 5 (by decide)) v).trans h5) bw ((congrFun (g1 1 (by decide)) _).trans h1) bar (by omega) (by rw [g1 22 (by decide), e32]; exact b2) b0 (by omega) (ih (k + 1) _ (by omega) (fun j hj => ?_) g2 (fun q hq => ?_) (fun i q hi hq0 hqX hq => ?_))
      · rw [← g1 j hj]
        exact upA_ne hj
      · show upA s1.2 25 (upd (s1.2 25) p' _) 25 q = _
        rw [upA_at, up_ne (fun e => hq k (by omega) ⟨by omega, by rw [e32, e]; exact b2⟩)]
        exact g3 q (fun i hi => hq i (by omega))
      · show upA s1.2 25 (upd (s1.2 25) p' _) 25 q = _
        rw [upA_at]
        by_cases e : i = k
        · have eq : q = p' := by
            rw [e, e32, b2] at hq
            have h2 := congrArg tn hq
            rw [tnI (by omega), tnI (by omega)] at h2
            exact h2.symm
          rw [eq, up_at, e, g1 6 (by decide)]
        · have ne : q ≠ p' := fun eq => by
            rcases (hpl.2.2.2.1 p hp).2.2 (4 * w + i) (by omega) with h0 | ⟨p2, c0, c1, c2, c3⟩
            · rw [show 32 * p + 4 * w + i = 32 * p + (4 * w + i) by omega, h0] at hq
              have h2 := congrArg tn hq
              rw [tnI (by omega)] at h2
              have : (0 : Nat) = q := h2
              omega
            · rw [show 32 * p + 4 * w + i = 32 * p + (4 * w + i) by omega, c2] at hq
              have h2 := congrArg tn hq
              rw [tnI (by omega), tnI (by omega)] at h2
              rw [h2, eq, b3] at c3
              have := (app_inj c3).2
              omega
          rw [up_ne ne]
          exact g4 i q (by omega) hq0 hqX hq
end NC
