/-! Settling, as a function on lists; the reference's settle does it -/
section AT
/-- the rows that settling gives, in their order: 'done' is settled, 'q :: r' is to be; P: kinds 3, whats 5, parts 6 by node -/
def aS {α : Type} (P : Nat → Nat → Int32) : Nat → List (α × Nat) → List (α × Nat) → (Nat → Option α) → List (List (α × Nat) × (Nat → Option α))
  | 0, _, _, _ => []
  | _ + 1, done, [], bd => [(done, bd)]
  | f + 1, done, q :: r, bd =>
    if P 3 q.2 = 0 then aS P f done r bd
    else if P 3 q.2 = 4 then aS P f done ((q.1, tn (P 6 (4 * q.2))) :: r) (upB bd (tn (P 5 q.2)) q.1)
    else if P 3 q.2 = 3 then aS P f done ((q.1, tn (P 6 (4 * q.2))) :: r) bd ++ aS P f done ((q.1, tn (P 6 (4 * q.2 + 1))) :: r) bd
    else aS P f (done ++ [q]) r bd
def aW {α : Type} : List (α × Nat) → Nat
  | [] => 0
  | q :: r => q.2 + 1 + aW r
/-- the sizes of the wishes together -/
def aZ {α : Type} (P : Nat → Nat → Int32) : List (α × Nat) → Nat
  | [] => 0
  | q :: r => tn (P 7 q.2) + aZ P r
/-- nodes below N: names and eithers are over nodes below them, no greater ones -/
def wfN (P : Nat → Nat → Int32) (N : Nat) : Prop := N ≤ 512 ∧ ∀ k, k < N → 1 ≤ tn (P 7 k) ∧ (P 3 k = 4 → ∃ w v, w < 8 ∧ P 5 k = nI w ∧ v < k ∧ P 6 (4 * k) = nI v ∧ tn (P 7 v) = tn (P 7 k)) ∧
  (P 3 k = 3 → ∃ v v', v < k ∧ P 6 (4 * k) = nI v ∧ v' < k ∧ P 6 (4 * k + 1) = nI v' ∧ tn (P 7 v) + tn (P 7 v') + 1 = tn (P 7 k))
variable {α : Type} {P : Nat → Nat → Int32} {N : Nat}
theorem aS_fuel (wf : wfN P N) : ∀ (f f' : Nat) (done pend : List (α × Nat)) (bd : Nat → Option α), (∀ q ∈ pend, q.2 < N) → aW pend < f → aW pend < f' → aS P f done pend bd = aS P f' done pend bd := by
  intro f
  induction f with
  | zero => intro f' done pend bd _ h; omega
  | succ f ih =>
    intro f' done pend bd hN h1 h2
    obtain ⟨f', rfl⟩ : ∃ k, f' = k + 1 := ⟨f' - 1, by omega⟩
    cases pend with
    | nil => rfl
    | cons q r =>
      have hq : q.2 < N := hN q List.mem_cons_self
      have hr : ∀ y ∈ r, y.2 < N := fun y hy => hN y (List.mem_cons_of_mem _ hy)
      have c := wf.2 q.2 hq
      have hmem : ∀ v, v < q.2 → ∀ y ∈ (q.1, v) :: r, y.2 < N := fun v hv y hy => by
        rcases List.mem_cons.mp hy with rfl | hy
        · exact Nat.lt_trans hv hq
        · exact hr y hy
      simp only [aW] at h1 h2
      simp only [aS]
      split
      · exact ih f' _ _ _ hr (by omega) (by omega)
      · split
        · rename_i _ e4
          obtain ⟨w, v, w8, e5, hv, e6, -⟩ := c.2.1 e4
          have ev : tn (P 6 (4 * q.2)) = v := by rw [e6]; exact tnI (by have := wf.1; omega)
          rw [ev]
          exact ih f' _ _ _ (hmem _ hv) (by simp only [aW]; omega) (by simp only [aW]; omega)
        · split
          · rename_i _ _ e3
            obtain ⟨v, v', hv, e6, hv', e6', -⟩ := c.2.2 e3
            have ev : tn (P 6 (4 * q.2)) = v := by rw [e6]; exact tnI (by have := wf.1; omega)
            have ev' : tn (P 6 (4 * q.2 + 1)) = v' := by rw [e6']; exact tnI (by have := wf.1; omega)
            rw [ev, ev', ih f' done ((q.1, v) :: r) bd (hmem _ hv) (by simp only [aW]; omega) (by simp only [aW]; omega),
              ih f' done ((q.1, v') :: r) bd (hmem _ hv') (by simp only [aW]; omega) (by simp only [aW]; omega)]
          · exact ih f' _ _ _ hr (by omega) (by omega)
theorem aS_len : ∀ (f : Nat) (done pend : List (α × Nat)) (bd : Nat → Option α) (A : List (α × Nat) × (Nat → Option α)), A ∈ aS P f done pend bd → A.1.length ≤ done.length + pend.length := by
  intro f
  induction f with
  | zero =>
    intro done pend bd A h
    cases h
  | succ f ih =>
    intro done pend bd A h
    cases pend with
    | nil =>
      have e := List.mem_singleton.mp h
      subst e
      exact Nat.le_add_right _ _
    | cons q r =>
      simp only [aS] at h
      simp only [List.length_cons]
      split at h
      · have := ih _ _ _ _ h
        omega
      · split at h
        · have := ih _ _ _ _ h
          simp only [List.length_cons] at this
          omega
        · split at h
          · rcases List.mem_append.mp h with h | h
            · have := ih _ _ _ _ h
              simp only [List.length_cons] at this
              omega
            · have := ih _ _ _ _ h
              simp only [List.length_cons] at this
              omega
          · have := ih _ _ _ _ h
            simp only [List.length_append, List.length_cons, List.length_nil] at this
            omega
/-- a node that settling leaves as it is -/
def aK (P : Nat → Nat → Int32) (k : Nat) : Prop := ¬ P 3 k = 0 ∧ ¬ P 3 k = 4 ∧ ¬ P 3 k = 3
end AT
section AU
variable {E : gE} {d : Nat} {G G0 : gS} {m n : Nat} {s s' : mS} {Q : gO → gS → Prop} {P : Nat → Nat → Int32} {N : Nat}
/-- the nodes' arrays -/
def sP (s : mS) (P : Nat → Nat → Int32) : Prop := s.2 3 = P 3 ∧ s.2 5 = P 5 ∧ s.2 6 = P 6 ∧ s.2 7 = P 7
theorem sP_F {r w : Nat} (h : sP s P) (h' : sF s s' r w) : sP s' P := ⟨(h'.1 3 (by omega)).trans h.1, (h'.1 5 (by omega)).trans h.2.1, (h'.1 6 (by omega)).trans h.2.2.1, (h'.1 7 (by omega)).trans h.2.2.2⟩
/-- settled wishes are passed -/
theorem settle_skip (hmn : m < n) {q1 q2 q3 r : Int32} {R c : Nat} {ws : List (Nat × Nat)} {bd : Nat → Option Nat} (wf : wfN P N) (hs : sP s P) (hr : r.toInt = (R : Int)) (bR : R + 1 < 41640) (hh : hR s R c ws bd) (hl : ws.length ≤ 26) : ∀ (j : Nat), j ≤ ws.length → (∀ i q, i < j → ws[i]? = some q → q.2 < N ∧ aK P q.2) →
    GT E Y_Model_settle (d + 1) G0 22 [(0, .ref m), (1, .int q1), (2, .int q2), (3, .int (q3)), (4, .int r), (5, .int (nI j)), (6, .int (0))] [] (mW E G m n s) Q → GT E Y_Model_settle (d + 1) G0 22 [(0, .ref m), (1, .int q1), (2, .int q2), (3, .int (q3)), (4, .int r), (5, .int (nI 0)), (6, .int (0))] [] (mW E G m n s) Q := by
  intro j
  have e27 : tn (s.2 27 R) = ws.length := by rw [hh.2.1]; exact tnI (by omega)
  induction j with
  | zero => intro _ _ k; exact k
  | succ j ih =>
    intro hj hd k
    refine ih (by omega) (fun i q hi hq => hd i q (by omega) hq) ?_
    obtain ⟨q, hq⟩ : ∃ q, ws[j]? = some q := ⟨ws[j], List.getElem?_eq_getElem (by omega)⟩
    have e := (hh.2.2.1 j q hq).2
    obtain ⟨hN, hK⟩ := hd j q (by omega) hq
    have bN := wf.1
    have et : tn (s.2 29 (26 * R + j)) = q.2 := by rw [e]; exact tnI (by omega)
    exact m_W_settle_k hmn hr bR (by rw [hh.2.1]; exact nlt_hi (nI_hi (by omega))) (by omega) (by omega) ⟨by rw [e]; exact nlt_hi (nI_hi (by omega)), by omega⟩ (by rw [et, hs.1]; exact hK) k
theorem nI_m {k : Nat} (h : 1 ≤ k) (b : k < 2 ^ 31) : nI k + (-1) = nI (k - 1) := nI_m1 h b
theorem sub_first {r0 first : Nat} (h : first ≤ r0) (b : r0 < 2 ^ 31) : (nI r0 - nI first).toInt = ((r0 - first : Nat) : Int) := sub_hi (nI_hi b) (nI_hi (by omega)) h
theorem settle_top (hmn : m < n) {first M c : Nat} {done pend : List (Nat × Nat)} {bd : Nat → Option Nat} (wf : wfN P N) (hs : sP s P) (hM : 1 ≤ M) (bM : M ≤ 38) (hh : hR s (41600 + M - 1) c (done ++ pend) bd) (hl : (done ++ pend).length ≤ 26) (hd : ∀ q ∈ done, q.2 < N ∧ aK P q.2)
    (k : GT E Y_Model_settle (d + 1) G0 22 [(0, .ref m), (1, .int (nI first)), (2, .int 41600), (3, .int (nI M)), (4, .int (nI (41600 + M - 1))), (5, .int (nI done.length)), (6, .int 0)] [] (mW E G m n s) Q) : GT E Y_Model_settle (d + 1) G0 5 [(0, .ref m), (1, .int (nI first)), (2, .int 41600), (3, .int (nI M))] [] (mW E G m n s) Q := by
  have e41 : (41600 : Int32).toInt = ((41600 : Nat) : Int) := by decide
  have hz : ¬ nI M ≤ 0 := fun q => by
    have := (le_hi (nI_hi (n := M) (by omega)) (show (0 : Int32).toInt = ((0 : Nat) : Int) by decide)).mp q
    omega
  refine m_W_settle_t hmn hz ?_
  have er : 41600 + nI M - 1 = nI (41600 + M - 1) := i_nI (sub_hi (add_hi e41 (nI_hi (n := M) (by omega)) (by omega)) i1 (by omega))
  rw [er]
  have K := settle_skip (E := E) (d := d) (G := G) (G0 := G0) (Q := Q) (q1 := nI first) (q2 := 41600) (q3 := nI M) hmn wf hs (nI_hi (n := 41600 + M - 1) (by omega)) (by omega) hh hl done.length (by simp) (fun i q hi hq => hd q (by
    rw [List.getElem?_append_left hi] at hq
    exact List.mem_of_getElem? hq)) k
  exact K
set_option maxHeartbeats 1000000 in
theorem settle_row (hmn : m < n) (wf : wfN P N) (first : Nat) : ∀ (f : Nat) (done pend : List (Nat × Nat)) (bd : Nat → Option Nat) (c M r0 : Nat) (s : mS), sP s P → hR s (41600 + M - 1) c (done ++ pend) bd → (done ++ pend).length ≤ 26 → 1 ≤ M → M + aZ P pend ≤ 38 → aW pend < f →
    (∀ q ∈ done, q.2 < N ∧ aK P q.2) → (∀ q ∈ pend, q.2 < N) → s.1 46 = nI r0 → first ≤ r0 → r0 ≤ first + 80 → first ≤ 41500 →
    (∀ s', sF s s' r0 (M - 1) → s'.1 46 = nI (r0 + (aS P f done pend bd).length) → s'.1 47 = s.1 47 → (∀ i A, (aS P f done pend bd)[i]? = some A → hR s' (r0 + i) c A.1 A.2) → r0 + (aS P f done pend bd).length ≤ first + 80 → GT E Y_Model_settle (d + 1) G0 5 [(0, .ref m), (1, .int (nI first)), (2, .int 41600), (3, .int (nI (M - 1)))] [] (mW E G m n s') Q) →
    (∀ s', sF s s' r0 (M - 1) → s'.1 47 = 1 → first + 80 < r0 + (aS P f done pend bd).length → Q (.inl none) (mW E G m n s')) →
    GT E Y_Model_settle (d + 1) G0 22 [(0, .ref m), (1, .int (nI first)), (2, .int 41600), (3, .int (nI M)), (4, .int (nI (41600 + M - 1))), (5, .int (nI done.length)), (6, .int 0)] [] (mW E G m n s) Q := by
  intro f
  induction f with
  | zero => intro done pend bd c M r0 s _ _ _ _ _ h; omega
  | succ f ih =>
    intro done pend bd c M r0 s hs hh hl hM hZ hW hd hp h46 hf1 hf2 hf3 k1 k2
    have bN := wf.1
    have hRi : (nI (41600 + M - 1)).toInt = ((41600 + M - 1 : Nat) : Int) := nI_hi (by omega)
    have e27 : tn (s.2 27 (41600 + M - 1)) = (done ++ pend).length := by rw [hh.2.1]; exact tnI (by omega)
    have hO : ¬ s.2 27 (41600 + M - 1) < 0 := by rw [hh.2.1]; exact nlt_hi (nI_hi (by omega))
    cases pend with
    | nil =>
      have hlen : (done ++ ([] : List (Nat × Nat))).length = done.length := by simp
      refine m_W_settle_o (T := r0) hmn hRi (by omega) (by rw [hh.2.1, hlen]; exact Int32.le_refl _) (by rw [h46]; exact nI_hi (by omega)) (by omega) (by omega) hO (by omega) (fun z => ?_) (fun z => ?_)
      · refine k2 _ ⟨fun j hj => rfl, fun k _ hk => ?_, fun R _ => sR_rf, fun R _ _ => sR_rf⟩ ?_ ?_
        · show upd s.1 47 1 k = _
          exact up_ne hk
        · show upd s.1 47 1 47 = 1
          exact up_at
        · rw [h46] at z
          have q := sub_first (r0 := r0) (first := first) hf1 (by omega)
          rw [z] at q
          have q2 : ((r0 - first : Nat) : Int) = 80 := q.symm.trans (by decide)
          show first + 80 < r0 + 1
          omega
      · have hne : ¬ r0 = first + 80 := fun q => z (by
          rw [h46]
          have w := sub_first (r0 := r0) (first := first) hf1 (by omega)
          rw [show r0 - first = 80 by omega] at w
          exact i_nI w)
        have hc := hR_copy (T := r0) hh (by omega) (by omega)
        have K := k1 (wF (rCopy s (41600 + M - 1) r0) 46 (s.1 46 + 1)) ⟨fun j hj => ?_, fun k hk _ => ?_, fun R hR => ?_, fun R h1 h2 => ?_⟩ ?_ ?_ ?_ ?_
        · rw [nI_m hM (by omega)]
          exact K
        · show (rCopy s (41600 + M - 1) r0).2 j = s.2 j
          unfold rCopy rC2 rC1 rC0 wA wR upA
          dsimp only
          simp only [show ¬ j = 30 by omega, show ¬ j = 29 by omega, show ¬ j = 28 by omega, show ¬ j = 27 by omega, show ¬ j = 26 by omega, if_false]
        · show upd s.1 46 _ k = _
          exact up_ne hk
        · exact sR_copy (F := 41600 + M - 1) (T := r0) (s := s) (R' := R) (by omega) (by omega)
        · exact sR_copy (F := 41600 + M - 1) (T := r0) (s := s) (R' := R) (by omega) (by omega)
        · show upd s.1 46 (s.1 46 + 1) 46 = nI (r0 + 1)
          rw [up_at, h46]
          exact nI_1 r0
        · rfl
        · intro i A hA
          have hi : i = 0 := by
            have := (List.getElem?_eq_some_iff.mp hA).1
            have e1 : (aS P (f + 1) done [] bd).length = 1 := rfl
            omega
          subst hi
          cases hA
          have e : done ++ ([] : List (Nat × Nat)) = done := List.append_nil _
          rw [e] at hc
          exact hc
        · show r0 + 1 ≤ first + 80
          omega
    | cons q r =>
      obtain ⟨p, nd⟩ := q
      have hq : nd < N := hp (p, nd) List.mem_cons_self
      have hr : ∀ y ∈ r, y.2 < N := fun y hy => hp y (List.mem_cons_of_mem _ hy)
      have c0 := wf.2 nd hq
      have len : (done ++ (p, nd) :: r).length = done.length + r.length + 1 := by simp; omega
      have e29 := (hh.2.2.1 _ _ (mid_at (l := done) (r := r) (x := (p, nd)))).2
      have et : tn (s.2 29 (26 * (41600 + M - 1) + done.length)) = nd := by rw [e29]; exact tnI (by omega)
      have hpn : ¬ s.2 29 (26 * (41600 + M - 1) + done.length) < 0 ∧ tn (s.2 29 (26 * (41600 + M - 1) + done.length)) < 700 := ⟨by rw [e29]; exact nlt_hi (nI_hi (by omega)), by omega⟩
      have hkl : done.length < tn (s.2 27 (41600 + M - 1)) := by omega
      simp only [aW] at hW
      simp only [aZ] at hZ
      have hmem : ∀ v, v < N → ∀ y ∈ (p, v) :: r, y.2 < N := fun v hv y hy => by
        rcases List.mem_cons.mp hy with rfl | hy
        · exact hv
        · exact hr y hy
      by_cases e0 : P 3 nd = 0
      · -- any
        have eA : aS P (f + 1) done ((p, nd) :: r) bd = aS P f done r bd := by simp only [aS]; rw [if_pos e0]
        rw [eA] at k1 k2
        have fr : sF s (rDrop s (41600 + M - 1) done.length) r0 (M - 1) := ⟨fun j hj => by
            show (rDrop s (41600 + M - 1) done.length).2 j = s.2 j
            unfold rDrop rBoth wA wR upA
            dsimp only
            simp only [show ¬ j = 29 by omega, show ¬ j = 28 by omega, show ¬ j = 27 by omega, if_false], fun k _ _ => rfl, fun R _ => sR_drop (by omega) (by omega), fun R _ _ => sR_drop (by omega) (by omega)⟩
        refine m_W_settle_y hmn hRi (by omega) hO (by omega) hkl hpn (by rw [et, hs.1]; exact e0) ?_
        refine ih done r bd c M r0 _ (sP_F hs fr) (hR_drop hh (by omega)) (by simp; omega) hM (by omega) (by omega) hd hr h46 hf1 hf2 hf3 (fun s' h1 h2 h3 h4 h5 => k1 s' (sF_tr fr h1 (by omega) (by omega)) h2 h3 h4 h5) (fun s' h1 h2 h3 => k2 s' (sF_tr fr h1 (by omega) (by omega)) h2 h3)
      · by_cases e4 : P 3 nd = 4
        · -- a name
          obtain ⟨w, v, w8, e5, hv, e6, eZ⟩ := c0.2.1 e4
          have ev : tn (P 6 (4 * nd)) = v := by rw [e6]; exact tnI (by omega)
          have ew : tn (P 5 nd) = w := by rw [e5]; exact tnI (by omega)
          have eA : aS P (f + 1) done ((p, nd) :: r) bd = aS P f done ((p, v) :: r) (upB bd w p) := by
            simp only [aS]
            rw [if_neg e0, if_pos e4, ev, ew]
          rw [eA] at k1 k2
          have hw8 : tn (s.2 5 (tn (s.2 29 (26 * (41600 + M - 1) + done.length)))) < 8 := by rw [et, hs.2.1, ew]; exact w8
          have fr : sF s (rBind s (41600 + M - 1) done.length) r0 (M - 1) := ⟨fun j hj => by
            show (rBind s (41600 + M - 1) done.length).2 j = s.2 j
            unfold rBind wA wR upA
            dsimp only
            simp only [show ¬ j = 29 by omega, show ¬ j = 30 by omega, if_false], fun k _ _ => rfl, fun R _ => sR_bind (by omega) hw8 (by omega), fun R _ _ => sR_bind (by omega) hw8 (by omega)⟩
          refine m_W_settle_n hmn hRi (by omega) hO (by omega) hkl hpn (by rw [et, hs.1]; exact e4) ⟨by rw [et, hs.2.1, e5]; exact nlt_hi (nI_hi (by omega)), hw8⟩ ?_
          refine ih done ((p, v) :: r) (upB bd w p) c M r0 _ (sP_F hs fr) (hR_bind hh (by omega) (by omega) (by rw [hs.2.1]; exact e5) w8 (by rw [hs.2.2.1]; exact e6)) (by simp; omega) hM (by simp only [aZ]; omega) (by simp only [aW]; omega) hd (hmem v (by omega)) h46 hf1 hf2 hf3 (fun s' h1 h2 h3 h4 h5 => k1 s' (sF_tr fr h1 (by omega) (by omega)) h2 h3 h4 h5) (fun s' h1 h2 h3 => k2 s' (sF_tr fr h1 (by omega) (by omega)) h2 h3)
        · by_cases e3 : P 3 nd = 3
          · -- an either
            obtain ⟨v, v', hv, e6, hv', e6', eZ⟩ := c0.2.2 e3
            have ev : tn (P 6 (4 * nd)) = v := by rw [e6]; exact tnI (by omega)
            have ev' : tn (P 6 (4 * nd + 1)) = v' := by rw [e6']; exact tnI (by omega)
            have eA : aS P (f + 1) done ((p, nd) :: r) bd = aS P f done ((p, v) :: r) bd ++ aS P f done ((p, v') :: r) bd := by
              simp only [aS]
              rw [if_neg e0, if_neg e4, if_pos e3, ev, ev']
            rw [eA] at k1 k2
            have z1 := (wf.2 v (by omega)).1
            have z2 := (wf.2 v' (by omega)).1
            have fr : sF s (rPart s (41600 + M - 1) done.length) r0 (M - 1) := ⟨fun j hj => by
              show (rPart s (41600 + M - 1) done.length).2 j = s.2 j
              unfold rPart rCopy rC2 rC1 rC0 wA wR upA
              dsimp only
              simp only [show ¬ j = 30 by omega, show ¬ j = 29 by omega, show ¬ j = 28 by omega, show ¬ j = 27 by omega, show ¬ j = 26 by omega, if_false], fun k _ _ => rfl, fun R _ => sR_part (by omega) (by omega) (by omega) (by omega), fun R _ _ => sR_part (by omega) (by omega) (by omega) (by omega)⟩
            have hP' := sP_F hs fr
            have ha := hR_part0 hh (by omega) (by omega) (by rw [hs.2.2.1]; exact e6)
            have hb := hR_part1 hh (by omega) (by omega) (by rw [hs.2.2.1]; exact e6')
            have f46 : (rPart s (41600 + M - 1) done.length).1 46 = nI r0 := h46
            have f47 : (rPart s (41600 + M - 1) done.length).1 47 = s.1 47 := rfl
            refine m_W_settle_e hmn hRi (by omega) hO (by omega) hkl hpn (by rw [et, hs.1]; exact e3) ?_
            refine m_W_settle_p hmn hRi (by omega) ?_
            rw [nI_1]
            generalize rPart s (41600 + M - 1) done.length = s1 at fr hP' ha hb f46 f47 ⊢
            rw [show 41600 + M - 1 + 1 = 41600 + (M + 1) - 1 by omega] at ha
            have ln : ∀ v, (done ++ (p, v) :: r).length ≤ 26 := fun v => by simp; omega
            refine settle_top (M := M + 1) (c := c) (pend := (p, v) :: r) (bd := bd) hmn wf hP' (by omega) (by omega) ha (ln v) hd ?_
            refine ih done ((p, v) :: r) bd c (M + 1) r0 s1 hP' ha (ln v) (by omega) (by simp only [aZ]; omega) (by simp only [aW]; omega) hd (hmem v (by omega)) f46 hf1 hf2 hf3 (fun s2 g1 g2 g3 g4 g5 => ?_) (fun s2 g1 g2 g3 => k2 s2 (sF_tr fr g1 (by omega) (by omega)) g2 (by rw [List.length_append]; omega))
            have hb2 := hR_sR hb (ln v') (g1.2.2.2 _ (by omega) (by omega))
            refine settle_top (M := M) (c := c) (pend := (p, v') :: r) (bd := bd) hmn wf (sP_F hP' g1) hM (by omega) hb2 (ln v') hd ?_
            have fr2 : sF s s2 r0 (M - 1) := sF_tr fr g1 (by omega) (by omega)
            refine ih done ((p, v') :: r) bd c M _ s2 (sP_F hP' g1) hb2 (ln v') hM (by simp only [aZ]; omega) (by simp only [aW]; omega) hd (hmem v' (by omega)) g2 (by omega) g5 hf3 (fun s3 t1 t2 t3 t4 t5 => ?_) (fun s3 t1 t2 t3 => k2 s3 (sF_tr fr2 t1 (by omega) (by omega)) t2 (by rw [List.length_append]; omega))
            refine k1 s3 (sF_tr fr2 t1 (by omega) (by omega)) (by rw [t2, List.length_append, Nat.add_assoc]) (by rw [t3, g3, f47]) (fun i A hA => ?_) (by rw [List.length_append]; omega)
            rcases Nat.lt_or_ge i (aS P f done ((p, v) :: r) bd).length with hlt | hge
            · rw [List.getElem?_append_left hlt] at hA
              have lA := aS_len _ _ _ _ _ (List.mem_of_getElem? hA)
              simp only [List.length_cons] at lA
              exact hR_sR (g4 i A hA) (by omega) (t1.2.2.1 _ (by omega))
            · rw [List.getElem?_append_right hge] at hA
              have K := t4 _ A hA
              rw [show r0 + (aS P f done ((p, v) :: r) bd).length + (i - (aS P f done ((p, v) :: r) bd).length) = r0 + i by omega] at K
              exact K
          · -- settled
            have eA : aS P (f + 1) done ((p, nd) :: r) bd = aS P f (done ++ [(p, nd)]) r bd := by
              simp only [aS]
              rw [if_neg e0, if_neg e4, if_neg e3]
            rw [eA] at k1 k2
            have eL : done ++ (p, nd) :: r = (done ++ [(p, nd)]) ++ r := by simp
            refine m_W_settle_k hmn hRi (by omega) hO (by omega) hkl hpn (by rw [et, hs.1]; exact ⟨e0, e4, e3⟩) ?_
            have K := ih (done ++ [(p, nd)]) r bd c M r0 s hs (by rw [← eL]; exact hh) (by rw [← eL]; exact hl) hM (by omega) (by omega) (fun y hy => by
              rcases List.mem_append.mp hy with hy | hy
              · exact hd y hy
              · rcases List.mem_singleton.mp hy with rfl
                exact ⟨hq, e0, e4, e3⟩) hr h46 hf1 hf2 hf3 k1 k2
            rw [show (done ++ [(p, nd)]).length = done.length + 1 by simp] at K
            exact K
end AU
