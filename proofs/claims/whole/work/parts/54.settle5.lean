/-! The reference's settle: its contract -/
section AV
variable {E : gE} {d : Nat} {G G0 : gS} {m n : Nat} {s s' : mS} {Q : gO → gS → Prop} {P : Nat → Nat → Int32} {N : Nat}
/-- settled: all of it -/
def aL {α : Type} (P : Nat → Nat → Int32) (ws : List (α × Nat)) (bd : Nat → Option α) : List (List (α × Nat) × (Nat → Option α)) := aS P (aW ws + 1) [] ws bd
/-- what settle gives: too many rows, or these, from r0 on -/
def qS (first r0 c : Nat) (L : List (List (Nat × Nat) × (Nat → Option Nat))) (s s' : mS) : Prop :=
  sF s s' r0 0 ∧ ((first + 80 < r0 + L.length ∧ s'.1 47 = 1) ∨ (r0 + L.length ≤ first + 80 ∧ s'.1 47 = s.1 47 ∧ s'.1 46 = nI (r0 + L.length) ∧ ∀ i A, L[i]? = some A → hR s' (r0 + i) c A.1 A.2))
theorem m_W_settle (hmn : m < n) (wf : wfN P N) {first r0 c : Nat} {ws : List (Nat × Nat)} {bd : Nat → Option Nat} (hs : sP s P) (hh : hR s 41600 c ws bd) (hl : ws.length ≤ 26) (hZ : aZ P ws ≤ 37) (hN : ∀ q ∈ ws, q.2 < N) (h46 : s.1 46 = nI r0) (h1 : first ≤ r0) (h2 : r0 ≤ first + 80) (h3 : first ≤ 41500) :
    GM E Y_Model_settle (d + 1) [.ref m, .int (nI first)] (mW E G m n s) (fun o G' => o = .inl none ∧ ∃ s', G' = mW E G m n s' ∧ qS first r0 c (aL P ws bd) s s') := by
  refine m_W_settle_i hmn ?_
  have K := settle_top (E := E) (d := d) (G := G) (G0 := mW E G m n s) (m := m) (n := n) (s := s) (first := first) (M := 1) (c := c) (done := []) (pend := ws) (bd := bd) (Q := fun o G' => o = .inl none ∧ ∃ s', G' = mW E G m n s' ∧ qS first r0 c (aL P ws bd) s s') hmn wf hs (by omega) (by omega) hh hl (fun q hq => by cases hq) ?_
  · exact K
  · refine settle_row hmn wf first (aW ws + 1) [] ws bd c 1 r0 s hs hh hl (by omega) (by omega) (by omega) (fun q hq => by cases hq) hN h46 h1 h2 h3 (fun s' t1 t2 t3 t4 t5 => ?_) (fun s' t1 t2 t3 => ?_)
    · refine m_W_settle_z hmn (by decide) ⟨rfl, s', rfl, t1, Or.inr ⟨t5, t3, t2, t4⟩⟩
    · exact ⟨rfl, s', rfl, t1, Or.inl ⟨t3, t2⟩⟩
/-- a settled row settles to itself -/
theorem aS_id {α : Type} : ∀ (f : Nat) (done pend : List (α × Nat)) (bd : Nat → Option α), (∀ q ∈ pend, aK P q.2) → pend.length < f → aS P f done pend bd = [(done ++ pend, bd)] := by
  intro f
  induction f with
  | zero => intro done pend bd _ h; omega
  | succ f ih =>
    intro done pend bd hk h
    cases pend with
    | nil => simp [aS]
    | cons q r =>
      have hq := hk q List.mem_cons_self
      simp only [aS]
      rw [if_neg hq.1, if_neg hq.2.1, if_neg hq.2.2, ih (done ++ [q]) r bd (fun y hy => hk y (List.mem_cons_of_mem _ hy)) (by simp at h; omega)]
      simp
theorem aW_len {α : Type} : ∀ (l : List (α × Nat)), l.length ≤ aW l
  | [] => Nat.zero_le _
  | q :: r => by
    have := aW_len r
    simp only [List.length_cons, aW]
    omega
theorem aL_id {α : Type} {ws : List (α × Nat)} {bd : Nat → Option α} (h : ∀ q ∈ ws, aK P q.2) : aL P ws bd = [(ws, bd)] := by
  unfold aL
  rw [aS_id _ _ _ _ h (by have := aW_len ws; omega)]
  rfl
/-- what settling gives is settled, and keeps the nodes' bound -/
theorem aS_ok {α : Type} (wf : wfN P N) : ∀ (f : Nat) (done pend : List (α × Nat)) (bd : Nat → Option α), (∀ q ∈ done, q.2 < N ∧ aK P q.2) → (∀ q ∈ pend, q.2 < N) → ∀ A ∈ aS P f done pend bd, ∀ q ∈ A.1, q.2 < N ∧ aK P q.2 := by
  intro f
  induction f with
  | zero =>
    intro done pend bd _ _ A h
    cases h
  | succ f ih =>
    intro done pend bd hd hp A h
    cases pend with
    | nil =>
      have e := List.mem_singleton.mp h
      subst e
      exact hd
    | cons q r =>
      have hq : q.2 < N := hp q List.mem_cons_self
      have hr : ∀ y ∈ r, y.2 < N := fun y hy => hp y (List.mem_cons_of_mem _ hy)
      have bN := wf.1
      have hmem : ∀ v, v < q.2 → ∀ y ∈ (q.1, v) :: r, y.2 < N := fun v hv y hy => by
        rcases List.mem_cons.mp hy with rfl | hy
        · exact Nat.lt_trans hv hq
        · exact hr y hy
      simp only [aS] at h
      split at h
      · exact ih _ _ _ hd hr A h
      · split at h
        · rename_i _ e4
          obtain ⟨w, v, w8, e5, hv, e6, -⟩ := (wf.2 q.2 hq).2.1 e4
          rw [show tn (P 6 (4 * q.2)) = v by rw [e6]; exact tnI (by omega)] at h
          exact ih _ _ _ hd (hmem v hv) A h
        · split at h
          · rename_i _ _ e3
            obtain ⟨v, v', hv, e6, hv', e6', -⟩ := (wf.2 q.2 hq).2.2 e3
            rw [show tn (P 6 (4 * q.2)) = v by rw [e6]; exact tnI (by omega), show tn (P 6 (4 * q.2 + 1)) = v' by rw [e6']; exact tnI (by omega)] at h
            rcases List.mem_append.mp h with h | h
            · exact ih _ _ _ hd (hmem v hv) A h
            · exact ih _ _ _ hd (hmem v' hv') A h
          · rename_i e0 e4 e3
            refine ih _ _ _ (fun y hy => ?_) hr A h
            rcases List.mem_append.mp hy with hy | hy
            · exact hd y hy
            · rcases List.mem_singleton.mp hy with rfl
              exact ⟨hq, e0, e4, e3⟩
theorem aZ_app {α : Type} : ∀ (l r : List (α × Nat)), aZ P (l ++ r) = aZ P l + aZ P r
  | [], r => by simp [aZ]
  | q :: l, r => by
    simp only [List.cons_append, aZ]
    rw [aZ_app l r]
    omega
/-- settling makes wishes no greater -/
theorem aS_Z {α : Type} (wf : wfN P N) : ∀ (f : Nat) (done pend : List (α × Nat)) (bd : Nat → Option α), (∀ q ∈ pend, q.2 < N) → ∀ A ∈ aS P f done pend bd, aZ P A.1 ≤ aZ P done + aZ P pend := by
  intro f
  induction f with
  | zero =>
    intro done pend bd _ A h
    cases h
  | succ f ih =>
    intro done pend bd hp A h
    cases pend with
    | nil =>
      have e := List.mem_singleton.mp h
      subst e
      exact Nat.le_add_right _ _
    | cons q r =>
      have hq : q.2 < N := hp q List.mem_cons_self
      have hr : ∀ y ∈ r, y.2 < N := fun y hy => hp y (List.mem_cons_of_mem _ hy)
      have bN := wf.1
      have hmem : ∀ v, v < q.2 → ∀ y ∈ (q.1, v) :: r, y.2 < N := fun v hv y hy => by
        rcases List.mem_cons.mp hy with rfl | hy
        · exact Nat.lt_trans hv hq
        · exact hr y hy
      simp only [aS] at h
      simp only [aZ]
      split at h
      · have := ih _ _ _ hr A h
        omega
      · split at h
        · rename_i _ e4
          obtain ⟨w, v, w8, e5, hv, e6, eZ⟩ := (wf.2 q.2 hq).2.1 e4
          rw [show tn (P 6 (4 * q.2)) = v by rw [e6]; exact tnI (by omega)] at h
          have := ih _ _ _ (hmem v hv) A h
          simp only [aZ] at this
          omega
        · split at h
          · rename_i _ _ e3
            obtain ⟨v, v', hv, e6, hv', e6', eZ⟩ := (wf.2 q.2 hq).2.2 e3
            rw [show tn (P 6 (4 * q.2)) = v by rw [e6]; exact tnI (by omega), show tn (P 6 (4 * q.2 + 1)) = v' by rw [e6']; exact tnI (by omega)] at h
            rcases List.mem_append.mp h with h | h
            · have := ih _ _ _ (hmem v hv) A h
              simp only [aZ] at this
              omega
            · have := ih _ _ _ (hmem v' hv') A h
              simp only [aZ] at this
              omega
          · have := ih _ _ _ hr A h
            rw [aZ_app] at this
            simp only [aZ] at this
            omega
/-- settling doesn't look at places -/
theorem aS_map {α β : Type} (φ : α → β) : ∀ (f : Nat) (done pend : List (α × Nat)) (bd : Nat → Option α), aS P f (done.map (fun q => (φ q.1, q.2))) (pend.map (fun q => (φ q.1, q.2))) (fun k => (bd k).map φ) = (aS P f done pend bd).map (fun A => (A.1.map (fun q => (φ q.1, q.2)), fun k => (A.2 k).map φ)) := by
  intro f
  induction f with
  | zero => intro done pend bd; rfl
  | succ f ih =>
    intro done pend bd
    cases pend with
    | nil => rfl
    | cons q r =>
      have hu : ∀ w, upB (fun k => (bd k).map φ) w (φ q.1) = fun k => (upB bd w q.1 k).map φ := fun w => funext fun k => by
        unfold upB
        by_cases e : k = w
        · rw [if_pos e, if_pos e]
          rfl
        · rw [if_neg e, if_neg e]
      simp only [List.map_cons, aS]
      split
      · exact ih done r bd
      · split
        · rw [hu]
          exact ih done ((q.1, tn (P 6 (4 * q.2))) :: r) _
        · split
          · rw [List.map_append]
            have a := ih done ((q.1, tn (P 6 (4 * q.2))) :: r) bd
            have b := ih done ((q.1, tn (P 6 (4 * q.2 + 1))) :: r) bd
            simp only [List.map_cons] at a b
            rw [a, b]
          · have a := ih (done ++ [q]) r bd
            simp only [List.map_append, List.map_cons, List.map_nil] at a
            exact a
theorem aW_map {α β : Type} (φ : α → β) : ∀ (l : List (α × Nat)), aW (l.map (fun q => (φ q.1, q.2))) = aW l
  | [] => rfl
  | q :: r => by
    simp only [List.map_cons, aW]
    rw [aW_map φ r]
theorem aZ_map {α β : Type} (φ : α → β) : ∀ (l : List (α × Nat)), aZ P (l.map (fun q => (φ q.1, q.2))) = aZ P l
  | [] => rfl
  | q :: r => by
    simp only [List.map_cons, aZ]
    rw [aZ_map φ r]
theorem aL_map {α β : Type} (φ : α → β) (ws : List (α × Nat)) (bd : Nat → Option α) : aL P (ws.map (fun q => (φ q.1, q.2))) (fun k => (bd k).map φ) = (aL P ws bd).map (fun A => (A.1.map (fun q => (φ q.1, q.2)), fun k => (A.2 k).map φ)) := by
  unfold aL
  rw [aW_map]
  exact aS_map φ _ [] ws bd
end AV
