/-! The reference's firstRows: its contract -/
section AX
variable {E : gE} {d : Nat} {G G0 : gS} {m n : Nat} {s s' : mS} {Q : gO → gS → Prop} {P : Nat → Nat → Int32} {N : Nat}
/-- rows from r0 on -/
def hRs (s : mS) (r0 : Nat) (L : List (Nat × List (Nat × Nat) × (Nat → Option Nat))) : Prop := ∀ i A, L[i]? = some A → hR s (r0 + i) A.1 A.2.1 A.2.2
/-- rows of the case c -/
def aC {α : Type} (c : Nat) (l : List (List (α × Nat) × (Nat → Option α))) : List (Nat × List (α × Nat) × (Nat → Option α)) := l.map (fun A => (c, A.1, A.2))
/-- the rows of the first C cases: their patterns are wished of the whole value -/
def aF {α : Type} (P : Nat → Nat → Int32) (o : α) (cp : Nat → Nat) : Nat → List (Nat × List (α × Nat) × (Nat → Option α))
  | 0 => []
  | C + 1 => aF P o cp C ++ aC C (aL P [(o, cp C)] (fun _ => none))
theorem aF_mono {α : Type} {o : α} {cp : Nat → Nat} : ∀ (w c : Nat), (aF P o cp c).length ≤ (aF P o cp (c + w)).length
  | 0, c => Nat.le_refl _
  | w + 1, c => by
    have := aF_mono (o := o) (cp := cp) w c
    rw [← Nat.add_assoc]
    simp only [aF, List.length_append]
    omega
theorem hRs_app {r0 : Nat} {L L' : List (Nat × List (Nat × Nat) × (Nat → Option Nat))} (h : hRs s r0 L) (h' : hRs s (r0 + L.length) L') : hRs s r0 (L ++ L') := by
  intro i A hA
  rcases Nat.lt_or_ge i L.length with hlt | hge
  · rw [List.getElem?_append_left hlt] at hA
    exact h i A hA
  · rw [List.getElem?_append_right hge] at hA
    have K := h' _ A hA
    rw [show r0 + L.length + (i - L.length) = r0 + i by omega] at K
    exact K
theorem hRs_sF {r0 r w : Nat} {L : List (Nat × List (Nat × Nat) × (Nat → Option Nat))} (h : hRs s r0 L) (h' : sF s s' r w) (hr : r0 + L.length ≤ r) (hl : ∀ A ∈ L, A.2.1.length ≤ 26) : hRs s' r0 L := by
  intro i A hA
  have hlt : i < L.length := (List.getElem?_eq_some_iff.mp hA).1
  exact hR_sR (h i A hA) (hl A (List.mem_of_getElem? hA)) (h'.2.2.1 _ (by omega))
theorem rFst_F {c r : Nat} (hr : r ≤ 41600) : sF s (rFst s c) r 0 := by
  refine ⟨fun j hj => ?_, fun k _ _ => rfl, fun R hR => ⟨?_, ?_, fun i hi => ⟨?_, ?_⟩, fun i hi => ?_⟩, fun R h1 h2 => by omega⟩
  · show (rFst s c).2 j = s.2 j
    unfold rFst rFst0 wA wR upA
    dsimp only
    simp only [show ¬ j = 30 by omega, show ¬ j = 29 by omega, show ¬ j = 28 by omega, show ¬ j = 27 by omega, show ¬ j = 26 by omega, if_false]
  · show upd (s.2 26) 41600 (nI c) R = _
    exact up_ne (by omega)
  · show upd (s.2 27) 41600 1 R = _
    exact up_ne (by omega)
  · show upd (s.2 28) (26 * 41600) 0 (26 * R + i) = _
    exact up_ne (by omega)
  · show upd (s.2 29) (26 * 41600) (s.2 11 c) (26 * R + i) = _
    exact up_ne (by omega)
  · show blk (s.2 30) (8 * 41600) 8 (-1) (8 * R + i) = _
    exact if_neg (by omega)
theorem rFst_R {c v : Nat} (hv : s.2 11 c = nI v) : hR (rFst s c) 41600 c [(0, v)] (fun _ => none) := by
  refine ⟨?_, ?_, fun k q hk => ?_, fun k hk => ?_⟩
  · show upd (s.2 26) 41600 (nI c) 41600 = _
    exact up_at
  · show upd (s.2 27) 41600 1 41600 = _
    exact up_at
  · have hlt : k < 1 := (List.getElem?_eq_some_iff.mp hk).1
    have e : k = 0 := by omega
    subst e
    cases hk
    refine ⟨?_, ?_⟩
    · show upd (s.2 28) (26 * 41600) 0 (26 * 41600) = _
      exact up_at
    · show upd (s.2 29) (26 * 41600) (s.2 11 c) (26 * 41600) = _
      rw [up_at]
      exact hv
  · show blk (s.2 30) (8 * 41600) 8 (-1) (8 * 41600 + k) = -1
    exact if_pos (by omega)
/-- what firstRows gives -/
def qF (P : Nat → Nat → Int32) (cp : Nat → Nat) (C : Nat) (s s' : mS) : Prop :=
  sF s s' 0 0 ∧ ((80 < (aF P 0 cp C).length ∧ s'.1 47 = 1) ∨ ((aF P 0 cp C).length ≤ 80 ∧ s'.1 47 = 0 ∧ s'.1 46 = nI (aF P 0 cp C).length ∧ hRs s' 0 (aF P 0 cp C)))
theorem aL_len {α : Type} {ws : List (α × Nat)} {bd : Nat → Option α} : ∀ A ∈ aL P ws bd, A.1.length ≤ ws.length := fun A h => by
  have := aS_len _ _ _ _ A h
  simpa using this
theorem aF_len {α : Type} {o : α} {cp : Nat → Nat} : ∀ (C : Nat), ∀ A ∈ aF P o cp C, A.2.1.length ≤ 1
  | 0, A, h => by cases h
  | C + 1, A, h => by
    rcases List.mem_append.mp h with h | h
    · exact aF_len C A h
    · obtain ⟨B, hB, rfl⟩ := List.mem_map.mp h
      exact aL_len B hB
theorem first_loop (hmn : m < n) (wf : wfN P N) {C : Nat} {cp : Nat → Nat} (bC : C ≤ 20) (hcp : ∀ c, c < C → cp c < N ∧ tn (P 7 (cp c)) ≤ 37) (hQ : ∀ s', qF P cp C s s' → Q (.inl none) (mW E G m n s')) (hP : sP s P) (h11 : ∀ c, c < C → s.2 11 c = nI (cp c)) (h16 : s.1 16 = nI C) :
    ∀ (w c : Nat) (s1 : mS), C < c + w → c ≤ C → sF s s1 0 0 → (aF P 0 cp c).length ≤ 80 → s1.1 47 = 0 → s1.1 46 = nI (aF P 0 cp c).length → hRs s1 0 (aF P 0 cp c) → GT E Y_Model_firstRows (d + 2) G0 15 [(0, .ref m), (1, .int 41600), (2, .int (nI c))] [] (mW E G m n s1) Q := by
  intro w
  induction w with
  | zero => intro c s1 h1 h2; omega
  | succ w ih =>
    intro c s1 hw hc fr hl h47 h46 hh
    have h16' : s1.1 16 = nI C := (fr.2.1 16 (by decide) (by decide)).trans h16
    by_cases e : c < C
    · refine m_W_first_s hmn h16' e bC h47 ?_
      have hcc := hcp c e
      have e11 : s1.2 11 c = nI (cp c) := by rw [fr.1 11 (by decide)]; exact h11 c e
      have fr1 : sF s1 (rFst s1 c) (aF P 0 cp c).length 0 := rFst_F (by omega)
      have K := m_W_settle (E := E) (d := d) (G := G) (m := m) (n := n) (s := rFst s1 c) (P := P) (N := N) (first := 0) (r0 := (aF P 0 cp c).length) (c := c) (ws := [(0, cp c)]) (bd := fun _ => none) hmn wf (sP_F (sP_F hP fr) fr1) (rFst_R e11) (by simp) (by simp only [aZ]; omega) (fun q hq => by
        rcases List.mem_singleton.mp hq with rfl
        exact hcc.1) h46 (by omega) (by omega) (by omega)
      rw [show nI 0 = 0 from rfl] at K
      refine c_V (as := [.int 0]) kv_Model_settle ml_Model_198 rfl mw_f K rfl (Nat.le_of_ble_eq_true rfl) rfl d_Model_firstRows_97 (fun v G' hq => ?_) (fun D G' hq => absurd hq.1 (by simp))
      obtain ⟨hv, s2, rfl, f2, hout⟩ := hq
      cases hv
      show GT E Y_Model_firstRows (d + 2) G0 100 [(0, .ref m), (1, .int 41600), (2, .int (nI c)), (3, .int (nI 8))] [] (mW E G m n s2) Q
      have e1 : nI c + Int32.ofInt 1 = nI (c + 1) := nI_1 c
      refine g_iinc (v := nI (c + 1)) d_Model_firstRows_100 rfl e1 (by decide) rfl ?_
      refine g_goto (tgt := 15) d_Model_firstRows_103 (by decide) ?_
      refine g_weak (lv := [(0, .ref m), (1, .int 41600), (2, .int (nI (c + 1))), (3, .int (nI 8))]) (lv' := [(0, .ref m), (1, .int 41600), (2, .int (nI (c + 1)))]) (by simp) (by simp) ?_
      have fr2 : sF s s2 0 0 := sF_tr fr (sF_tr fr1 f2 (by omega) (by omega)) (by omega) (by omega)
      have el : (aF P 0 cp (c + 1)).length = (aF P 0 cp c).length + (aL P [(0, cp c)] (fun _ => none)).length := by
        simp only [aF, List.length_append, aC, List.length_map]
      rcases hout with ⟨o1, o2⟩ | ⟨o1, o2, o3, o4⟩
      · refine m_W_first_e hmn (C := C) ((fr2.2.1 16 (by decide) (by decide)).trans h16) (Or.inr (by rw [o2]; decide)) ⟨by omega, bC⟩ (hQ s2 ⟨fr2, Or.inl ⟨?_, o2⟩⟩)
        have := aF_mono (P := P) (o := 0) (cp := cp) (C - (c + 1)) (c + 1)
        rw [show c + 1 + (C - (c + 1)) = C by omega] at this
        omega
      · refine ih (c + 1) s2 (by omega) (by omega) fr2 (by omega) (o2.trans h47) (by rw [o3, el]) ?_
        refine hRs_app (hRs_sF hh (sF_tr fr1 f2 (by omega) (by omega)) (by omega) (fun A hA => by have := aF_len (P := P) c A hA; omega)) ?_
        intro i A hA
        rw [aC, List.getElem?_map] at hA
        cases hB : (aL P [(0, cp c)] (fun _ => none))[i]? with
        | none => rw [hB] at hA; cases hA
        | some B =>
          rw [hB] at hA
          cases hA
          have := o4 i B hB
          rw [Nat.zero_add]
          exact this
    · have ec : c = C := by omega
      subst ec
      exact m_W_first_e hmn h16' (Or.inl e) ⟨bC, bC⟩ (hQ s1 ⟨fr, Or.inr ⟨hl, h47, h46, hh⟩⟩)
theorem m_W_firstRows (hmn : m < n) (wf : wfN P N) {C : Nat} {cp : Nat → Nat} (bC : C ≤ 20) (hcp : ∀ c, c < C → cp c < N ∧ tn (P 7 (cp c)) ≤ 37) (hP : sP s P) (h11 : ∀ c, c < C → s.2 11 c = nI (cp c)) (h16 : s.1 16 = nI C) :
    GM E Y_Model_firstRows (d + 2) [.ref m] (mW E G m n s) (fun o G' => o = .inl none ∧ ∃ s', G' = mW E G m n s' ∧ qF P cp C s s') := by
  refine m_W_first_i hmn ?_
  have fr : sF s (wF (wF s 46 0) 47 0) 0 0 := ⟨fun j _ => rfl, fun k h1 h2 => by
    show upd (upd s.1 46 0) 47 0 k = _
    rw [up_ne h2, up_ne h1], fun R h => by omega, fun R h1 h2 => by omega⟩
  exact first_loop (E := E) (d := d) (G := G) (G0 := mW E G m n s) (s := s) hmn wf bC hcp (fun s' h => ⟨rfl, s', rfl, h⟩) hP h11 h16 (C + 1) 0 _ (by omega) (by omega) fr (by simp [aF]) rfl rfl (fun i A h => by cases h)
end AX
