/-! The reference's build: its contract -/
section BR
variable {E : gE} {d : Nat} {G G0 : gS} {m n : Nat} {s s' : mS} {Q : gO → gS → Prop} {P : Nat → Nat → Int32} {N X X' t0 C : Nat} {pl pl' pos : Nat → List Nat} {cp : Nat → Nat}
/-- the cases: their patterns are whole, of one type, not too great -/
def wfC (P : Nat → Nat → Int32) (N : Nat) (pos : Nat → List Nat) (t0 C : Nat) (cp : Nat → Nat) : Prop := ∀ c, c < C → P 11 c = nI (cp c) ∧ cp c < N ∧ tn (P 7 (cp c)) ≤ 24 ∧ P 4 (cp c) = nI t0 ∧ pos (cp c) = []
theorem aF_len2 {α β : Type} {a : α} {b : β} : ∀ (C : Nat), (aF P a cp C).length = (aF P b cp C).length := by
  intro C
  induction C with
  | zero => rfl
  | succ C ih =>
    simp only [aF, List.length_append, aC, List.length_map]
    have e := aL_map (P := P) (fun _ : α => b) [(a, cp C)] (fun _ => none)
    have := congrArg List.length e
    rw [List.length_map] at this
    rw [ih]
    have e2 : (aL P (List.map (fun q => ((fun _ : α => b) q.1, q.2)) [(a, cp C)]) fun k => Option.map (fun _ : α => b) ((fun _ => none) k)) = aL P [(b, cp C)] (fun _ => none) := rfl
    rw [e2] at this
    omega
theorem aF_hP (hpl : pl 0 = []) : ∀ (C r : Nat), hRs s r (aF P 0 cp C) → hPs s pl 1 r (aF P ([] : List Nat) cp C) := by
  intro C
  induction C with
  | zero => intro r _ i A h; simp [aF] at h
  | succ C ih =>
    intro r h
    have h1 : hRs s r (aF P 0 cp C) := fun i A hi => h i A (by
      have hl : i < (aF P 0 cp C).length := (List.getElem?_eq_some_iff.mp hi).1
      show (aF P 0 cp C ++ _)[i]? = some A
      rw [List.getElem?_append_left hl]
      exact hi)
    refine hPs_app (ih r h1) ?_
    have e : aC C (aL P [(([] : List Nat), cp C)] (fun _ => none)) = aC C (aL P ([(0, cp C)].map (fun q => (pl q.1, q.2))) (fun k => ((fun _ => none : Nat → Option Nat) k).map pl)) := by
      show _ = aC C (aL P [(pl 0, cp C)] (fun _ => none))
      rw [hpl]
    rw [e]
    refine hP_of (P := P) (X := 1) (fun q hq => ?_) (fun k p hk => by cases hk) (fun i B hB => ?_)
    · rcases List.mem_singleton.mp hq with rfl
      exact Nat.zero_lt_one
    · have K := h ((aF P 0 cp C).length + i) (C, B.1, B.2) (by
        show (aF P 0 cp C ++ aC C _)[(aF P 0 cp C).length + i]? = _
        rw [List.getElem?_append_right (Nat.le_add_right _ _), Nat.add_sub_cancel_left, aC, List.getElem?_map, hB]
        rfl)
      rw [aF_len2 (a := ([] : List Nat)) (b := 0)]
      rw [← Nat.add_assoc] at K
      exact K
theorem aF_ok (wf : wfA P N pos) (hcp : wfC P N pos t0 C cp) : ∀ k, k ≤ C → ∀ A ∈ aF P ([] : List Nat) cp k, pRk P N pos t0 C [] [] A := by
  intro k
  induction k with
  | zero => intro _ A h; cases h
  | succ k ih =>
    intro hk A h
    rcases List.mem_append.mp h with h | h
    · exact ih (by omega) A h
    · obtain ⟨c1, c2, c3, c4, c5⟩ := hcp k (by omega)
      have hw : ∀ q ∈ [(([] : List Nat), cp k)], wOk P N pos t0 q := fun q hq => by
        rcases List.mem_singleton.mp hq with rfl
        exact ⟨c2, c5.symm, c4⟩
      have ok := aL_rOk (c := k) (bd := fun _ => none) wf hw (List.pairwise_singleton _ _) (by simp only [aZ]; omega) A h
      obtain ⟨B, hB, rfl⟩ := List.mem_map.mp h
      refine ⟨ok, by show k < C; omega, by simp, fun q hq => ⟨by simp, fun ρ e z => ?_, ?_⟩⟩
      · obtain ⟨q0, h1, h2, h3⟩ := aS_from wf.1 _ [] _ _ (fun y hy => (hw y hy).1) B hB q hq
        have h1' := List.mem_singleton.mp (h1.resolve_left (fun f => by cases f))
        rw [h2, h1'] at z
        have := z.length_le
        simp at this
      · obtain ⟨q0, h1, h2, h3⟩ := aS_from wf.1 _ [] _ _ (fun y hy => (hw y hy).1) B hB q hq
        have h1' := List.mem_singleton.mp (h1.resolve_left (fun f => by cases f))
        rw [h1'] at h2 h3
        rw [h2]
        show ([] : List Nat).length + tn (P 7 q.2) ≤ 24
        have h3' : tn (P 7 q.2) ≤ tn (P 7 (cp k)) := h3
        simp only [List.length_nil]
        omega
/-- the tree of the cases -/
def an0 : aAn := fun _ => (0, 0)
def st0 : aSt := ([], 0, 0, 0, [], 0, 0, 0)
def aTree (P : Nat → Nat → Int32) (t0 : Nat) (cp : Nat → Nat) (C : Nat) : Option aSt := if 80 < (aF P ([] : List Nat) cp C).length then none else aB P t0 600 (aF P [] cp C) (-1) 0 0 an0 st0
/-- build leaves all else -/
def bOk (s s' : mS) : Prop := (∀ j, j < 13 ∨ j = 25 ∨ j = 37 ∨ j = 38 → s'.2 j = s.2 j) ∧ ∀ k, (0 < k ∧ k < 19) ∨ (26 < k ∧ k ≠ 34 ∧ k ≠ 46 ∧ k ≠ 47) → s'.1 k = s.1 k
def qBd (E : gE) (G : gS) (m n : Nat) (P : Nat → Nat → Int32) (N t0 : Nat) (pos : Nat → List Nat) (cp : Nat → Nat) (C : Nat) (s : mS) : gO → gS → Prop := fun o G' =>
  (∃ st, aTree P t0 cp C = some st ∧ o = .inl (some (.int (nI st.1.length))) ∧ ∃ s' pl' X', G' = mW E G m n s' ∧ bOk s s' ∧ s'.1 0 = 0 ∧ s'.1 19 = 1 ∧ eSt P N t0 pos pl' X' an0 st s') ∨
  (aTree P t0 cp C = none ∧ o = .inl (some (.int 0)) ∧ ∃ s', G' = mW E G m n s' ∧ bOk s s' ∧ s'.1 0 = 2 ∧ s'.1 19 = 0)
theorem m_W_build (hmn : m < n) (wf : wfA P N pos) (wk : wfK P N) (ht0 : t0 < 16) (hNC : N + C ≤ 511) (hC20 : C ≤ 20) (hC1 : 1 ≤ C) (h0 : ∀ t, tn (P 0 t) ≤ 9) (hAr : ∀ π w, ¬ P 0 (tyP P t0 π) ≤ 1 → w < tn (P 0 (tyP P t0 π)) - 1 → ∃ a, a ≤ 4 ∧ P 1 (8 * tyP P t0 π + w) = nI a) (hcp : wfC P N pos t0 C cp) (hs : sPA s P) (h16 : s.1 16 = nI C) :
    GM E Y_Model_build (d + 5) [.ref m] (mW E G m n s) (qBd E G m n P N t0 pos cp C s) := by
  have bN := wf.1.1
  obtain ⟨c1, c2, c3, c4, c5⟩ := hcp 0 (by omega)
  have e11 : s.2 11 0 = nI (cp 0) := by rw [hs 11 (by omega)]; exact c1
  have t11 : tn (s.2 11 0) = cp 0 := by rw [e11]; exact tnI (by omega)
  refine m_W_b_i hmn (by rw [h16]; exact nI_ne (b := 0) (by omega) (by omega) (by omega)) ⟨by rw [e11]; exact nI_pos (by omega), by omega⟩ ?_
  -- what the beginning has written
  have bj : ∀ j, j ≠ 20 → j ≠ 21 → j ≠ 22 → j ≠ 23 → (rB2 s).2 j = s.2 j := fun j h1 h2 h3 h4 => by
    unfold rB2 rB1 rB0 wF wA wR upA
    dsimp only
    simp only [h1, h2, h3, h4, if_false]
  have bf : ∀ k, k ≠ 0 → k ≠ 19 → k ≠ 20 → k ≠ 21 → k ≠ 22 → k ≠ 23 → k ≠ 24 → k ≠ 25 → k ≠ 26 → k ≠ 34 → (rB2 s).1 k = s.1 k := fun k h0 h1 h2 h3 h4 h5 h6 h7 h8 h9 => by
    show (rB0 s).1 k = _
    unfold rB0
    rw [wF_ne h9, wF_ne h8, wF_ne h7, wF_ne h6, wF_ne h5, wF_ne h4, wF_ne h3, wF_ne h2, wF_ne h1, wF_ne h0]
  have bz : ∀ k, k = 0 ∨ (19 ≤ k ∧ k ≤ 26) → (rB2 s).1 k = 0 := fun k hk => by
    show (rB0 s).1 k = _
    rcases (show k = 0 ∨ k = 19 ∨ k = 20 ∨ k = 21 ∨ k = 22 ∨ k = 23 ∨ k = 24 ∨ k = 25 ∨ k = 26 by omega) with rfl | rfl | rfl | rfl | rfl | rfl | rfl | rfl | rfl <;> rfl
  have b34 : (rB2 s).1 34 = nI 1 := rfl
  have b20 : (rB2 s).2 20 0 = 0 := by show upd (s.2 20) 0 0 0 = _; exact up_at
  have b21 : (rB2 s).2 21 0 = nI t0 := by
    show upd (s.2 21) 0 (s.2 4 (tn (s.2 11 0))) 0 = _
    rw [up_at, t11, hs 4 (by omega)]
    exact c4
  have b23 : (rB2 s).2 23 0 = 0 := by show upd (s.2 23) 0 0 0 = _; exact up_at
  have b22 : ∀ e, e < 32 → (rB2 s).2 22 e = 0 := fun e he => by
    show blk (s.2 22) 0 32 0 e = _
    exact if_pos (by omega)
  generalize rB2 s = s1 at bj bf bz b34 b20 b21 b23 b22 ⊢
  have hs1 : sPA s1 P := fun j hj => (bj j (by omega) (by omega) (by omega) (by omega)).trans (hs j hj)
  have K := m_W_firstRows (E := E) (d := d + 2) (G := G) (m := m) (n := n) (s := s1) (P := P) (N := N) (C := C) (cp := cp) hmn wf.1 hC20 (fun c hc => ⟨(hcp c hc).2.1, by have := (hcp c hc).2.2.1; omega⟩) (sPA_P hs1) (fun c hc => by rw [hs1 11 (by omega)]; exact (hcp c hc).1) (by rw [bf 16 (by decide) (by decide) (by decide) (by decide) (by decide) (by decide) (by decide) (by decide) (by decide) (by decide)]; exact h16)
  refine c_V (as := []) kv_Model_firstRows ml_Model_246 rfl mw_f K rfl (Nat.le_of_ble_eq_true rfl) rfl d_Model_build_119 (fun v G' hq => ?_) (fun Cx G' hq => absurd hq.1 (by simp))
  obtain ⟨ho, s2, rfl, f2, hout⟩ := hq
  cases ho
  show GT E Y_Model_build (d + 5) (mW E G m n s) 122 [(0, .ref m)] [] (mW E G m n s2) _
  refine m_W_b_j hmn ?_
  have el := aF_len2 (P := P) (cp := cp) (a := ([] : List Nat)) (b := 0) C
  -- the frame so far
  have g2 : ∀ j, j < 26 ∨ 30 < j → s2.2 j = s1.2 j := f2.1
  have hS : ∀ t : mS, t = wA (wA s2 31 0 0) 32 0 (s2.1 46) → (∀ j, j ≠ 31 → j ≠ 32 → t.2 j = s2.2 j) ∧ t.1 = s2.1 ∧ t.2 31 0 = nI 0 ∧ t.2 32 0 = s2.1 46 := fun t ht => by
    subst ht
    refine ⟨fun j h1 h2 => ?_, rfl, ?_, ?_⟩
    · unfold wA wR upA
      dsimp only
      simp only [h1, h2, if_false]
    · show upd (s2.2 31) 0 0 0 = _
      exact up_at
    · show upd (s2.2 32) 0 (s2.1 46) 0 = _
      exact up_at
  obtain ⟨p1, p2, p3, p4⟩ := hS _ rfl
  generalize wA (wA s2 31 0 0) 32 0 (s2.1 46) = s3 at p1 p2 p3 p4 ⊢
  have bok3 : bOk s s3 := by
    refine ⟨fun j hj => ?_, fun k hk => ?_⟩
    · rw [p1 j (by omega) (by omega), g2 j (by omega)]
      exact bj j (by omega) (by omega) (by omega) (by omega)
    · rw [p2, f2.2.1 k (by omega) (by omega)]
      exact bf k (by omega) (by omega) (by omega) (by omega) (by omega) (by omega) (by omega) (by omega) (by omega) (by omega)
  have fz : ∀ k, k = 0 ∨ (19 ≤ k ∧ k ≤ 26) → s3.1 k = 0 := fun k hk => by
    rw [p2, f2.2.1 k (by omega) (by omega)]
    exact bz k hk
  have bX : ∀ t : mS, fX s3 t 0 0 → bOk s t := fun t ht => ⟨fun j hj => (ht.1 j (by omega)).trans (bok3.1 j hj), fun k hk => (ht.2.1 k (by omega)).trans (bok3.2 k hk)⟩
  have tooMuch : ∀ (t : mS) (dd wy fr : Int32), aTree P t0 cp C = none → fX s3 t 0 0 → t.1 47 = 1 → GT E Y_Model_build (d + 5) (mW E G m n s) 474 [(0, .ref m), (1, .int dd), (2, .int wy), (3, .int fr)] [] (mW E G m n t) (qBd E G m n P N t0 pos cp C s) := fun t dd wy fr hn hX h47 => by
    refine m_W_b_r2 hmn (by rw [h47]; decide) (Or.inr ⟨hn, rfl, wF t 0 2, rfl, ?_, wF_at, ?_⟩)
    · have := bX t hX
      exact ⟨this.1, fun k hk => by rw [wF_ne (by omega)]; exact this.2 k hk⟩
    · rw [wF_ne (by decide), hX.2.1 19 (by omega)]
      exact fz 19 (by omega)
  rcases hout with ⟨o1, o2⟩ | ⟨o1, o2, o3, o4⟩
  · have h47 : s3.1 47 = 1 := by rw [p2]; exact o2
    have K2 := m_W_b_out (E := E) (d := d) (G := G) (G0 := mW E G m n s) (m := m) (n := n) (s := s3) (Q := qBd E G m n P N t0 pos cp C s) (D := 0) (wy := 0) (fr := 1) hmn (by omega) (by rw [h47]; decide) (tooMuch s3 _ _ _ (by unfold aTree; rw [if_pos (by omega)]) fX_rf h47)
    exact K2
  · have hT : aTree P t0 cp C = aB P t0 600 (aF P [] cp C) (-1) 0 0 an0 st0 := by unfold aTree; rw [if_neg (by omega)]
    have hpl3 : plOk s3 P N t0 pos (fun _ => []) 1 := by
      refine ⟨?_, Nat.le_refl _, rfl, fun p hp => ?_, fun p p' h1 h2 _ => by omega, fun p' h1 h2 => by omega⟩
      · rw [p2, f2.2.1 34 (by decide) (by decide)]
        exact b34
      · have e : p = 0 := by omega
        subst e
        refine ⟨?_, ?_, fun e he => Or.inl ?_⟩
        · rw [p1 21 (by decide) (by decide), g2 21 (by omega)]
          exact b21
        · rw [p1 20 (by decide) (by decide), g2 20 (by omega)]
          exact b20
        · rw [p1 22 (by decide) (by decide), g2 22 (by omega), show 32 * 0 + e = e by omega]
          exact b22 e he
    have han3 : anS s3 (fun _ => []) 1 an0 := by
      refine ⟨fun p hp => ?_, fun π _ => rfl⟩
      have e : p = 0 := by omega
      subst e
      refine ⟨?_, fun z => absurd z (by decide)⟩
      rw [p1 23 (by decide) (by decide), g2 23 (by omega)]
      exact b23
    have hrs3 : rS P t0 s3 st0 := ⟨fz 20 (by omega), fz 21 (by omega), fz 22 (by omega), fz 24 (by omega), fun _ => fz 25 (by omega), fun z => absurd rfl z, fz 26 (by omega), fz 23 (by omega), fun i q h => by simp [st0] at h⟩
    have hr3 : hPs s3 (fun _ => []) 1 0 (aF P [] cp C) := by
      have h1 := aF_hP (P := P) (cp := cp) (pl := fun _ => []) (s := s2) rfl C 0 o4
      refine hPs_fr (r := (aF P ([] : List Nat) cp C).length) h1 (fun A hA => by have := aF_len (P := P) C A hA; omega) (fun R _ => ?_) (by omega) (fun _ _ => rfl) (Nat.le_refl _)
      unfold sR
      rw [p1 26 (by decide) (by decide), p1 27 (by decide) (by decide), p1 28 (by decide) (by decide), p1 29 (by decide) (by decide), p1 30 (by decide) (by decide)]
      exact ⟨rfl, rfl, fun _ _ => ⟨rfl, rfl⟩, fun _ _ => rfl⟩
    have hokF := aF_ok wf hcp C (Nat.le_refl _)
    have hv3 : vR s3 (0 + (aF P ([] : List Nat) cp C).length) := vR_add wf (fun R h => by omega) hr3 (fun A hA => (hokF A hA).1)
    have EX := explore (E := E) (d := d) (G := G) (G0 := mW E G m n s) (m := m) (n := n) (Q := qBd E G m n P N t0 pos cp C s) hmn wf wk ht0 hNC hC20 h0 hAr 600 (by omega) (aF P [] cp C) 0 (-1) 0 0 an0 st0 [] [] 0 s3 (fun _ => []) 1 (by omega) rfl rfl ⟨List.nodup_nil, fun π h => by (cases h), List.nodup_nil, fun c h => by (cases h), fun π h => absurd rfl h⟩ hokF (fun π => Or.inl rfl) ⟨fun j hj => by rw [p1 j (by omega) (by omega), g2 j (by omega)]; exact hs1 j hj, hpl3, han3, hrs3, by rw [p2]; exact o2⟩ hr3 (by omega) hv3 p3 (by rw [p4, o3, el]) rfl (by omega) ⟨by show (0 : Nat) ≤ 800; omega, by show (0 : Nat) ≤ _; omega, by show (0 : Nat) ≤ _; omega, by show (0 : Nat) ≤ 0; omega⟩ (fun s' pl' X' st' hq fr' hpe hX he => ?_) (fun s' dd wy fr hq frX h47 => tooMuch s' dd wy fr (by rw [hT]; exact hq) frX h47)
    · exact EX
    · refine m_W_b_end hmn (by decide) (m_W_b_r hmn he.2.2.2.2 ?_)
      have fr0 := bX s' (fX_le fr' (Nat.le_refl _) (by omega))
      refine Or.inl ⟨st', by rw [hT]; exact hq, ?_, wF (wF s' 0 0) 19 1, pl', X', rfl, ⟨fr0.1, fun k hk => by rw [wF_ne (by omega), wF_ne (by omega)]; exact fr0.2 k hk⟩, by rw [wF_ne (by decide), wF_at], wF_at, ?_⟩
      · rw [he.2.2.2.1.1]
      · obtain ⟨q1, q2, q3, q4, q5⟩ := he
        refine ⟨q1, q2, q3, ?_, by rw [wF_ne (by decide), wF_ne (by decide)]; exact q5⟩
        exact rS_keep q4 (fun k h1 h2 => by rw [wF_ne (by omega), wF_ne (by omega)]) (fun _ _ _ => rfl)
end BR
