/-! The reference's answersNext: its contract -/
section BL
variable {E : gE} {d : Nat} {G G0 : gS} {m n : Nat} {s s' : mS} {Q : gO → gS → Prop} {P : Nat → Nat → Int32} {N X X' t0 : Nat} {pl pl' pos : Nat → List Nat} {an : aAn}
/-- the next answer is noted: a at step D, x at place p; rows come from r0 on -/
def fN (s s1 : mS) (D p a r0 : Nat) (x : Int32 × Int32) : Prop := (∀ j, j ≠ 23 → j ≠ 24 → j ≠ 34 → j ≠ 39 → s1.2 j = s.2 j) ∧ (∀ i, i ≠ D → s1.2 34 i = s.2 34 i) ∧ s1.2 34 D = nI a ∧ (∀ q, q ≠ p → s1.2 23 q = s.2 23 q ∧ s1.2 24 q = s.2 24 q) ∧ s1.2 23 p = x.1 ∧ (x.1 = 1 → s1.2 24 p = x.2) ∧ (∀ k, k ≠ 46 → s1.1 k = s.1 k) ∧ s1.1 46 = nI r0
theorem fN_sR {D p a r0 R : Nat} {x : Int32 × Int32} (h : fN s s' D p a r0 x) : sR s s' R := by
  unfold sR
  rw [h.1 26 (by decide) (by decide) (by decide) (by decide), h.1 27 (by decide) (by decide) (by decide) (by decide), h.1 28 (by decide) (by decide) (by decide) (by decide), h.1 29 (by decide) (by decide) (by decide) (by decide), h.1 30 (by decide) (by decide) (by decide) (by decide)]
  exact ⟨rfl, rfl, fun _ _ => ⟨rfl, rfl⟩, fun _ _ => rfl⟩
theorem plOk_N {D p a r0 : Nat} {x : Int32 × Int32} (h : plOk s P N t0 pos pl X) (h' : fN s s' D p a r0 x) : plOk s' P N t0 pos pl X := by
  unfold plOk at h ⊢
  rw [h'.1 20 (by decide) (by decide) (by decide) (by decide), h'.1 21 (by decide) (by decide) (by decide) (by decide), h'.1 22 (by decide) (by decide) (by decide) (by decide), h'.2.2.2.2.2.2.1 34 (by decide)]
  exact h
theorem sPA_N {D p a r0 : Nat} {x : Int32 × Int32} (h : sPA s P) (h' : fN s s' D p a r0 x) : sPA s' P := fun j hj => (h'.1 j (by omega) (by omega) (by omega) (by omega)).trans (h j hj)
/-- the answers, with the new one -/
theorem anS_N {D p a r0 : Nat} {x : Int32 × Int32} (hpl : plOk s P N t0 pos pl X) (h : anS s pl X an) (h' : fN s s' D p a r0 x) (hp : p < X) : anS s' pl X (anU an (pl p) x) := by
  refine ⟨fun q hq => ?_, fun π hπ => ?_⟩
  · unfold anU
    by_cases e : q = p
    · subst e
      rw [if_pos rfl]
      exact ⟨h'.2.2.2.2.1, h'.2.2.2.2.2.1⟩
    · rw [if_neg (fun z => e (hpl.2.2.2.2.1 q p hq hp z)), (h'.2.2.2.1 q e).1, (h'.2.2.2.1 q e).2]
      exact h.1 q hq
  · unfold anU
    rw [if_neg (fun z => hπ p hp z.symm)]
    exact h.2 π hπ
/-- what answersNext ends with -/
def qNx (E : gE) (G : gS) (m n : Nat) (P : Nat → Nat → Int32) (N t0 : Nat) (pos pl : Nat → List Nat) (X D p a r0 : Nat) (R : List pRow) (π : List Nat) (s : mS) : gO → gS → Prop := fun o G' =>
  (a = qN P t0 R π ∧ o = .inl (some (.int 0)) ∧ G' = mW E G m n (wA (wA s 34 D (nI a)) 23 p 0)) ∨ (a < qN P t0 R π ∧ o = .inl (some (.int 1)) ∧ ∃ s1 s', G' = mW E G m n s' ∧ fN s s1 D p a r0 (qX P t0 R π a) ∧ qA P N t0 pos pl X r0 (qL P t0 R π a) s1 s')
theorem m_W_next (hmn : m < n) (wf : wfA P N pos) (wk : wfK P N) (ht0 : t0 < 16) {D first p q a : Nat} {R : List pRow} {π : List Nat} (hs : sPA s P) (hpl : plOk s P N t0 pos pl X) (hrow : hPs s pl X first R) (hok : ∀ A ∈ R, rOk P N pos t0 A) (hv : vR s (first + R.length)) (bR : R.length < 1000) (hp : p < X) (hπ : pl p = π) (bD : D < 520) (bq : q < 1001) (br : first + R.length ≤ 41500)
    (h31 : s.2 31 D = nI first) (h32 : s.2 32 D = nI R.length) (h35 : s.2 35 D = nI p) (h33 : s.2 33 D = nI q) (h15 : s.2 15 q = nI (qN P t0 R π)) (h34 : s.2 34 D + 1 = nI a) (ha : a ≤ qN P t0 R π) (h47 : s.1 47 = 0) (hty : P 0 (tyP P t0 π) = 1 ∨ ∃ T, 2 ≤ T ∧ T ≤ 9 ∧ P 0 (tyP P t0 π) = nI T) (h16 : tyP P t0 π < 16) (hkd : ∀ A ∈ R, ∀ q ∈ A.2.1, q.1 = π → ¬ P 0 (tyP P t0 π) ≤ 1 → P 3 q.2 = 2)
    (h24 : P 0 (tyP P t0 π) ≤ 1 → 1 ≤ a → s.2 24 p = qW P t0 R π (a - 1)) : GM E Y_Model_answersNext (d + 4) [.ref m, .int (nI D)] (mW E G m n s) (qNx E G m n P N t0 pos pl X D p a (first + R.length) R π s) := by
  have bX := plOk_X hpl
  have bN := wf.1.1
  have hr := fun R' h => (hv R' h).1
  have hw := fun R' h => (hv R' h).2
  have l1 := aSrt_len (l := aNs P π R) (S := [])
  have l2 := aNs_len (P := P) (π := π) R
  have bn : qN P t0 R π < 2000 := by
    unfold qN
    split
    · show (aSrt [] (aNs P π R)).length + 1 < 2000
      simp at l1
      omega
    · rcases hty with e | ⟨T, h1, h2, h3⟩
      · rw [e]
        decide
      · rw [h3, tnI (by omega)]
        omega
  have i31 : (s.2 31 D).toInt = (first : Int) := by rw [h31]; exact nI_hi (by omega)
  have i32 : (s.2 32 D).toInt = (R.length : Int) := by rw [h32]; exact nI_hi (by omega)
  have i35 : (s.2 35 D).toInt = (p : Int) := by rw [h35]; exact nI_hi (by omega)
  have i33 : (s.2 33 D).toInt = (q : Int) := by rw [h33]; exact nI_hi (by omega)
  have h21 : s.2 21 p = nI (tyP P t0 π) := by
    have := (hpl.2.2.2.1 p hp).1
    rw [hπ] at this
    exact this
  have hT : ¬ s.2 21 p < 0 ∧ tn (s.2 21 p) < 16 := by
    rw [h21]
    exact ⟨nI_pos (by omega), by rw [tnI (by omega)]; exact h16⟩
  have e0 : s.2 0 (tn (s.2 21 p)) = P 0 (tyP P t0 π) := by rw [h21, tnI (by omega), hs 0 (by omega)]
  have esum : nI first + nI R.length = nI (first + R.length) := i_nI (add_hi (nI_hi (by omega)) (nI_hi (by omega)) (by omega))
  by_cases eq : a = qN P t0 R π
  · refine (m_W_next_z (E := E) (d := d + 3) (G := G) (s := s) hmn (D := D) (A := first) (K := R.length) (p := p) (q := q) (nI_hi (by omega)) bD i31 i32 i35 (by omega) i33 bq (by rw [h34, h15, eq])).mono (fun o G' h => ?_)
    obtain ⟨h1, h2⟩ := h
    rw [h34] at h2
    exact Or.inl ⟨eq, h1, h2⟩
  · have hlt : a < qN P t0 R π := by omega
    have hne : ¬ s.2 34 D + 1 = s.2 15 q := by
      rw [h34, h15]
      exact nI_ne eq (by omega) (by omega)
    -- behind the call of answerRows
    have fin : ∀ (s1 : mS) (pc : Nat) (lv : List (Nat × Value)) (G0 : gS) (dd : Nat), dd = d + 2 → pc + 3 = 128 ∨ pc + 3 = 229 → decode Y_Model_answersNext.2.1 pc = .ok (.invokevirtual 264, 3) → fN s s1 D p a (first + R.length) (qX P t0 R π a) →
        GT E Y_Model_answersNext (dd + 2) G0 pc lv [.int (qI P t0 R π a), .int (qW P t0 R π a), .int (qMd P t0 π), .int (nI p), .int (nI R.length), .int (nI first), .ref m] (mW E G m n s1) (qNx E G m n P N t0 pos pl X D p a (first + R.length) R π s) := by
      intro s1 pc lv G0 dd hdd hpc hdec hN
      subst hdd
      have hr1 : hPs s1 pl X first R := hPs_fr hrow (fun A hA => by have := rOk_len wf (hok A hA); omega) (fun R' _ => fN_sR hN) (Nat.le_refl _) (fun _ _ => rfl) (Nat.le_refl _)
      have K := m_W_answerRows (E := E) (d := d + 1) (G := G) (m := m) (n := n) (s := s1) (md := qMd P t0 π) (wh := qW P t0 R π a) (is := qI P t0 R π a) hmn wf ht0 hok hr1 hp hπ (Nat.le_refl _) br (fun A hA y hy e f => hkd A hA y hy e (fun z => f (if_pos z))) (plOk_N hpl hN) (sPA_N hs hN) hN.2.2.2.2.2.2.2 (by rw [hN.2.2.2.2.2.2.1 47 (by decide)]; exact h47)
      refine c_V (as := [.int (nI first), .int (nI R.length), .int (nI p), .int (qMd P t0 π), .int (qW P t0 R π a), .int (qI P t0 R π a)]) kv_Model_answerRows ml_Model_264 rfl mw_f K rfl (Nat.le_of_ble_eq_true rfl) rfl hdec (fun v G' hq => ?_) (fun C G' hq => absurd hq.1 (by simp))
      obtain ⟨hv', s2, rfl, hq⟩ := hq
      cases hv'
      show GT E Y_Model_answersNext (d + 2 + 2) G0 (pc + 3) lv [] (mW E G m n s2) _
      rcases hpc with e | e
      · rw [e]
        refine g_iconst (v := 1) d_Model_answersNext_128 (by decide) ?_
        refine g_zret rfl rfl d_Model_answersNext_129 ?_
        exact Or.inr ⟨hlt, rfl, s1, s2, rfl, hN, hq⟩
      · rw [e]
        refine g_iconst (v := 1) d_Model_answersNext_229 (by decide) ?_
        refine g_zret rfl rfl d_Model_answersNext_230 ?_
        exact Or.inr ⟨hlt, rfl, s1, s2, rfl, hN, hq⟩
    by_cases hm : P 0 (tyP P t0 π) ≤ 1
    · -- numbers
      have tr : tRows (wF (wA s 34 D (nI a)) 46 (nI (first + R.length))) P N t0 pos pl X first R := by
        have f0 : ∀ R', sR s (wF (wA s 34 D (nI a)) 46 (nI (first + R.length))) R' := fun R' => sR_rf
        exact ⟨hpl, hPs_fr (r := first + R.length) hrow (fun A hA => by have := rOk_len wf (hok A hA); omega) (fun R' _ => f0 R') (Nat.le_refl _) (fun _ _ => rfl) (Nat.le_refl _), hok, hs 5 (by omega)⟩
      have eW : qW P t0 R π a = match (qSr P π R)[a]? with
          | some v => v
          | none => nI (aLst 0 (qSr P π R)) := if_pos hm
      have eX : qX P t0 R π a = (1, qW P t0 R π a) := if_pos hm
      have eMd : qMd P t0 π = 0 := if_pos hm
      have eN : qN P t0 R π = (qSr P π R).length + 1 := if_pos hm
      by_cases hi : a < (qSr P π R).length
      · have eI : qI P t0 R π a = 1 := by unfold qI; rw [if_pos hm, if_pos hi]
        have hge : ¬ s.2 15 q - 1 ≤ s.2 34 D + 1 := by
          rw [h34, h15, eN, i_nI (sub_hi (nI_hi (n := (qSr P π R).length + 1) (by omega)) i1 (by omega))]
          intro y
          have := (le_hi (nI_hi (n := (qSr P π R).length + 1 - 1) (by omega)) (nI_hi (n := a) (by omega))).mp y
          omega
        obtain ⟨v, hv'⟩ : ∃ v, (qSr P π R)[a]? = some v := ⟨(qSr P π R)[a], List.getElem?_eq_getElem hi⟩
        have eWv : qW P t0 R π a = v := by rw [eW, hv']
        by_cases z : a = 0
        · have hz : s.2 34 D + 1 = 0 := by rw [h34, z]; rfl
          have eA := rAb_list (y := 0) (al := 1) wf tr hp hπ R.length (Nat.le_refl _)
          rw [List.take_length, abF_all] at eA
          have eA2 : rAb (wF (wA s 34 D (nI a)) 46 (nI (first + R.length))) first (nI p) 0 1 R.length = (v, 1) := by
            rw [eA]
            have h0 : aSrt [] (aNs P π R) = qSr P π R := rfl
            rw [h0]
            cases hS : qSr P π R with
            | nil => rw [hS] at hi; simp at hi
            | cons x r =>
              rw [hS, z] at hv'
              cases hv'
              rfl
          refine m_W_next_a (E := E) (d := d + 2) (G := G) (s := s) hmn (D := D) (A := first) (K := R.length) (p := p) (q := q) (nI_hi (by omega)) bD i31 i32 i35 (by omega) i33 bq hT hr hw (by omega) hne (by rw [e0]; exact hm) hge hz ?_
          rw [h31, h32, h35, esum, h34, eA2]
          have F := fin (wA (wA (wA (wF (wA s 34 D (nI a)) 46 (nI (first + R.length))) 39 0 1) 24 p v) 23 p 1) 226 [(0, .ref m), (1, .int (nI D)), (2, .int (nI first)), (3, .int (nI R.length)), (4, .int (nI p)), (5, .int (nI a)), (6, .int (s.2 15 q)), (7, .int 0), (8, .int 1)] (mW E G m n s) (d + 2) rfl (Or.inr rfl) d_Model_answersNext_226 ?_
          · rw [eI, eMd, eWv] at F
            exact F
          · rw [eX, eWv]
            refine ⟨fun j h1 h2 h3 h4 => ?_, fun i hi' => ?_, ?_, fun y hy => ⟨?_, ?_⟩, ?_, fun _ => ?_, fun k hk => ?_, ?_⟩
            · unfold wA wF wR upA
              dsimp only
              simp only [h1, h2, h3, h4, if_false]
            · show upd (s.2 34) D (nI a) i = _
              exact up_ne hi'
            · show upd (s.2 34) D (nI a) D = _
              exact up_at
            · show upd (s.2 23) p 1 y = _
              exact up_ne hy
            · show upd (s.2 24) p v y = _
              exact up_ne hy
            · show upd (s.2 23) p 1 p = _
              exact up_at
            · show upd (s.2 24) p v p = _
              exact up_at
            · show upd s.1 46 _ k = _
              exact up_ne hk
            · show upd s.1 46 _ 46 = _
              exact up_at
        · have hz : ¬ s.2 34 D + 1 = 0 := by rw [h34]; exact nI_ne (b := 0) z (by omega) (by omega)
          have e24 := h24 hm (by omega)
          obtain ⟨u, hu⟩ : ∃ u, (qSr P π R)[a - 1]? = some u := ⟨(qSr P π R)[a - 1], List.getElem?_eq_getElem (by omega)⟩
          have e24u : s.2 24 p = u := by
            rw [e24]
            unfold qW
            rw [if_pos hm, hu]
          obtain ⟨S1, S2, hS, hS2⟩ : ∃ S1 S2, aSrt [] (aNs P π R) = S1 ++ u :: (v :: S2) ∧ True := by
            have h1 : aSrt [] (aNs P π R) = (aSrt [] (aNs P π R)).take (a - 1) ++ u :: (v :: (aSrt [] (aNs P π R)).drop (a + 1)) := by
              have q1 : (aSrt [] (aNs P π R)).drop (a - 1) = u :: (aSrt [] (aNs P π R)).drop a := by
                have hlt1 : a - 1 < (aSrt [] (aNs P π R)).length := by have : a < (aSrt [] (aNs P π R)).length := hi; omega
                have := List.drop_eq_getElem_cons hlt1
                rw [show a - 1 + 1 = a by omega] at this
                rw [this]
                congr 1
                exact (List.getElem?_eq_some_iff.mp hu).2
              have q2 : (aSrt [] (aNs P π R)).drop a = v :: (aSrt [] (aNs P π R)).drop (a + 1) := by
                have := List.drop_eq_getElem_cons hi
                have this' : (aSrt [] (aNs P π R)).drop a = (aSrt [] (aNs P π R))[a]'hi :: (aSrt [] (aNs P π R)).drop (a + 1) := this
                rw [this']
                congr 1
                exact (List.getElem?_eq_some_iff.mp hv').2
              rw [← q2, ← q1, List.take_append_drop]
            exact ⟨_, _, h1, trivial⟩
          have eA := rAb_list (y := u) (al := 0) wf tr hp hπ R.length (Nat.le_refl _)
          rw [List.take_length, abF_next hS] at eA
          refine m_W_next_b (E := E) (d := d + 2) (G := G) (s := s) hmn (D := D) (A := first) (K := R.length) (p := p) (q := q) (nI_hi (by omega)) bD i31 i32 i35 (by omega) i33 bq hT hr hw (by omega) hne (by rw [e0]; exact hm) hge hz ?_
          rw [h31, h32, h35, esum, h34, e24u, eA]
          have F := fin (wA (wA (wA (wF (wA s 34 D (nI a)) 46 (nI (first + R.length))) 39 0 1) 24 p v) 23 p 1) 226 [(0, .ref m), (1, .int (nI D)), (2, .int (nI first)), (3, .int (nI R.length)), (4, .int (nI p)), (5, .int (nI a)), (6, .int (s.2 15 q)), (7, .int 0), (8, .int 1)] (mW E G m n s) (d + 2) rfl (Or.inr rfl) d_Model_answersNext_226 ?_
          · rw [eI, eMd, eWv] at F
            exact F
          · rw [eX, eWv]
            refine ⟨fun j h1 h2 h3 h4 => ?_, fun i hi' => ?_, ?_, fun y hy => ⟨?_, ?_⟩, ?_, fun _ => ?_, fun k hk => ?_, ?_⟩
            · unfold wA wF wR upA
              dsimp only
              simp only [h1, h2, h3, h4, if_false]
            · show upd (s.2 34) D (nI a) i = _
              exact up_ne hi'
            · show upd (s.2 34) D (nI a) D = _
              exact up_at
            · show upd (s.2 23) p 1 y = _
              exact up_ne hy
            · show upd (s.2 24) p v y = _
              exact up_ne hy
            · show upd (s.2 23) p 1 p = _
              exact up_at
            · show upd (s.2 24) p v p = _
              exact up_at
            · show upd s.1 46 _ k = _
              exact up_ne hk
            · show upd s.1 46 _ 46 = _
              exact up_at
      · have eI : qI P t0 R π a = 0 := by unfold qI; rw [if_pos hm, if_neg hi]
        have eWv : qW P t0 R π a = nI (aLst 0 (qSr P π R)) := by
          rw [eW, List.getElem?_eq_none (by omega)]
        have hge : s.2 15 q - 1 ≤ s.2 34 D + 1 := by
          rw [h34, h15, eN, i_nI (sub_hi (nI_hi (n := (qSr P π R).length + 1) (by omega)) i1 (by omega))]
          exact (le_hi (nI_hi (n := (qSr P π R).length + 1 - 1) (by omega)) (nI_hi (n := a) (by omega))).mpr (by omega)
        have eO := rOth_list wf tr hp hπ bR
        refine m_W_next_o (E := E) (d := d + 1) (G := G) (s := s) hmn (D := D) (A := first) (K := R.length) (p := p) (q := q) (nI_hi (by omega)) bD i31 i32 i35 (by omega) i33 bq hT hr hw (by omega) hne (by rw [e0]; exact hm) hge ?_
        rw [h31, h32, h35, esum, h34, eO]
        have F := fin (wA (wA (wF (wA s 34 D (nI a)) 46 (nI (first + R.length))) 24 p (nI (aLst 0 (qSr P π R)))) 23 p 1) 226 [(0, .ref m), (1, .int (nI D)), (2, .int (nI first)), (3, .int (nI R.length)), (4, .int (nI p)), (5, .int (nI a)), (6, .int (s.2 15 q)), (7, .int 0), (8, .int 0)] (mW E G m n s) (d + 2) rfl (Or.inr rfl) d_Model_answersNext_226 ?_
        · rw [eI, eMd, eWv] at F
          exact F
        · rw [eX, eWv]
          refine ⟨fun j h1 h2 h3 h4 => ?_, fun i hi' => ?_, ?_, fun y hy => ⟨?_, ?_⟩, ?_, fun _ => ?_, fun k hk => ?_, ?_⟩
          · unfold wA wF wR upA
            dsimp only
            simp only [h1, h2, h3, if_false]
          · show upd (s.2 34) D (nI a) i = _
            exact up_ne hi'
          · show upd (s.2 34) D (nI a) D = _
            exact up_at
          · show upd (s.2 23) p 1 y = _
            exact up_ne hy
          · show upd (s.2 24) p _ y = _
            exact up_ne hy
          · show upd (s.2 23) p 1 p = _
            exact up_at
          · show upd (s.2 24) p _ p = _
            exact up_at
          · show upd s.1 46 _ k = _
            exact up_ne hk
          · show upd s.1 46 _ 46 = _
            exact up_at
    · -- a constructor
      have eW : qW P t0 R π a = nI a := if_neg hm
      have eX : qX P t0 R π a = (nI (2 + a), 0) := if_neg hm
      have eMd : qMd P t0 π = 1 := if_neg hm
      have eI : qI P t0 R π a = 1 := if_neg hm
      refine m_W_next_m (E := E) (d := d + 3) (G := G) (s := s) hmn (D := D) (A := first) (K := R.length) (p := p) (q := q) (nI_hi (by omega)) bD i31 i32 i35 (by omega) i33 bq hT hne (by rw [e0]; exact hm) ?_
      rw [h31, h32, h35, esum, h34]
      have e2a : 2 + nI a = nI (2 + a) := i_nI (add_hi (m := 2) (by decide) (nI_hi (by omega)) (by omega))
      rw [e2a]
      have F := fin (wA (wF (wA s 34 D (nI a)) 46 (nI (first + R.length))) 23 p (nI (2 + a))) 125 [(0, .ref m), (1, .int (nI D)), (2, .int (nI first)), (3, .int (nI R.length)), (4, .int (nI p)), (5, .int (nI a)), (6, .int (s.2 15 q)), (7, .int 1)] (mW E G m n s) (d + 2) rfl (Or.inl rfl) d_Model_answersNext_125 ?_
      · rw [eI, eMd, eW] at F
        exact F
      · rw [eX]
        refine ⟨fun j h1 h2 h3 h4 => ?_, fun i hi' => ?_, ?_, fun y hy => ⟨?_, rfl⟩, ?_, fun e => ?_, fun k hk => ?_, ?_⟩
        · unfold wA wF wR upA
          dsimp only
          simp only [h1, h3, if_false]
        · show upd (s.2 34) D (nI a) i = _
          exact up_ne hi'
        · show upd (s.2 34) D (nI a) D = _
          exact up_at
        · show upd (s.2 23) p _ y = _
          exact up_ne hy
        · show upd (s.2 23) p _ p = _
          exact up_at
        · exact absurd e (nI_ne (a := 2 + a) (b := 1) (by omega) (by omega) (by omega))
        · show upd s.1 46 _ k = _
          exact up_ne hk
        · show upd s.1 46 _ 46 = _
          exact up_at
end BL
