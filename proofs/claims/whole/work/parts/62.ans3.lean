/-! The reference's answerRows: its loop -/
section BC
variable {E : gE} {d : Nat} {G G0 : gS} {m n : Nat} {s s' : mS} {Q : gO → gS → Prop} {P : Nat → Nat → Int32} {N X X' t0 : Nat} {pl pl' pos : Nat → List Nat}
theorem ans_next (hmn : m < n) {f0 mn p md wh is fr q10 : Int32} {k : Nat} (kk : GT E Y_Model_answerRows (d + 2) G0 13 [(0, .ref m), (1, .int f0), (2, .int mn), (3, .int p), (4, .int md), (5, .int wh), (6, .int is), (7, .int fr), (8, .int 41600), (9, .int (nI (k + 1)))] [] (mW E G m n s) Q) :
    GT E Y_Model_answerRows (d + 2) G0 203 [(0, .ref m), (1, .int f0), (2, .int mn), (3, .int p), (4, .int md), (5, .int wh), (6, .int is), (7, .int fr), (8, .int 41600), (9, .int (nI k))] [] (mW E G m n s) Q := by
  have e1 : nI k + Int32.ofInt 1 = nI (k + 1) := nI_1 k
  refine g_iinc (v := nI (k + 1)) d_Model_answerRows_203 rfl e1 (by decide) rfl ?_
  refine g_goto (tgt := 13) d_Model_answerRows_206 (by decide) ?_
  exact kk
theorem ans_fin (hmn : m < n) (wf : wfN P N) {f0 mn p md wh is q10 : Int32} {k r0 r1 c : Nat} {ws : List (Nat × Nat)} {bd : Nat → Option Nat} (hs : sP s P) (hh : hR s 41600 c ws bd) (hl : ws.length ≤ 26) (hZ : aZ P ws ≤ 37) (hN : ∀ q ∈ ws, q.2 < N) (h46 : s.1 46 = nI r1) (h1 : r0 ≤ r1) (h2 : r1 ≤ r0 + 80) (h3 : r0 ≤ 41500)
    (kk : ∀ s', qS r0 r1 c (aL P ws bd) s s' → GT E Y_Model_answerRows (d + 2) G0 13 [(0, .ref m), (1, .int f0), (2, .int mn), (3, .int p), (4, .int md), (5, .int wh), (6, .int is), (7, .int (nI r0)), (8, .int 41600), (9, .int (nI (k + 1)))] [] (mW E G m n s') Q) :
    GT E Y_Model_answerRows (d + 2) G0 197 [(0, .ref m), (1, .int f0), (2, .int mn), (3, .int p), (4, .int md), (5, .int wh), (6, .int is), (7, .int (nI r0)), (8, .int 41600), (9, .int (nI k)), (10, .int q10)] [] (mW E G m n s) Q := by
  refine g_aload_n d_Model_answerRows_197 rfl ?_
  refine g_iload d_Model_answerRows_198 rfl ?_
  have K := m_W_settle (E := E) (d := d) (G := G) (m := m) (n := n) hmn wf hs hh hl hZ hN h46 h1 h2 h3
  refine c_V (as := [.int (nI r0)]) kv_Model_settle ml_Model_198 rfl mw_f K rfl (Nat.le_of_ble_eq_true rfl) rfl d_Model_answerRows_200 (fun v G' hq => ?_) (fun D G' hq => absurd hq.1 (by simp))
  obtain ⟨hv, s2, rfl, hq⟩ := hq
  cases hv
  show GT E Y_Model_answerRows (d + 2) G0 203 [(0, .ref m), (1, .int f0), (2, .int mn), (3, .int p), (4, .int md), (5, .int wh), (6, .int is), (7, .int (nI r0)), (8, .int 41600), (9, .int (nI k)), (10, .int q10)] [] (mW E G m n s2) Q
  refine g_weak (lv' := [(0, .ref m), (1, .int f0), (2, .int mn), (3, .int p), (4, .int md), (5, .int wh), (6, .int is), (7, .int (nI r0)), (8, .int 41600), (9, .int (nI k))]) (by simp) (by simp) ?_
  exact ans_next hmn (q10 := 0) (kk s2 hq)
/-- what answerRows gives -/
def qA (P : Nat → Nat → Int32) (N t0 : Nat) (pos pl : Nat → List Nat) (X r0 : Nat) (out : List pRow) (s s' : mS) : Prop :=
  ∃ pl' X', plOk s' P N t0 pos pl' X' ∧ (∀ q, q < X → pl' q = pl q) ∧ fB s s' r0 X X' ∧ ((80 < out.length ∧ s'.1 47 = 1) ∨ (out.length ≤ 80 ∧ s'.1 47 = 0 ∧ s'.1 46 = nI (r0 + out.length) ∧ hPs s' pl' X' r0 out))
theorem aAns_take {π : List Nat} {md wh is : Int32} {L : List pRow} {k : Nat} {A : pRow} (h : L[k]? = some A) : aAns P π md wh is (L.take (k + 1)) = aAns P π md wh is (L.take k) ++ aAns1 P π md wh is A := by
  rw [List.take_succ, h, aAns_app]
  simp [aAns]
theorem aAns_mono {π : List Nat} {md wh is : Int32} {L : List pRow} {k : Nat} : (aAns P π md wh is (L.take k)).length ≤ (aAns P π md wh is L).length := by
  have e : L = L.take k ++ L.drop k := (List.take_append_drop k L).symm
  have := congrArg (fun z => (aAns P π md wh is z).length) e
  rw [aAns_app, List.length_append] at this
  omega
theorem rCopy_F {F r w : Nat} (hr : r ≤ 41600) (hO : tn (s.2 27 F) ≤ 26) (hw : w = 0) : sF s (rCopy s F 41600) r w := by
  subst hw
  refine ⟨fun j hj => ?_, fun k _ _ => rfl, fun R hR => sR_copy hO (by omega), fun R h1 h2 => by omega⟩
  unfold rCopy rC2 rC1 rC0 wA wR upA
  dsimp only
  simp only [show ¬ j = 30 by omega, show ¬ j = 29 by omega, show ¬ j = 28 by omega, show ¬ j = 27 by omega, show ¬ j = 26 by omega, if_false]
theorem rOpen_F {k M r w : Nat} {q : Int32} (hr : r ≤ 41600) (hO : tn (s.2 27 41600) ≤ 26) (hM : tn (s.2 27 41600) + M ≤ 27) (hw : w = 0) : sF s (rOpen s 41600 k M q) r w := by
  subst hw
  refine ⟨fun j hj => ?_, fun k' _ _ => ?_, fun R hR => sR_open hO hM (by omega), fun R h1 h2 => by omega⟩
  · unfold rOpen rBoth
    by_cases e : q = 0
    · rw [if_pos e]
      unfold wA wR upA
      dsimp only
      simp only [show ¬ j = 29 by omega, show ¬ j = 28 by omega, show ¬ j = 27 by omega, if_false]
    · rw [if_neg e]
      unfold wA wR upA
      dsimp only
      simp only [show ¬ j = 29 by omega, show ¬ j = 28 by omega, show ¬ j = 27 by omega, if_false]
  · unfold rOpen
    split <;> rfl
theorem hP_of {c r1 : Nat} {lw : List (Nat × Nat)} {bd : Nat → Option Nat} (hpX : ∀ q ∈ lw, q.1 < X) (hbX : ∀ k p, bd k = some p → p < X) (h : ∀ i A, (aL P lw bd)[i]? = some A → hR s (r1 + i) c A.1 A.2) :
    hPs s pl X r1 (aC c (aL P (lw.map (fun q => (pl q.1, q.2))) (fun k => (bd k).map pl))) := by
  intro i A hA
  rw [aL_map, aC, List.getElem?_map, List.getElem?_map] at hA
  cases hB : (aL P lw bd)[i]? with
  | none => rw [hB] at hA; cases hA
  | some B =>
    rw [hB] at hA
    cases hA
    have hm := List.mem_of_getElem? hB
    have key : ∀ (f : Nat) (done pend : List (Nat × Nat)) (bd : Nat → Option Nat), (∀ q ∈ done, q.1 < X) → (∀ q ∈ pend, q.1 < X) → (∀ k p, bd k = some p → p < X) → ∀ B ∈ aS P f done pend bd, (∀ q ∈ B.1, q.1 < X) ∧ ∀ k p, B.2 k = some p → p < X := by
      intro f
      induction f with
      | zero => intro _ _ _ _ _ _ B h; cases h
      | succ f ih =>
        intro done pend bd hd hp hb B h
        cases pend with
        | nil =>
          have e := List.mem_singleton.mp h
          subst e
          exact ⟨hd, hb⟩
        | cons q r =>
          have hq := hp q List.mem_cons_self
          have hr : ∀ y ∈ r, y.1 < X := fun y hy => hp y (List.mem_cons_of_mem _ hy)
          have hm : ∀ v, ∀ y ∈ (q.1, v) :: r, y.1 < X := fun v y hy => by
            rcases List.mem_cons.mp hy with rfl | hy
            · exact hq
            · exact hr y hy
          simp only [aS] at h
          split at h
          · exact ih _ _ _ hd hr hb B h
          · split at h
            · refine ih _ _ _ hd (hm _) (fun k p hk => ?_) B h
              unfold upB at hk
              split at hk
              · cases hk
                exact hq
              · exact hb k p hk
            · split at h
              · rcases List.mem_append.mp h with h | h
                · exact ih _ _ _ hd (hm _) hb B h
                · exact ih _ _ _ hd (hm _) hb B h
              · refine ih _ _ _ (fun y hy => ?_) hr hb B h
                rcases List.mem_append.mp hy with hy | hy
                · exact hd y hy
                · rcases List.mem_singleton.mp hy with rfl
                  exact hq
    have kb := key _ [] lw bd (fun q hq => by cases hq) hpX hbX B hm
    exact ⟨B.1, B.2, h i B hB, rfl, rfl, kb.1, kb.2⟩
end BC
