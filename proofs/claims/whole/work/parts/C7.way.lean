/-! The way of the class's tree: its places, before and behind an answer -/
section CM
variable {E : gE} {a : Nat} {c c' : cS} {u u' u2 : uS} {n n' sl sl' : Nat} {B SS : Nat} {P : Nat → Nat → Int32} {N t0 X C : Nat} {ob : Nat → Int32} {T : Nat → Prop} {pos plc : Nat → List Nat} {an : aAn} {ks bs sp ps ps' ps2 qs ms : List Nat} {W : List (List Nat)} {Dr : List Nat} {x : qR} {z : zQ}
/-- place j is as it was -/
def plE (u u' : uS) (ps ps' : List Nat) (j : Nat) : Prop := ∀ y, ps[j]? = some y → ps'[j]? = some y ∧ u'.2.2.1 y 0 = u.2.2.1 y 0 ∧ u'.2.2.1 y 1 = u.2.2.1 y 1 ∧ u'.2.2.1 y 2 = u.2.2.1 y 2 ∧ u'.2.2.1 y 4 = u.2.2.1 y 4 ∧ (u.2.2.1 y 1 = 1 → u'.2.2.1 y 3 = u.2.2.1 y 3)
theorem plE_rf {j : Nat} : plE u u ps ps j := fun _ hy => ⟨hy, rfl, rfl, rfl, rfl, fun _ => rfl⟩
theorem plE_tr {j : Nat} (h : plE u u' ps ps' j) (h' : plE u' u2 ps' ps2 j) : plE u u2 ps ps2 j := fun y hy => by
  obtain ⟨a0, a1, a2, a3, a4, a5⟩ := h y hy
  obtain ⟨b0, b1, b2, b3, b4, b5⟩ := h' y a0
  exact ⟨b0, b1.trans a1, b2.trans a2, b3.trans a3, b4.trans a4, fun e => (b5 (a2.trans e)).trans (a5 e)⟩
theorem plE_eq {j : Nat} (h : ∀ y, ps[j]? = some y → ps'[j]? = some y ∧ u'.2.2.1 y = u.2.2.1 y) : plE u u' ps ps' j := fun y hy => by
  obtain ⟨h1, h2⟩ := h y hy
  refine ⟨h1, ?_⟩
  rw [h2]
  exact ⟨rfl, rfl, rfl, rfl, fun _ => rfl⟩
theorem plE_C {j : Nat} (h : plE u u' ps ps' j) (hc : plC P t0 u ps X plc an j) : plC P t0 u' ps' X plc an j := by
  obtain ⟨y, hy, h0, hh⟩ := hc
  obtain ⟨a0, a1, a2, a3, a4, a5⟩ := h y hy
  refine ⟨y, a0, by rw [a1]; exact h0, ?_⟩
  rw [a2, a3, a4]
  rcases hh with q | q | ⟨w, f, ar, q1, q2, q3, q4, q5, q6⟩
  · exact Or.inl q
  · exact Or.inr (Or.inl q)
  · exact Or.inr (Or.inr ⟨w, f, ar, q1, q2, q3, q4, by rw [a5 q3]; exact q5, q6⟩)
/-- the places at a question: its own may hold what was answered last -/
def pE (P : Nat → Nat → Int32) (t0 : Nat) (u : uS) (ps : List Nat) (an : aAn) (x : qR) (z : zQ) : Prop := (∀ j, j < z.2.2.2.1 → j ≠ z.2.2.1 → plC P t0 u ps z.2.2.2.1 z.2.2.2.2.2 an j) ∧ (∃ y, ps[z.2.2.1]? = some y ∧ u.2.2.1 y 0 = nI x.2.1.length) ∧ z.2.2.2.1 ≤ ps.length
theorem pE_fr (h : pE P t0 u ps an x z) (hj : ∀ j, j < z.2.2.2.1 → j ≠ z.2.2.1 → plE u u' ps ps' j) (hp : ∀ y, ps[z.2.2.1]? = some y → ps'[z.2.2.1]? = some y ∧ u'.2.2.1 y 0 = u.2.2.1 y 0) (hl : ps.length ≤ ps'.length) : pE P t0 u' ps' an x z := by
  obtain ⟨h1, ⟨y, h2, h3⟩, h4⟩ := h
  refine ⟨fun j a b => plE_C (hj j a b) (h1 j a b), ⟨y, (hp y h2).1, by rw [(hp y h2).2]; exact h3⟩, by omega⟩
/-- a question on the way -/
def pC (P : Nat → Nat → Int32) (N : Nat) (pos : Nat → List Nat) (t0 C : Nat) (W : List (List Nat)) (Dr : List Nat) (an : aAn) (x : qR) (z : zQ) : Prop := pWd N pos C W Dr an ∧ anOk P t0 an ∧ (∀ A ∈ x.1, pRk P N pos t0 C W Dr A) ∧ ¬ x.2.1 ∈ W ∧ (∃ v, v < N ∧ pos v = x.2.1) ∧ x.2.1.length ≤ 23 ∧ (∀ ρ e, ρ ++ [e] <+: x.2.1 → ρ ∈ W) ∧ (P 0 (tyP P t0 x.2.1) = 1 ∨ ∃ TT, 2 ≤ TT ∧ TT ≤ 9 ∧ P 0 (tyP P t0 x.2.1) = nI TT) ∧ tyP P t0 x.2.1 < 16 ∧ x.2.2.1 = W.length ∧ (∀ j, j < z.2.2.2.1 → ∀ ρ e, z.2.2.2.2.2 j = ρ ++ [e] → ρ ∈ W) ∧ z.2.2.2.1 ≤ 1 + 4 * W.length
theorem pC_kd (wf : wfA P N pos) (wk : wfK P N) (ht0 : t0 < 16) (h : pC P N pos t0 C W Dr an x z) : ∀ A ∈ x.1, ∀ y ∈ A.2.1, y.1 = x.2.1 → (P 0 (tyP P t0 x.2.1) ≤ 1 → P 3 y.2 = 1) ∧ (¬ P 0 (tyP P t0 x.2.1) ≤ 1 → P 3 y.2 = 2) := fun A hA y hy e => by
  obtain ⟨h1, h2⟩ := (h.2.2.1 A hA).1.1 y hy
  obtain ⟨m1, m2, -⟩ := made_kind wf wk h1 h2 (tyP_31 ht0 _)
  rw [e] at m1 m2
  exact ⟨m1, m2⟩
/-- the places behind an answer -/
theorem wy_ans (bN : N ≤ 512) {ar w : Nat} {kd wh : Int32} {xx : Int32 × Int32} {y : Nat} (hq : zqP P N t0 ob T c n x z) (hC : pC P N pos t0 C W Dr an x z) (hE : pE P t0 u ps an x z) (hy : ps[z.2.2.1]? = some y) (hnd : ps.Nodup) (har : ar ≤ 4) (w8 : w < 8)
    (hcs : (xx = (1, wh) ∧ kd = 0 ∧ ar = 0) ∨ (xx = (nI (2 + w), 0) ∧ kd = 1 ∧ wh = nI w ∧ P 1 (8 * tyP P t0 x.2.1 + w) = nI ar))
    (hA : ansP E a B SS c u n' z.2.2.2.1 z.2.2.1 ar kd wh y ks sp ps qs ms c' u' sl sl' ps') :
    wyC P t0 u' ps' (z.2.2.2.1 + ar) (plcX z.2.2.2.1 z.2.2.2.2.2 x.2.1 w) (anU an x.2.1 xx) ∧ (∀ j, j < z.2.2.2.1 + ar → ∀ ρ e, plcX z.2.2.2.1 z.2.2.2.2.2 x.2.1 w j = ρ ++ [e] → ρ ∈ x.2.1 :: W) ∧ z.2.2.2.1 + ar ≤ 1 + 4 * (x.2.1 :: W).length := by
  obtain ⟨q1, q2, q3, q4, q5, q6, q7, q8, q9⟩ := hq
  obtain ⟨c1, c2, c3, c4, c5, c6, c7, c8, c9, cA, cB, cC⟩ := hC
  obtain ⟨e1, ⟨y', ey, e2⟩, e3⟩ := hE
  obtain ⟨a1, a2, a3, a4, a5, ⟨ee, a6⟩, a7, a8, a9, aA, aB, aC', aD, aE, aF'⟩ := hA
  rw [hy] at ey
  cases ey
  have hW1 := pWd_ask (x := xx) c1 c4 c5 c6 c7
  have bW := nd_le hW1.1 (fun π h => (hW1.2.1 π h).1)
  simp only [List.length_cons] at bW
  have hps : ∀ j v, ps[j]? = some v → ps'[j]? = some v := fun j v hv => by
    rw [a6, List.getElem?_append_left (List.getElem?_eq_some_iff.mp hv).1]
    exact hv
  have hnew : ∀ k e, z.2.2.2.2.2 k = x.2.1 ++ [e] → k < z.2.2.2.1 → False := fun k e h1 h2 => c4 (cB k h2 _ _ h1)
  have han0 : ∀ e, (an (x.2.1 ++ [e])).1 = 0 := fun e => Decidable.byContradiction (fun h => c4 ((c1.2.1 _ (c1.2.2.2.2 _ h)).2.2 x.2.1 e (List.prefix_refl _)))
  have hneq : ∀ e, ¬ x.2.1 ++ [e] = x.2.1 := fun e h => by
    have := congrArg List.length h
    simp at this
  refine ⟨⟨fun j hj => ?_, by omega, by omega, ?_, fun i j hi hj he => ?_⟩, fun j hj ρ e he => ?_, ?_⟩
  · rcases Nat.lt_or_ge j z.2.2.2.1 with hlt | hge
    · by_cases hjp : j = z.2.2.1
      · subst hjp
        refine ⟨y, hps _ y hy, ?_, ?_⟩
        · rw [plcX_lt hlt, q2, aB]
          exact e2
        · have eU : anU an x.2.1 xx (plcX z.2.2.2.1 z.2.2.2.2.2 x.2.1 w z.2.2.1) = xx := by
            rw [plcX_lt hlt, q2]
            exact if_pos rfl
          rw [eU, aC', aD, aF']
          rcases hcs with ⟨rfl, rfl, rfl⟩ | ⟨rfl, rfl, rfl, hP⟩
          · exact Or.inr (Or.inl ⟨rfl, rfl, rfl, rfl⟩)
          · refine Or.inr (Or.inr ⟨w, z.2.2.2.1, ar, w8, rfl, rfl, rfl, aE, har, rfl, ?_, Nat.le_refl _, fun k hk => ?_⟩)
            · rw [plcX_lt hlt, q2]
              exact hP
            · rw [plcX_ge, plcX_lt hlt, q2]
      · obtain ⟨y1, hy1, h0, hh⟩ := e1 j hlt hjp
        have ef := a7 j y1 hlt hjp hy1
        have eU : anU an x.2.1 xx (plcX z.2.2.2.1 z.2.2.2.2.2 x.2.1 w j) = an (z.2.2.2.2.2 j) := by
          rw [plcX_lt hlt]
          exact if_neg (fun e => hjp (q7 j _ hlt q3 (by rw [e, q2])))
        refine ⟨y1, hps _ y1 hy1, ?_, ?_⟩
        · rw [ef, plcX_lt hlt]
          exact h0
        · rw [eU, ef]
          rcases hh with q | q | ⟨w', f, ar', p1, p2, p3, p4, p5, p6, p7, p8, p9, pA⟩
          · exact Or.inl q
          · exact Or.inr (Or.inl q)
          · refine Or.inr (Or.inr ⟨w', f, ar', p1, p2, p3, p4, p5, p6, p7, by rw [plcX_lt hlt]; exact p8, by omega, fun k hk => ?_⟩)
            rw [plcX_lt (by omega), plcX_lt hlt]
            exact pA k hk
    · obtain ⟨k, rfl⟩ : ∃ k, j = z.2.2.2.1 + k := ⟨j - z.2.2.2.1, by omega⟩
      obtain ⟨y1, hy1, g0, g1, g2, g4⟩ := aA k (by omega)
      refine ⟨y1, hy1, ?_, Or.inl ⟨?_, g1, g2, g4⟩⟩
      · rw [g0, e2, plcX_ge, List.length_append]
        exact nI_1 _
      · rw [plcX_ge]
        unfold anU
        rw [if_neg (hneq _)]
        exact han0 _
  · rw [plcX_lt (by omega)]
    exact q6
  · rcases Nat.lt_or_ge i z.2.2.2.1 with hil | hig
    · rcases Nat.lt_or_ge j z.2.2.2.1 with hjl | hjg
      · rw [plcX_lt hil, plcX_lt hjl] at he
        exact q7 i j hil hjl he
      · obtain ⟨k, rfl⟩ : ∃ k, j = z.2.2.2.1 + k := ⟨j - z.2.2.2.1, by omega⟩
        rw [plcX_lt hil, plcX_ge] at he
        exact (hnew i _ he hil).elim
    · obtain ⟨k, rfl⟩ : ∃ k, i = z.2.2.2.1 + k := ⟨i - z.2.2.2.1, by omega⟩
      rcases Nat.lt_or_ge j z.2.2.2.1 with hjl | hjg
      · rw [plcX_lt hjl, plcX_ge] at he
        exact (hnew j _ he.symm hjl).elim
      · obtain ⟨m, rfl⟩ : ∃ m, j = z.2.2.2.1 + m := ⟨j - z.2.2.2.1, by omega⟩
        rw [plcX_ge, plcX_ge] at he
        have := List.append_cancel_left he
        simp at this
        omega
  · rcases Nat.lt_or_ge j z.2.2.2.1 with hlt | hge
    · rw [plcX_lt hlt] at he
      exact List.mem_cons_of_mem _ (cB j hlt ρ e he)
    · obtain ⟨k, rfl⟩ : ∃ k, j = z.2.2.2.1 + k := ⟨j - z.2.2.2.1, by omega⟩
      rw [plcX_ge] at he
      have := List.append_inj_left' he rfl
      rw [← this]
      exact List.mem_cons_self
  · simp only [List.length_cons]
    omega
end CM
