/-! The tree of questions, as a function of the rows -/
section BK
/-- a question: its rows, its place, how many are before it, the question and the answer that it is behind -/
abbrev qR : Type := List pRow × List Nat × Nat × Int32 × Int32
/-- questions; takes; fails; the cases taken; what is missing; rows asked; the longest way by leaves, by questions -/
abbrev aSt : Type := List qR × Nat × Nat × Int32 × List Int32 × Nat × Nat × Nat
abbrev aAn : Type := List Nat → Int32 × Int32
def qSr (P : Nat → Nat → Int32) (π : List Nat) (R : List pRow) : List Int32 := aSrt [] (aNs P π R)
/-- how many answers; whether of a constructor; what an answer tells; whether it is one of the numbers wished; the answer as it is kept -/
def qN (P : Nat → Nat → Int32) (t0 : Nat) (R : List pRow) (π : List Nat) : Nat := if P 0 (tyP P t0 π) ≤ 1 then (qSr P π R).length + 1 else tn (P 0 (tyP P t0 π)) - 1
def qMd (P : Nat → Nat → Int32) (t0 : Nat) (π : List Nat) : Int32 := if P 0 (tyP P t0 π) ≤ 1 then 0 else 1
def qW (P : Nat → Nat → Int32) (t0 : Nat) (R : List pRow) (π : List Nat) (a : Nat) : Int32 := if P 0 (tyP P t0 π) ≤ 1 then (match (qSr P π R)[a]? with
    | some v => v
    | none => nI (aLst 0 (qSr P π R))) else nI a
def qI (P : Nat → Nat → Int32) (t0 : Nat) (R : List pRow) (π : List Nat) (a : Nat) : Int32 := if P 0 (tyP P t0 π) ≤ 1 then (if a < (qSr P π R).length then 1 else 0) else 1
def qX (P : Nat → Nat → Int32) (t0 : Nat) (R : List pRow) (π : List Nat) (a : Nat) : Int32 × Int32 := if P 0 (tyP P t0 π) ≤ 1 then (1, qW P t0 R π a) else (nI (2 + a), 0)
def anU (an : aAn) (π : List Nat) (x : Int32 × Int32) : aAn := fun ρ => if ρ = π then x else an ρ
/-- the rows behind answer a -/
def qL (P : Nat → Nat → Int32) (t0 : Nat) (R : List pRow) (π : List Nat) (a : Nat) : List pRow := aAns P π (qMd P t0 π) (qW P t0 R π a) (qI P t0 R π a) R
def stF (P : Nat → Nat → Int32) (t0 : Nat) (an : aAn) (way : Nat) (st : aSt) : aSt := (st.1, st.2.1, st.2.2.1 + 1, st.2.2.2.1, if st.2.2.1 = 0 then aT P t0 an 26 [] else st.2.2.2.2.1, st.2.2.2.2.2.1, max st.2.2.2.2.2.2.1 way, st.2.2.2.2.2.2.2)
def stT (c way : Nat) (st : aSt) : aSt := (st.1, st.2.1 + 1, st.2.2.1, st.2.2.2.1 ||| 1 <<< (nI c &&& 31), st.2.2.2.2.1, st.2.2.2.2.2.1, max st.2.2.2.2.2.2.1 way, st.2.2.2.2.2.2.2)
def stQ (R : List pRow) (π : List Nat) (way : Nat) (up via : Int32) (st : aSt) : aSt := (st.1 ++ [(R, π, way, up, via)], st.2.1, st.2.2.1, st.2.2.2.1, st.2.2.2.2.1, st.2.2.2.2.2.1 + R.length, st.2.2.2.2.2.2.1, max st.2.2.2.2.2.2.2 (way + 1))
/-- the answers one behind another -/
def aBs (F : Nat → aSt → Option aSt) : Nat → Nat → aSt → Option aSt
  | 0, _, st => some st
  | k + 1, a, st => match F a st with
    | none => none
    | some st' => aBs F k (a + 1) st'
/-- the tree behind rows: none where it is too great -/
def aB (P : Nat → Nat → Int32) (t0 : Nat) : Nat → List pRow → Int32 → Int32 → Nat → aAn → aSt → Option aSt
  | 0, _, _, _, _, _, _ => none
  | _ + 1, [], _, _, way, an, st => some (stF P t0 an way st)
  | f + 1, A :: r, up, via, way, an, st => match A.2.1 with
    | [] => if P 12 A.1 = 0 then some (stT A.1 way st) else aB P t0 f (aOt A.1 (A :: r)) up via way an (stT A.1 way st)
    | q :: _ => if st.1.length = 1000 then none else if 800 < st.2.2.2.2.2.1 + (A :: r).length then none else
      aBs (fun a st' => if 80 < (qL P t0 (A :: r) q.1 a).length then none else aB P t0 f (qL P t0 (A :: r) q.1 a) (nI st.1.length) (nI a) (way + 1) (anU an q.1 (qX P t0 (A :: r) q.1 a)) st') (qN P t0 (A :: r) q.1) 0 (stQ (A :: r) q.1 way up via st)
variable {s s' t : mS} {P : Nat → Nat → Int32} {N X X' t0 : Nat} {pl pl' pos : Nat → List Nat} {an : aAn} {st : aSt}
/-- the reference holds what is built -/
def rS (P : Nat → Nat → Int32) (t0 : Nat) (s : mS) (st : aSt) : Prop :=
  s.1 20 = nI st.1.length ∧ s.1 21 = nI st.2.1 ∧ s.1 22 = nI st.2.2.1 ∧ s.1 24 = st.2.2.2.1 ∧ (st.2.2.1 = 0 → s.1 25 = 0) ∧ (¬ st.2.2.1 = 0 → s.1 25 = nI st.2.2.2.2.1.length ∧ tld s 0 st.2.2.2.2.1) ∧ s.1 26 = nI st.2.2.2.2.2.1 ∧ s.1 23 = nI st.2.2.2.2.2.2.1 ∧
  ∀ i q, st.1[i]? = some q → s.2 14 i = nI q.1.length ∧ s.2 15 i = nI (qN P t0 q.1 q.2.1) ∧ s.2 16 i = nI q.2.2.1 ∧ s.2 17 i = nI q.2.1.length ∧ s.2 18 i = q.2.2.2.1 ∧ s.2 19 i = q.2.2.2.2
/-- nothing that stays has changed: steps below D, rows below r -/
def fX (s s' : mS) (D r : Nat) : Prop := (∀ j, j < 13 ∨ j = 25 ∨ j = 37 ∨ j = 38 → s'.2 j = s.2 j) ∧ (∀ k, k < 20 ∨ (26 < k ∧ k ≠ 34 ∧ k ≠ 46 ∧ k ≠ 47) → s'.1 k = s.1 k) ∧ (∀ R, R < r → sR s s' R) ∧ ∀ i, i < D → ∀ j, 31 ≤ j → j ≤ 35 → s'.2 j i = s.2 j i
theorem fX_rf {D r : Nat} : fX s s D r := ⟨fun _ _ => rfl, fun _ _ => rfl, fun _ _ => sR_rf, fun _ _ _ _ _ => rfl⟩
theorem fX_tr {D r D' r' : Nat} (h : fX s s' D r) (h' : fX s' t D' r') (hD : D ≤ D') (hr : r ≤ r') : fX s t D r :=
  ⟨fun j hj => (h'.1 j hj).trans (h.1 j hj), fun k hk => (h'.2.1 k hk).trans (h.2.1 k hk), fun R hR => sR_tr (h.2.2.1 R hR) (h'.2.2.1 R (by omega)), fun i hi j a b => (h'.2.2.2 i (by omega) j a b).trans (h.2.2.2 i hi j a b)⟩
theorem sPA_X {D r : Nat} (h : sPA s P) (h' : fX s s' D r) : sPA s' P := fun j hj => (h'.1 j (Or.inl hj)).trans (h j hj)
/-- rows that can be looked at -/
def vR (s : mS) (r : Nat) : Prop := ∀ R, R < r → (¬ s.2 27 R < 0 ∧ tn (s.2 27 R) ≤ 26) ∧ ∀ j, j < tn (s.2 27 R) → ¬ s.2 29 (26 * R + j) < 0 ∧ tn (s.2 29 (26 * R + j)) < 700
theorem vR_fr {r : Nat} (h : vR s r) (h' : ∀ R, R < r → sR s s' R) : vR s' r := by
  intro R hR
  obtain ⟨⟨a, b⟩, c⟩ := h R hR
  obtain ⟨-, e27, e28, -⟩ := h' R hR
  rw [e27]
  refine ⟨⟨a, b⟩, fun j hj => ?_⟩
  rw [(e28 j (by omega)).2]
  exact c j hj
theorem vR_add {r : Nat} {L : List pRow} (wf : wfA P N pos) (h : vR s r) (hL : hPs s pl X r L) (ok : ∀ A ∈ L, rOk P N pos t0 A) : vR s (r + L.length) := by
  have bN := wf.1.1
  intro R hR
  rcases Nat.lt_or_ge R r with hlt | hge
  · exact h R hlt
  · obtain ⟨A, hA⟩ : ∃ A, L[R - r]? = some A := ⟨L[R - r], List.getElem?_eq_getElem (by omega)⟩
    have okA := ok A (List.mem_of_getElem? hA)
    have lenA := rOk_len wf okA
    obtain ⟨ws, bd, hh, ew, -⟩ := hL _ A hA
    rw [show r + (R - r) = R by omega] at hh
    have lw : ws.length = A.2.1.length := by rw [ew, List.length_map]
    have e27 : tn (s.2 27 R) = ws.length := by rw [hh.2.1]; exact tnI (by omega)
    refine ⟨⟨by rw [hh.2.1]; exact nlt_hi (nI_hi (by omega)), by omega⟩, fun j hj => ?_⟩
    obtain ⟨q, hq⟩ : ∃ q, ws[j]? = some q := ⟨ws[j], List.getElem?_eq_getElem (by omega)⟩
    have e := (hh.2.2.1 j q hq).2
    have hin : (pl q.1, q.2) ∈ A.2.1 := by
      rw [ew]
      exact List.mem_map_of_mem (f := fun q => (pl q.1, q.2)) (List.mem_of_getElem? hq)
    have := (okA.1 _ hin).1.1
    rw [e]
    exact ⟨nlt_hi (nI_hi (by omega)), by rw [tnI (by omega)]; omega⟩
/-- kinds and types go together -/
def wfK (P : Nat → Nat → Int32) (N : Nat) : Prop := ∀ k, k < N → (P 3 k = 0 ∨ P 3 k = 1 ∨ P 3 k = 2 ∨ P 3 k = 3 ∨ P 3 k = 4) ∧ (P 3 k = 1 → P 0 (tn (P 4 k)) = 1) ∧ (P 3 k = 2 → ∃ T w, 2 ≤ T ∧ T ≤ 9 ∧ P 0 (tn (P 4 k)) = nI T ∧ w < T - 1 ∧ P 5 k = nI w)
theorem made_kind (wf : wfA P N pos) (wk : wfK P N) {q : List Nat × Nat} (h : wOk P N pos t0 q) (hk : aK P q.2) (ht : tyP P t0 q.1 < 2 ^ 31) : (P 0 (tyP P t0 q.1) ≤ 1 → P 3 q.2 = 1) ∧ (¬ P 0 (tyP P t0 q.1) ≤ 1 → P 3 q.2 = 2) ∧ (P 0 (tyP P t0 q.1) = 1 ∨ ∃ T, 2 ≤ T ∧ T ≤ 9 ∧ P 0 (tyP P t0 q.1) = nI T) := by
  obtain ⟨k1, k2, k3⟩ := wk q.2 h.1
  have et : tn (P 4 q.2) = tyP P t0 q.1 := by rw [h.2.2]; exact tnI ht
  rw [et] at k2 k3
  have two : P 3 q.2 = 2 → ¬ P 0 (tyP P t0 q.1) ≤ 1 := fun e => by
    obtain ⟨T, w, h1, h2, h3, -⟩ := k3 e
    rw [h3]
    intro y
    have := (le_hi (nI_hi (n := T) (by omega)) i1).mp y
    omega
  rcases k1 with e | e | e | e | e
  · exact absurd e hk.1
  · refine ⟨fun _ => e, fun f => absurd (by rw [k2 e]; exact Int32.le_refl _) f, Or.inl (k2 e)⟩
  · obtain ⟨T, w, h1, h2, h3, -⟩ := k3 e
    exact ⟨fun f => absurd f (two e), fun _ => e, Or.inr ⟨T, h1, h2, h3⟩⟩
  · exact absurd e hk.2.2
  · exact absurd e hk.2.1
end BK
