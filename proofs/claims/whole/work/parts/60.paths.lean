/-! Rows by paths; an answer's rows -/
section BA
/-- node k's parts, at places g i -/
def aKs {α : Type} (P : Nat → Nat → Int32) (g : Nat → α) (k a : Nat) : List (α × Nat) := (List.range a).map (fun i => (g i, tn (P 6 (4 * k + i))))
def aAr (P : Nat → Nat → Int32) (k : Nat) : Nat := tn (P 1 (8 * tn (P 4 k) + tn (P 5 k)))
/-- the nodes below N: types, parts, positions -/
def wfA (P : Nat → Nat → Int32) (N : Nat) (pos : Nat → List Nat) : Prop := wfN P N ∧
  (∀ k, k < 512 → ∃ t, t < 16 ∧ P 2 k = nI t) ∧
  ∀ k, k < N → (∃ t, t < 16 ∧ P 4 k = nI t) ∧
   (P 3 k = 4 → P 4 (tn (P 6 (4 * k))) = P 4 k ∧ pos (tn (P 6 (4 * k))) = pos k) ∧
   (P 3 k = 3 → P 4 (tn (P 6 (4 * k))) = P 4 k ∧ pos (tn (P 6 (4 * k))) = pos k ∧ P 4 (tn (P 6 (4 * k + 1))) = P 4 k ∧ pos (tn (P 6 (4 * k + 1))) = pos k) ∧
   (P 3 k = 2 → (∃ w, w < 8 ∧ P 5 k = nI w) ∧ aAr P k ≤ 4 ∧ P 1 (8 * tn (P 4 k) + tn (P 5 k)) = nI (aAr P k) ∧ aZ P (aKs P (fun _ => ()) k (aAr P k)) + 1 = tn (P 7 k) ∧
     ∀ i, i < aAr P k → ∃ v, v < k ∧ P 6 (4 * k + i) = nI v ∧ P 4 v = P 2 (32 * tn (P 4 k) + (4 * tn (P 5 k) + i)) ∧ pos v = pos k ++ [4 * tn (P 5 k) + i])
variable {s s' t : mS} {P : Nat → Nat → Int32} {N X X' t0 : Nat} {pl pl' pos : Nat → List Nat}
/-- a wish is for a node where it is -/
def wOk (P : Nat → Nat → Int32) (N : Nat) (pos : Nat → List Nat) (t0 : Nat) (q : List Nat × Nat) : Prop := q.2 < N ∧ q.1 = pos q.2 ∧ P 4 q.2 = nI (tyP P t0 q.1)
/-- places of which none is in another -/
def apart (a b : List Nat × Nat) : Prop := ¬ a.1 <+: b.1 ∧ ¬ b.1 <+: a.1
abbrev pRow : Type := Nat × List (List Nat × Nat) × (Nat → Option (List Nat))
/-- a row that is settled -/
def rOk (P : Nat → Nat → Int32) (N : Nat) (pos : Nat → List Nat) (t0 : Nat) (A : pRow) : Prop := (∀ q ∈ A.2.1, wOk P N pos t0 q ∧ aK P q.2) ∧ aZ P A.2.1 ≤ 24 ∧ A.2.1.Pairwise apart
/-- row R holds A -/
def hP (s : mS) (pl : Nat → List Nat) (X R : Nat) (A : pRow) : Prop := ∃ (ws : List (Nat × Nat)) (bd : Nat → Option Nat), hR s R A.1 ws bd ∧ A.2.1 = ws.map (fun q => (pl q.1, q.2)) ∧ A.2.2 = (fun k => (bd k).map pl) ∧ (∀ q ∈ ws, q.1 < X) ∧ ∀ k p, bd k = some p → p < X
def hPs (s : mS) (pl : Nat → List Nat) (X r0 : Nat) (L : List pRow) : Prop := ∀ i A, L[i]? = some A → hP s pl X (r0 + i) A
theorem aZ_pos (wf : wfN P N) : ∀ (l : List (List Nat × Nat)), (∀ q ∈ l, q.2 < N) → l.length ≤ aZ P l
  | [], _ => Nat.zero_le _
  | q :: r, h => by
    have h1 := aZ_pos wf r (fun y hy => h y (List.mem_cons_of_mem _ hy))
    have h2 := (wf.2 q.2 (h q List.mem_cons_self)).1
    simp only [List.length_cons, aZ]
    omega
theorem hP_fr {R : Nat} {A : pRow} (h : hP s pl X R A) (hl : A.2.1.length ≤ 26) (h' : sR s s' R) (hp : ∀ q, q < X → pl' q = pl q) (hX : X ≤ X') : hP s' pl' X' R A := by
  obtain ⟨ws, bd, h1, h2, h3, h4, h5⟩ := h
  have el : A.2.1.length = ws.length := by rw [h2, List.length_map]
  refine ⟨ws, bd, hR_sR h1 (by omega) h', ?_, ?_, fun q hq => Nat.lt_of_lt_of_le (h4 q hq) hX, fun k p hk => Nat.lt_of_lt_of_le (h5 k p hk) hX⟩
  · rw [h2]
    refine List.map_congr_left (fun q hq => ?_)
    rw [hp q.1 (h4 q hq)]
  · rw [h3]
    funext k
    cases hb : bd k with
    | none => rfl
    | some p =>
      show some (pl p) = some (pl' p)
      rw [hp p (h5 k p hb)]
theorem hPs_fr {r0 r : Nat} {L : List pRow} (h : hPs s pl X r0 L) (hl : ∀ A ∈ L, A.2.1.length ≤ 26) (h' : ∀ R, R < r → sR s s' R) (hr : r0 + L.length ≤ r) (hp : ∀ q, q < X → pl' q = pl q) (hX : X ≤ X') : hPs s' pl' X' r0 L := by
  intro i A hA
  have hlt : i < L.length := (List.getElem?_eq_some_iff.mp hA).1
  exact hP_fr (h i A hA) (hl A (List.mem_of_getElem? hA)) (h' _ (by omega)) hp hX
theorem hPs_app {r0 : Nat} {L L' : List pRow} (h : hPs s pl X r0 L) (h' : hPs s pl X (r0 + L.length) L') : hPs s pl X r0 (L ++ L') := by
  intro i A hA
  rcases Nat.lt_or_ge i L.length with hlt | hge
  · rw [List.getElem?_append_left hlt] at hA
    exact h i A hA
  · rw [List.getElem?_append_right hge] at hA
    have K := h' _ A hA
    rw [show r0 + L.length + (i - L.length) = r0 + i by omega] at K
    exact K
/-- the first wish for a place: what stands ahead, its node, what stands behind -/
def aFnd (π : List Nat) : List (List Nat × Nat) → Option (List (List Nat × Nat) × Nat × List (List Nat × Nat))
  | [] => none
  | q :: r => if q.1 = π then some ([], q.2, r) else (aFnd π r).map (fun z => (q :: z.1, z.2))
theorem aFnd_none {π : List Nat} : ∀ {l : List (List Nat × Nat)}, aFnd π l = none → ∀ q ∈ l, q.1 ≠ π
  | [], _, q, hq => by cases hq
  | y :: r, h, q, hq => by
    simp only [aFnd] at h
    by_cases e : y.1 = π
    · rw [if_pos e] at h
      cases h
    · rw [if_neg e] at h
      have h2 : aFnd π r = none := by
        cases hz : aFnd π r with
        | none => rfl
        | some z => rw [hz] at h; cases h
      rcases List.mem_cons.mp hq with rfl | hq
      · exact e
      · exact aFnd_none h2 q hq
theorem aFnd_some {π : List Nat} : ∀ {l : List (List Nat × Nat)} {z : List (List Nat × Nat) × Nat × List (List Nat × Nat)}, aFnd π l = some z → l = z.1 ++ (π, z.2.1) :: z.2.2
  | [], z, h => by cases h
  | y :: r, z, h => by
    simp only [aFnd] at h
    by_cases e : y.1 = π
    · rw [if_pos e] at h
      cases h
      rw [← e]
      rfl
    · rw [if_neg e] at h
      cases hz : aFnd π r with
      | none => rw [hz] at h; cases h
      | some x =>
        rw [hz] at h
        cases h
        have := aFnd_some hz
        rw [this]
        rfl
/-- the rows behind an answer at π, of one row -/
def aAns1 (P : Nat → Nat → Int32) (π : List Nat) (md wh is : Int32) (A : pRow) : List pRow := match aFnd π A.2.1 with
  | none => [A]
  | some z => if P 5 z.2.1 = wh ∧ (¬ md = 0 ∨ ¬ is = 0) then aC A.1 (aL P (z.1 ++ (aKs P (fun i => π ++ [4 * tn wh + i]) z.2.1 (if md = 0 then 0 else aAr P z.2.1) ++ z.2.2)) A.2.2) else []
def aAns (P : Nat → Nat → Int32) (π : List Nat) (md wh is : Int32) : List pRow → List pRow
  | [] => []
  | A :: r => aAns1 P π md wh is A ++ aAns P π md wh is r
theorem aAns_app {π : List Nat} {md wh is : Int32} : ∀ (l r : List pRow), aAns P π md wh is (l ++ r) = aAns P π md wh is l ++ aAns P π md wh is r
  | [], r => rfl
  | A :: l, r => by
    simp only [List.cons_append, aAns]
    rw [aAns_app l r, List.append_assoc]
/-- nothing but places and rows has changed -/
def fB (s s' : mS) (r0 X X' : Nat) : Prop := (∀ j, j < 20 ∨ (23 < j ∧ j < 26) ∨ 30 < j → s'.2 j = s.2 j) ∧ (∀ k, k ≠ 34 → k ≠ 46 → k ≠ 47 → s'.1 k = s.1 k) ∧ (∀ R, R < r0 → sR s s' R) ∧ (∀ q, q < X → s'.2 23 q = s.2 23 q) ∧ (∀ q, X ≤ q → q < X' → s'.2 23 q = 0) ∧ X ≤ X'
theorem fB_rf {r0 : Nat} : fB s s r0 X X := ⟨fun _ _ => rfl, fun _ _ _ _ => rfl, fun _ _ => sR_rf, fun _ _ => rfl, fun q h1 h2 => by omega, Nat.le_refl _⟩
theorem fB_tr {r0 r1 X2 : Nat} (h : fB s s' r0 X X') (h' : fB s' t r1 X' X2) (hr : r0 ≤ r1) : fB s t r0 X X2 := by
  refine ⟨fun j hj => (h'.1 j hj).trans (h.1 j hj), fun k a b c => (h'.2.1 k a b c).trans (h.2.1 k a b c), fun R hR => sR_tr (h.2.2.1 R hR) (h'.2.2.1 R (by omega)), fun q hq => ?_, fun q h1 h2 => ?_, Nat.le_trans h.2.2.2.2.2 h'.2.2.2.2.2⟩
  · exact (h'.2.2.2.1 q (Nat.lt_of_lt_of_le hq h.2.2.2.2.2)).trans (h.2.2.2.1 q hq)
  · rcases Nat.lt_or_ge q X' with hlt | hge
    · exact (h'.2.2.2.1 q hlt).trans (h.2.2.2.2.1 q h1 hlt)
    · exact h'.2.2.2.2.1 q hge h2
theorem fB_F {r0 w : Nat} (h : sF s s' r0 w) : fB s s' r0 X X := by
  refine ⟨fun j hj => h.1 j (by omega), fun k _ b c => h.2.1 k b c, h.2.2.1, fun q _ => ?_, fun q h1 h2 => by omega, Nat.le_refl _⟩
  rw [h.1 23 (by omega)]
theorem fB_I {r0 : Nat} (h : sI s s' X X') : fB s s' r0 X X' :=
  ⟨fun j hj => h.1 j (by omega), fun k a _ _ => h.2.1 k a, fun R _ => sR_in h, h.2.2.1, h.2.2.2.1, h.2.2.2.2⟩
theorem plOk_F {r w : Nat} (h : plOk s P N t0 pos pl X) (h' : sF s s' r w) : plOk s' P N t0 pos pl X := by
  unfold plOk at h ⊢
  rw [h'.1 20 (by omega), h'.1 21 (by omega), h'.1 22 (by omega), h'.2.1 34 (by decide) (by decide)]
  exact h
/-- the nodes' and types' arrays -/
def sPA (s : mS) (P : Nat → Nat → Int32) : Prop := ∀ j, j < 13 → s.2 j = P j
theorem sPA_P (h : sPA s P) : sP s P := ⟨h 3 (by omega), h 5 (by omega), h 6 (by omega), h 7 (by omega)⟩
theorem sPA_F {r w : Nat} (h : sPA s P) (h' : sF s s' r w) : sPA s' P := fun j hj => (h'.1 j (by omega)).trans (h j hj)
theorem sPA_I (h : sPA s P) (h' : sI s s' X X') : sPA s' P := fun j hj => (h'.1 j (by omega)).trans (h j hj)
theorem sPA_A {r0 : Nat} (h : sPA s P) (h' : fB s s' r0 X X') : sPA s' P := fun j hj => (h'.1 j (by omega)).trans (h j hj)
theorem aKs_Z {α β : Type} {g : Nat → α} {g' : Nat → β} {k : Nat} : ∀ (a : Nat), aZ P (aKs P g k a) = aZ P (aKs P g' k a) := by
  intro a
  induction a with
  | zero => rfl
  | succ a ih =>
    unfold aKs at ih ⊢
    rw [List.range_succ, List.map_append, List.map_append, aZ_app, aZ_app, ih]
    rfl
end BA
