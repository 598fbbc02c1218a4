/-! The numbers that the reference's rows wish -/
section BG
variable {s : mS} {P : Nat → Nat → Int32} {N X t0 : Nat} {pl pos : Nat → List Nat}
/-- what rows wish of a place -/
def aNs (P : Nat → Nat → Int32) (π : List Nat) : List pRow → List Int32
  | [] => []
  | A :: r => (match aFnd π A.2.1 with
    | none => []
    | some z => [P 5 z.2.1]) ++ aNs P π r
theorem aNs_app {π : List Nat} : ∀ (l r : List pRow), aNs P π (l ++ r) = aNs P π l ++ aNs P π r
  | [], r => rfl
  | A :: l, r => by
    simp only [List.cons_append, aNs]
    rw [aNs_app l r, List.append_assoc]
theorem aNs_len {π : List Nat} : ∀ (l : List pRow), (aNs P π l).length ≤ l.length
  | [] => Nat.le_refl _
  | A :: l => by
    have := aNs_len (π := π) l
    simp only [aNs, List.length_append, List.length_cons]
    split
    · simp
      omega
    · simp
      omega
theorem aNs_take {π : List Nat} {L : List pRow} {k : Nat} {A : pRow} (h : L[k]? = some A) : aNs P π (L.take (k + 1)) = aNs P π (L.take k) ++ (match aFnd π A.2.1 with
    | none => []
    | some z => [P 5 z.2.1]) := by
  rw [List.take_succ, h, aNs_app]
  simp [aNs]
/-- the wish of a row for a place -/
theorem row_wish (wf : wfA P N pos) (hpl : plOk s P N t0 pos pl X) {p R : Nat} {π : List Nat} {A : pRow} (hp : p < X) (hπ : pl p = π) (h : hP s pl X R A) (ok : rOk P N pos t0 A) : match aFnd π A.2.1 with
    | none => rWs s R (nI p) = -1
    | some z => rWs s R (nI p) = nI z.1.length ∧ z.1.length < 26 ∧ s.2 29 (26 * R + z.1.length) = nI z.2.1 ∧ z.2.1 < N := by
  have bN := wf.1.1
  have bX := plOk_X hpl
  have lenA := rOk_len wf ok
  obtain ⟨ws, bd, hh, ew, eb, wX, bX1⟩ := h
  have lw : ws.length = A.2.1.length := by rw [ew, List.length_map]
  have e27 : tn (s.2 27 R) = ws.length := by rw [hh.2.1]; exact tnI (by omega)
  have hin : ∀ q ∈ ws, (pl q.1, q.2) ∈ A.2.1 := fun q hq => by
    rw [ew]
    exact List.mem_map_of_mem (f := fun q => (pl q.1, q.2)) hq
  have hb : ∀ i q, ws[i]? = some q → s.2 28 (26 * R + i) = nI q.1 ∧ q.1 < 2 ^ 31 := fun i q hq => ⟨(hh.2.2.1 i q hq).1, by have := wX q (List.mem_of_getElem? hq); omega⟩
  cases hf : aFnd π A.2.1 with
  | none =>
    have hn := aFnd_none hf
    have hn2 : ∀ q ∈ ws, q.1 ≠ p := fun q hq h => hn _ (hin q hq) (by show pl q.1 = π; rw [h]; exact hπ)
    show rWish s R (nI p) (tn (s.2 27 R)) = -1
    rw [e27]
    exact rWish_none hb (by omega) ws.length (Nat.le_refl _) hn2
  | some z =>
    have hz := aFnd_some hf
    have hz0 := hz
    rw [ew] at hz
    obtain ⟨l, p', r, e1, e2, e3, e4⟩ := map_split hz
    have hmem : (p', z.2.1) ∈ ws := by rw [e1]; simp
    have ep : p' = p := hpl.2.2.2.2.1 p' p (wX _ hmem) hp (by rw [e2, hπ])
    subst ep
    have hrn : ∀ q ∈ r, q.1 ≠ p' := by
      intro q hq h
      have pw := ok.2.2
      rw [ew, e1, List.map_append, List.map_cons] at pw
      have pw2 := (List.pairwise_append.mp pw).2.1
      have pw3 := (List.pairwise_cons.mp pw2).1 (pl q.1, q.2) (List.mem_map_of_mem (f := fun q => (pl q.1, q.2)) hq)
      exact pw3.1 (by show pl p' <+: pl q.1; rw [h]; exact List.prefix_refl _)
    have ll : ws.length = l.length + r.length + 1 := by rw [e1]; simp; omega
    have hwi := rWish_some (s := s) (R := R) (l := l) (r := r) (nd := z.2.1) (fun i q hq => hb i q (by rw [e1]; exact hq)) (by omega) hrn r.length (Nat.le_refl _)
    rw [show l.length + 1 + r.length = ws.length by omega] at hwi
    have el : z.1.length = l.length := by rw [← e3, List.length_map]
    rw [e1] at hh
    have e29 := (hh.2.2.1 _ _ (mid_at (l := l) (r := r) (x := (p', z.2.1)))).2
    refine ⟨?_, by omega, by rw [el]; exact e29, (ok.1 _ (hin _ hmem)).1.1⟩
    show rWish s R (nI p') (tn (s.2 27 R)) = _
    rw [e27, el]
    exact hwi
theorem abF_app {y al : Int32} : ∀ (l r : List Int32) (b : Int32 × Int32), abF y al b (l ++ r) = abF y al (abF y al b l) r
  | [], r, b => rfl
  | v :: l, r, b => by
    simp only [List.cons_append, abF]
    exact abF_app l r _
variable {p first : Nat} {π : List Nat} {L : List pRow}
/-- the rows of the tree: they hold L, its rows are in order -/
def tRows (s : mS) (P : Nat → Nat → Int32) (N t0 : Nat) (pos pl : Nat → List Nat) (X first : Nat) (L : List pRow) : Prop := plOk s P N t0 pos pl X ∧ hPs s pl X first L ∧ (∀ A ∈ L, rOk P N pos t0 A) ∧ s.2 5 = P 5
theorem rAb_list (wf : wfA P N pos) (h : tRows s P N t0 pos pl X first L) (hp : p < X) (hπ : pl p = π) {y al : Int32} : ∀ k, k ≤ L.length → rAb s first (nI p) y al k = abF y al (0, 0) (aNs P π (L.take k)) := by
  obtain ⟨hpl, hr, hok, h5⟩ := h
  have bN := wf.1.1
  intro k
  induction k with
  | zero => intro _; rfl
  | succ k ih =>
    intro hk
    obtain ⟨A, hA⟩ : ∃ A, L[k]? = some A := ⟨L[k], List.getElem?_eq_getElem (by omega)⟩
    have rw1 := row_wish wf hpl hp hπ (hr k A hA) (hok A (List.mem_of_getElem? hA))
    rw [aNs_take hA, abF_app, ← ih (by omega)]
    simp only [rAb]
    cases hf : aFnd π A.2.1 with
    | none =>
      rw [hf] at rw1
      dsimp only at rw1 ⊢
      rw [rw1, if_pos (by decide)]
      rfl
    | some z =>
      rw [hf] at rw1
      dsimp only at rw1 ⊢
      obtain ⟨w1, w2, w3, w4⟩ := rw1
      have ev : rWv s (first + k) (nI p) = P 5 z.2.1 := by
        show s.2 5 (tn (s.2 29 (26 * (first + k) + tn (rWs s (first + k) (nI p))))) = _
        rw [w1, tnI (by omega), w3, tnI (by omega), h5]
      rw [w1, if_neg (by rw [Classical.not_not]; exact nI_pos' (by omega)), ev]
      rfl
theorem rIsW_list (wf : wfA P N pos) (h : tRows s P N t0 pos pl X first L) (hp : p < X) (hπ : pl p = π) {x : Int32} : ∀ k, k ≤ L.length → rIsW s first (nI p) x k = if x ∈ aNs P π (L.take k) then 1 else 0 := by
  obtain ⟨hpl, hr, hok, h5⟩ := h
  have bN := wf.1.1
  intro k
  induction k with
  | zero => intro _; rfl
  | succ k ih =>
    intro hk
    obtain ⟨A, hA⟩ : ∃ A, L[k]? = some A := ⟨L[k], List.getElem?_eq_getElem (by omega)⟩
    have rw1 := row_wish wf hpl hp hπ (hr k A hA) (hok A (List.mem_of_getElem? hA))
    rw [aNs_take hA]
    simp only [rIsW]
    rw [ih (by omega)]
    by_cases m0 : x ∈ aNs P π (L.take k)
    · rw [if_pos m0, if_pos (by decide), if_pos (List.mem_append_left _ m0)]
    · rw [if_neg m0, if_neg (by decide)]
      cases hf : aFnd π A.2.1 with
      | none =>
        rw [hf] at rw1
        dsimp only at rw1 ⊢
        rw [rw1, if_pos (by decide), List.append_nil, if_neg m0]
      | some z =>
        rw [hf] at rw1
        dsimp only at rw1 ⊢
        obtain ⟨w1, w2, w3, w4⟩ := rw1
        rw [w1, if_neg (nI_pos (by omega)), tnI (by omega), w3, tnI (by omega), h5]
        by_cases e : P 5 z.2.1 = x
        · rw [if_pos e, if_pos (List.mem_append_right _ (by rw [e]; exact List.mem_cons_self))]
        · rw [if_neg e, if_neg (fun q => by
            rcases List.mem_append.mp q with q | q
            · exact m0 q
            · exact e (List.mem_singleton.mp q).symm)]
theorem rCnt_list (wf : wfA P N pos) (h : tRows s P N t0 pos pl X first L) (hp : p < X) (hπ : pl p = π) (bL : L.length < 1000) : ∀ (w : Nat) (S1 S2 : List Int32) (x : Int32) (c : Nat), aSrt [] (aNs P π L) = S1 ++ x :: S2 → S2.length + 2 ≤ w → c + S2.length < 2000 → rCnt s first L.length (nI p) w x 1 (nI c) = (nI (c + S2.length + 1), 0) := by
  intro w
  induction w with
  | zero => intro S1 S2 x c _ h2; omega
  | succ w ih =>
    intro S1 S2 x c hS hw hc
    have e := rAb_list (y := x) (al := 0) wf h hp hπ L.length (Nat.le_refl _)
    rw [List.take_length, abF_next hS] at e
    simp only [rCnt]
    rw [if_neg (by decide), e, nI_1]
    cases S2 with
    | nil =>
      obtain ⟨w', rfl⟩ : ∃ k, w = k + 1 := ⟨w - 1, by simp at hw; omega⟩
      rfl
    | cons z r =>
      simp only [List.length_cons] at hw hc ⊢
      have := ih (S1 ++ [x]) r z (c + 1) (by rw [hS]; simp) (by omega) (by omega)
      rw [show c + (r.length + 1) + 1 = c + 1 + r.length + 1 by omega]
      exact this
/-- how many answers a question for numbers has -/
theorem cnt_all (wf : wfA P N pos) (h : tRows s P N t0 pos pl X first L) (hp : p < X) (hπ : pl p = π) (bL : L.length < 1000) : rCnt s first L.length (nI p) (L.length + 2) (rAb s first (nI p) 0 1 L.length).1 (rAb s first (nI p) 0 1 L.length).2 0 = (nI (aSrt [] (aNs P π L)).length, 0) := by
  have e := rAb_list (y := 0) (al := 1) wf h hp hπ L.length (Nat.le_refl _)
  rw [List.take_length, abF_all] at e
  rw [e]
  have l1 := aSrt_len (l := aNs P π L) (S := [])
  have l2 := aNs_len (P := P) (π := π) L
  cases hS : aSrt [] (aNs P π L) with
  | nil => rfl
  | cons x r =>
    rw [hS] at l1
    simp only [List.length_cons, List.length_nil] at l1
    have := rCnt_list wf h hp hπ bL (L.length + 2) [] r x 0 hS (by omega) (by omega)
    rw [show nI 0 = 0 from rfl, Nat.zero_add] at this
    exact this
/-- the least number from 0 on that isn't among the rising S -/
def aLst : Nat → List Int32 → Nat
  | v, [] => v
  | v, x :: r => if x = nI v then aLst (v + 1) r else aLst v r
theorem aLst_ok : ∀ (S : List Int32) (v : Nat), ris S → v + S.length < 2 ^ 31 → v ≤ aLst v S ∧ aLst v S ≤ v + S.length ∧ (∀ u, v ≤ u → u < aLst v S → nI u ∈ S) ∧ ¬ nI (aLst v S) ∈ S
  | [], v, _, _ => ⟨Nat.le_refl _, Nat.le_refl _, fun u h1 h2 => by simp only [aLst] at h2; omega, by simp⟩
  | x :: r, v, h, hb => by
    obtain ⟨h1, h2⟩ := List.pairwise_cons.mp h
    simp only [List.length_cons] at hb ⊢
    simp only [aLst]
    split
    · rename_i e
      obtain ⟨a1, a2, a3, a4⟩ := aLst_ok r (v + 1) h2 (by omega)
      refine ⟨by omega, by omega, fun u q1 q2 => ?_, fun q => ?_⟩
      · by_cases eu : u = v
        · rw [eu, ← e]
          exact List.mem_cons_self
        · exact List.mem_cons_of_mem _ (a3 u (by omega) q2)
      · rcases List.mem_cons.mp q with q | q
        · rw [e] at q
          have := congrArg tn q
          rw [tnI (by omega), tnI (by omega)] at this
          omega
        · exact a4 q
    · rename_i e
      obtain ⟨a1, a2, a3, a4⟩ := aLst_ok r v h2 (by omega)
      refine ⟨a1, by omega, fun u q1 q2 => List.mem_cons_of_mem _ (a3 u q1 q2), fun q => ?_⟩
      rcases List.mem_cons.mp q with q | q
      · -- x is the least of all, and it isn't v: then v isn't in r
        rcases Nat.eq_or_lt_of_le a1 with z | z
        · exact e (by rw [z, ← q])
        · have hv := a3 v (Nat.le_refl _) z
          have := h1 _ hv
          rw [← q, i_lt, nI_hi (by omega), nI_hi (by omega)] at this
          omega
      · exact a4 q
theorem rOth_list (wf : wfA P N pos) (h : tRows s P N t0 pos pl X first L) (hp : p < X) (hπ : pl p = π) (bL : L.length < 1000) : rOth s first L.length (nI p) (L.length + 1) 0 = aLst 0 (aSrt [] (aNs P π L)) := by
  have l1 := aSrt_len (l := aNs P π L) (S := [])
  have l2 := aNs_len (P := P) (π := π) L
  simp only [List.length_nil] at l1
  obtain ⟨-, a2, a3, a4⟩ := aLst_ok (aSrt [] (aNs P π L)) 0 (aSrt_ris List.Pairwise.nil) (by omega)
  have mem : ∀ x, x ∈ aNs P π L ↔ x ∈ aSrt [] (aNs P π L) := fun x => by
    rw [aSrt_mem]
    constructor
    · exact Or.inr
    · rintro (q | q)
      · cases q
      · exact q
  have key : ∀ (w v : Nat), v ≤ aLst 0 (aSrt [] (aNs P π L)) → aLst 0 (aSrt [] (aNs P π L)) < v + w → rOth s first L.length (nI p) w v = aLst 0 (aSrt [] (aNs P π L)) := by
    intro w
    induction w with
    | zero => intro v q1 q2; omega
    | succ w ih =>
      intro v q1 q2
      have e := rIsW_list (x := nI v) wf h hp hπ L.length (Nat.le_refl _)
      rw [List.take_length] at e
      simp only [rOth]
      rw [e]
      by_cases ev : v = aLst 0 (aSrt [] (aNs P π L))
      · have hn : ¬ nI v ∈ aNs P π L := fun q => a4 (by rw [← ev]; exact (mem _).mp q)
        rw [if_neg hn, if_pos rfl]
        exact ev
      · have hn : nI v ∈ aNs P π L := (mem _).mpr (a3 v (by omega) (by omega))
        rw [if_pos hn, if_neg (by decide)]
        exact ih (v + 1) (by omega) (by omega)
  exact key (L.length + 1) 0 (by omega) (by omega)
end BG
