/-! The reference's tellMissing: its contract -/
section BI
variable {E : gE} {d : Nat} {G G0 : gS} {m n : Nat} {s s' : mS} {Q : gO → gS → Prop} {P : Nat → Nat → Int32} {N X t0 : Nat} {pl pos : Nat → List Nat} {an : List Nat → Int32 × Int32}
/-- what is told of the parts from k on -/
def aTk (T : List Nat → List Int32) (π : List Nat) (c : Nat) : Nat → Nat → List Int32
  | _, 0 => []
  | k, a + 1 => T (π ++ [4 * c + k]) ++ aTk T π c (k + 1) a
/-- what is told of a place: an: its answer (0 none, 1 the number, 2 + constructor) -/
def aT (P : Nat → Nat → Int32) (t0 : Nat) (an : List Nat → Int32 × Int32) : Nat → List Nat → List Int32
  | 0, _ => []
  | f + 1, π => if (an π).1 = 0 then [2, 0] else if (an π).1 = 1 then [0, (an π).2] else [1, nI (tn (an π).1 - 2)] ++ aTk (aT P t0 an f) π (tn (an π).1 - 2) 0 (tn (P 1 (8 * tyP P t0 π + (tn (an π).1 - 2))))
/-- answers are in order -/
def anOk (P : Nat → Nat → Int32) (t0 : Nat) (an : List Nat → Int32 × Int32) : Prop := ∀ π, (an π).1 = 0 ∨ (an π).1 = 1 ∨ ∃ w a, w < 8 ∧ (an π).1 = nI (2 + w) ∧ a ≤ 4 ∧ P 1 (8 * tyP P t0 π + w) = nI a ∧ tyP P t0 π < 16
/-- the reference holds the answers -/
def anS (s : mS) (pl : Nat → List Nat) (X : Nat) (an : List Nat → Int32 × Int32) : Prop := (∀ p, p < X → s.2 23 p = (an (pl p)).1 ∧ ((an (pl p)).1 = 1 → s.2 24 p = (an (pl p)).2)) ∧ ∀ π, (∀ p, p < X → pl p ≠ π) → (an π).1 = 0
/-- no deeper than f -/
def dOk (P : Nat → Nat → Int32) (t0 : Nat) (an : List Nat → Int32 × Int32) : Nat → List Nat → Prop
  | 0, _ => False
  | f + 1, π => (an π).1 = 0 ∨ (an π).1 = 1 ∨ ∀ k, k < tn (P 1 (8 * tyP P t0 π + (tn (an π).1 - 2))) → dOk P t0 an f (π ++ [4 * (tn (an π).1 - 2) + k])
/-- what an item on the stack stands for -/
def sIt (s : mS) (pl : Nat → List Nat) (X : Nat) (x : Int32) (π : List Nat) : Prop := (∃ p, p < X ∧ x = nI p ∧ pl p = π) ∨ ∃ o k w, o < X ∧ k < 4 ∧ w < 8 ∧ x = -2 - (8 * nI o + nI k) ∧ s.2 23 o = nI (2 + w) ∧ π = pl o ++ [4 * w + k]
/-- the items, the topmost first -/
def sts (s : mS) (pl : Nat → List Nat) (X : Nat) : List (Nat × List Nat) → Prop
  | [] => True
  | q :: r => sIt s pl X (s.2 36 r.length) q.2 ∧ sts s pl X r
def oTs (P : Nat → Nat → Int32) (t0 : Nat) (an : List Nat → Int32 × Int32) : List (Nat × List Nat) → List Int32
  | [] => []
  | q :: r => aT P t0 an q.1 q.2 ++ oTs P t0 an r
/-- nothing has changed but what is told, and the stack -/
def fT (s s' : mS) : Prop := (∀ j, j ≠ 13 → j ≠ 36 → s'.2 j = s.2 j) ∧ ∀ k, k ≠ 25 → s'.1 k = s.1 k
theorem fT_rf : fT s s := ⟨fun _ _ _ => rfl, fun _ _ => rfl⟩
theorem fT_tr {t : mS} (h : fT s s') (h' : fT s' t) : fT s t := ⟨fun j a b => (h'.1 j a b).trans (h.1 j a b), fun k a => (h'.2 k a).trans (h.2 k a)⟩
theorem fT_tl {c : Nat} {x y : Int32} : fT s (rTl s c x y) := by
  refine ⟨fun j a b => ?_, fun k a => ?_⟩
  · unfold rTl wF wA wR upA
    dsimp only
    simp only [a, if_false]
  · show upd s.1 25 _ k = _
    exact up_ne a
theorem fT_st {q : Nat} {x : Int32} : fT s (wA s 36 q x) := by
  refine ⟨fun j a b => ?_, fun k a => rfl⟩
  unfold wA wR upA
  dsimp only
  simp only [b, if_false]
theorem plOk_T (h : plOk s P N t0 pos pl X) (h' : fT s s') : plOk s' P N t0 pos pl X := by
  unfold plOk at h ⊢
  rw [h'.1 20 (by decide) (by decide), h'.1 21 (by decide) (by decide), h'.1 22 (by decide) (by decide), h'.2 34 (by decide)]
  exact h
theorem anS_T (h : anS s pl X an) (h' : fT s s') : anS s' pl X an := by
  unfold anS at h ⊢
  rw [h'.1 23 (by decide) (by decide), h'.1 24 (by decide) (by decide)]
  exact h
theorem sIt_T {x : Int32} {π : List Nat} (h : sIt s pl X x π) (h' : fT s s') : sIt s' pl X x π := by
  unfold sIt at h ⊢
  rw [h'.1 23 (by decide) (by decide)]
  exact h
theorem sts_T : ∀ {l : List (Nat × List Nat)}, sts s pl X l → fT s s' → (∀ i, i < l.length → s'.2 36 i = s.2 36 i) → sts s' pl X l
  | [], _, _, _ => trivial
  | q :: r, h, h', hi => by
    refine ⟨?_, sts_T h.2 h' (fun i hl => hi i (by simp; omega))⟩
    rw [hi r.length (by simp)]
    exact sIt_T h.1 h'
/-- what is told already: x from c0 on -/
def tld (s : mS) (c0 : Nat) (l : List Int32) : Prop := ∀ i x, l[i]? = some x → s.2 13 (c0 + i) = x
theorem aT_pos {f : Nat} {π : List Nat} : dOk P t0 an f π → 2 ≤ (aT P t0 an f π).length := by
  intro h
  cases f with
  | zero => exact h.elim
  | succ f =>
    simp only [aT]
    split
    · simp
    · split
      · simp
      · simp
theorem oTs_pos : ∀ {l : List (Nat × List Nat)}, (∀ q ∈ l, dOk P t0 an q.1 q.2) → 2 * l.length ≤ (oTs P t0 an l).length
  | [], _ => Nat.le_refl _
  | q :: r, h => by
    have h1 := aT_pos (h q List.mem_cons_self)
    have h2 := oTs_pos (l := r) (fun y hy => h y (List.mem_cons_of_mem _ hy))
    simp only [oTs, List.length_cons, List.length_append]
    omega
/-- the children, as items -/
def kid (f : Nat) (π : List Nat) (c : Nat) : Nat → Nat → List (Nat × List Nat)
  | _, 0 => []
  | k, a + 1 => (f, π ++ [4 * c + k]) :: kid f π c (k + 1) a
theorem kid_len {f c : Nat} {π : List Nat} : ∀ (a k : Nat), (kid f π c k a).length = a
  | 0, _ => rfl
  | a + 1, k => by
    simp only [kid, List.length_cons]
    rw [kid_len a (k + 1)]
theorem oTs_kid {f c : Nat} {π : List Nat} {r : List (Nat × List Nat)} : ∀ (a k : Nat), oTs P t0 an (kid f π c k a ++ r) = aTk (aT P t0 an f) π c k a ++ oTs P t0 an r
  | 0, _ => rfl
  | a + 1, k => by
    simp only [kid, List.cons_append, oTs, aTk]
    rw [oTs_kid a (k + 1), List.append_assoc]
theorem kid_ok {f c : Nat} {π : List Nat} : ∀ (a k : Nat), (∀ j, k ≤ j → j < k + a → dOk P t0 an f (π ++ [4 * c + j])) → ∀ q ∈ kid f π c k a, dOk P t0 an q.1 q.2
  | 0, _, _, q, h => by cases h
  | a + 1, k, hk, q, h => by
    rcases List.mem_cons.mp h with rfl | h
    · exact hk k (Nat.le_refl _) (by omega)
    · exact kid_ok a (k + 1) (fun j h1 h2 => hk j (by omega) (by omega)) q h
theorem tld_app {c0 : Nat} {l r : List Int32} (h : tld s c0 l) (h' : tld s (c0 + l.length) r) : tld s c0 (l ++ r) := by
  intro i x hi
  rcases Nat.lt_or_ge i l.length with hlt | hge
  · rw [List.getElem?_append_left hlt] at hi
    exact h i x hi
  · rw [List.getElem?_append_right hge] at hi
    have := h' _ x hi
    rw [show c0 + l.length + (i - l.length) = c0 + i by omega] at this
    exact this
theorem tld_tl {c0 c : Nat} {l : List Int32} {x y : Int32} (h : tld s c0 l) (hc : c = c0 + l.length) : tld (rTl s c x y) c0 (l ++ [x, y]) := by
  refine tld_app (fun i z hi => ?_) (fun i z hi => ?_)
  · have hlt : i < l.length := (List.getElem?_eq_some_iff.mp hi).1
    show upd (upd (s.2 13) c x) (c + 1) y (c0 + i) = z
    rw [up_ne (by omega), up_ne (by omega)]
    exact h i z hi
  · have hlt : i < 2 := (List.getElem?_eq_some_iff.mp hi).1
    rcases (show i = 0 ∨ i = 1 by omega) with rfl | rfl
    · cases hi
      show upd (upd (s.2 13) c x) (c + 1) y (c0 + l.length + 0) = x
      rw [up_ne (by omega), Nat.add_zero, ← hc, up_at]
    · cases hi
      show upd (upd (s.2 13) c x) (c + 1) y (c0 + l.length + 1) = y
      rw [← hc, up_at]
end BI
