/-! Rows as lists: what a row of the reference holds; what settling it gives -/
section AS
variable {E : gE} {d : Nat} {G G0 : gS} {m n : Nat} {s s' t : mS} {Q : gO → gS → Prop}
theorem up_at {f : Nat → Int32} {q : Nat} {x : Int32} : upd f q x q = x := by
  unfold upd
  simp
theorem up_ne {f : Nat → Int32} {q j : Nat} {x : Int32} (h : j ≠ q) : upd f q x j = f j := by
  unfold upd
  simp [h]
theorem cpy_in {f g : Nat → Int32} {b k j : Nat} (h : j < k) : cpy f b k g (b + j) = g j := by
  unfold cpy
  rw [if_pos (by omega), Nat.add_sub_cancel_left]
theorem tnI {k : Nat} (h : k < 2 ^ 31) : tn (nI k) = k := tn_eqk (nI_hi h)
def bI : Option Nat → Int32
  | none => -1
  | some p => nI p
/-- row R holds: its case, its wishes (place, node), the places of the names -/
def hR (s : mS) (R c : Nat) (ws : List (Nat × Nat)) (bd : Nat → Option Nat) : Prop :=
  s.2 26 R = nI c ∧ s.2 27 R = nI ws.length ∧ (∀ k q, ws[k]? = some q → s.2 28 (26 * R + k) = nI q.1 ∧ s.2 29 (26 * R + k) = nI q.2) ∧ ∀ k, k < 8 → s.2 30 (8 * R + k) = bI (bd k)
/-- row R is as it was -/
def sR (s s' : mS) (R : Nat) : Prop :=
  s'.2 26 R = s.2 26 R ∧ s'.2 27 R = s.2 27 R ∧ (∀ i, i < 26 → s'.2 28 (26 * R + i) = s.2 28 (26 * R + i) ∧ s'.2 29 (26 * R + i) = s.2 29 (26 * R + i)) ∧ ∀ i, i < 8 → s'.2 30 (8 * R + i) = s.2 30 (8 * R + i)
theorem sR_rf {R : Nat} : sR s s R := ⟨rfl, rfl, fun _ _ => ⟨rfl, rfl⟩, fun _ _ => rfl⟩
theorem sR_tr {R : Nat} (h : sR s s' R) (h' : sR s' t R) : sR s t R := ⟨h'.1.trans h.1, h'.2.1.trans h.2.1, fun i hi => ⟨(h'.2.2.1 i hi).1.trans (h.2.2.1 i hi).1, (h'.2.2.1 i hi).2.trans (h.2.2.1 i hi).2⟩, fun i hi => (h'.2.2.2 i hi).trans (h.2.2.2 i hi)⟩
theorem hR_sR {R c : Nat} {ws : List (Nat × Nat)} {bd : Nat → Option Nat} (h : hR s R c ws bd) (hl : ws.length ≤ 26) (h' : sR s s' R) : hR s' R c ws bd := by
  refine ⟨h'.1.trans h.1, h'.2.1.trans h.2.1, fun k q hk => ?_, fun k hk => (h'.2.2.2 k hk).trans (h.2.2.2 k hk)⟩
  have hlt : k < ws.length := (List.getElem?_eq_some_iff.mp hk).1
  have e := h'.2.2.1 k (by omega)
  have e2 := h.2.2.1 k q hk
  exact ⟨e.1.trans e2.1, e.2.trans e2.2⟩
/-- nothing but rows has changed, and of these none below r nor work row below w -/
def sF (s s' : mS) (r w : Nat) : Prop := (∀ j, j < 26 ∨ 30 < j → s'.2 j = s.2 j) ∧ (∀ k, k ≠ 46 → k ≠ 47 → s'.1 k = s.1 k) ∧ (∀ R, R < r → sR s s' R) ∧ ∀ R, 41600 ≤ R → R < 41600 + w → sR s s' R
theorem sF_rf {r w : Nat} : sF s s r w := ⟨fun _ _ => rfl, fun _ _ _ => rfl, fun _ _ => sR_rf, fun _ _ _ => sR_rf⟩
theorem sF_tr {r w r' w' : Nat} (h : sF s s' r w) (h' : sF s' t r' w') (hr : r ≤ r') (hw : w ≤ w') : sF s t r w :=
  ⟨fun j hj => (h'.1 j hj).trans (h.1 j hj), fun k h1 h2 => (h'.2.1 k h1 h2).trans (h.2.1 k h1 h2), fun R hR => sR_tr (h.2.2.1 R hR) (h'.2.2.1 R (by omega)), fun R h1 h2 => sR_tr (h.2.2.2 R h1 h2) (h'.2.2.2 R h1 (by omega))⟩
theorem sF_le {r w r' w' : Nat} (h : sF s s' r w) (hr : r' ≤ r) (hw : w' ≤ w) : sF s s' r' w' :=
  ⟨h.1, h.2.1, fun R hR => h.2.2.1 R (by omega), fun R h1 h2 => h.2.2.2 R h1 (by omega)⟩
-- what the steps do to rows
theorem sR_bind {R k R' : Nat} (hk : k < 26) (hw : tn (s.2 5 (tn (s.2 29 (26 * R + k)))) < 8) (hne : R' ≠ R) : sR s (rBind s R k) R' := by
  refine ⟨rfl, rfl, fun i hi => ⟨rfl, ?_⟩, fun i hi => ?_⟩
  · show upd (s.2 29) (26 * R + k) _ (26 * R' + i) = _
    exact up_ne (by omega)
  · show upd (s.2 30) (8 * R + _) _ (8 * R' + i) = _
    exact up_ne (by omega)
theorem sR_drop {R k R' : Nat} (hO : tn (s.2 27 R) ≤ 26) (hne : R' ≠ R) : sR s (rDrop s R k) R' := by
  refine ⟨rfl, ?_, fun i hi => ⟨?_, ?_⟩, fun i hi => rfl⟩
  · show upd (s.2 27) R _ R' = _
    exact up_ne hne
  · show shl (s.2 28) (26 * R) k _ (26 * R' + i) = _
    exact if_neg (by omega)
  · show shl (s.2 29) (26 * R) k _ (26 * R' + i) = _
    exact if_neg (by omega)
theorem sR_copy {F T R' : Nat} (hO : tn (s.2 27 F) ≤ 26) (hne : R' ≠ T) : sR s (rCopy s F T) R' := by
  refine ⟨?_, ?_, fun i hi => ⟨?_, ?_⟩, fun i hi => ?_⟩
  · show upd (s.2 26) T _ R' = _
    exact up_ne hne
  · show upd (s.2 27) T _ R' = _
    exact up_ne hne
  · show cpy (s.2 28) (26 * T) (tn (s.2 27 F)) (fun j => s.2 28 (26 * F + j)) (26 * R' + i) = _
    exact if_neg (by omega)
  · show cpy (s.2 29) (26 * T) (tn (s.2 27 F)) (fun j => s.2 29 (26 * F + j)) (26 * R' + i) = _
    exact if_neg (by omega)
  · show cpy (s.2 30) (8 * T) 8 (fun j => s.2 30 (8 * F + j)) (8 * R' + i) = _
    exact if_neg (by omega)
theorem hR_copy {F T c : Nat} {ws : List (Nat × Nat)} {bd : Nat → Option Nat} (h : hR s F c ws bd) (hl : ws.length ≤ 26) (hne : F ≠ T) : hR (rCopy s F T) T c ws bd := by
  have e27 : tn (s.2 27 F) = ws.length := by rw [h.2.1]; exact tnI (by omega)
  refine ⟨?_, ?_, fun k q hk => ?_, fun k hk => ?_⟩
  · show upd (s.2 26) T _ T = _
    rw [up_at]
    exact h.1
  · show upd (s.2 27) T _ T = _
    rw [up_at]
    exact h.2.1
  · have hlt : k < ws.length := (List.getElem?_eq_some_iff.mp hk).1
    have e := h.2.2.1 k q hk
    refine ⟨?_, ?_⟩
    · show cpy (s.2 28) (26 * T) (tn (s.2 27 F)) (fun j => s.2 28 (26 * F + j)) (26 * T + k) = _
      rw [cpy_in (by omega)]
      exact e.1
    · show cpy (s.2 29) (26 * T) (tn (s.2 27 F)) (fun j => s.2 29 (26 * F + j)) (26 * T + k) = _
      rw [cpy_in (by omega)]
      exact e.2
  · show cpy (s.2 30) (8 * T) 8 (fun j => s.2 30 (8 * F + j)) (8 * T + k) = _
    rw [cpy_in (by omega)]
    exact h.2.2.2 k hk
/-- a name gets a place -/
def upB {α : Type} (bd : Nat → Option α) (w : Nat) (p : α) : Nat → Option α := fun k => if k = w then some p else bd k
theorem mid_get {α : Type} {l r : List α} {x y : α} {k : Nat} {q : α} (h : (l ++ y :: r)[k]? = some q) : (k = l.length ∧ q = y) ∨ (k ≠ l.length ∧ (l ++ x :: r)[k]? = some q) := by
  by_cases e : k = l.length
  · subst e
    rw [List.getElem?_append_right (Nat.le_refl _), Nat.sub_self] at h
    exact Or.inl ⟨rfl, (Option.some.inj h).symm⟩
  · refine Or.inr ⟨e, ?_⟩
    rcases Nat.lt_or_ge k l.length with hlt | hge
    · rw [List.getElem?_append_left hlt] at h ⊢
      exact h
    · rw [List.getElem?_append_right hge] at h ⊢
      obtain ⟨j, hj⟩ : ∃ j, k - l.length = j + 1 := ⟨k - l.length - 1, by omega⟩
      rw [hj] at h ⊢
      exact h
theorem mid_at {α : Type} {l r : List α} {x : α} : (l ++ x :: r)[l.length]? = some x := by
  rw [List.getElem?_append_right (Nat.le_refl _), Nat.sub_self]
  rfl
theorem hR_bind {R c p nd w v : Nat} {l r : List (Nat × Nat)} {bd : Nat → Option Nat} (h : hR s R c (l ++ (p, nd) :: r) bd) (hl : (l ++ (p, nd) :: r).length ≤ 26) (hn : nd < 700) (hw : s.2 5 nd = nI w) (w8 : w < 8) (hv : s.2 6 (4 * nd) = nI v) :
    hR (rBind s R l.length) R c (l ++ (p, v) :: r) (upB bd w p) := by
  have e := h.2.2.1 _ _ (mid_at (l := l) (r := r) (x := (p, nd)))
  have e29 : tn (s.2 29 (26 * R + l.length)) = nd := by rw [e.2]; exact tnI (by omega)
  have ew : tn (s.2 5 (tn (s.2 29 (26 * R + l.length)))) = w := by rw [e29, hw]; exact tnI (by omega)
  refine ⟨h.1, ?_, fun k q hk => ?_, fun k hk => ?_⟩
  · show s.2 27 R = _
    rw [h.2.1]
    simp
  · rcases mid_get (x := (p, nd)) hk with ⟨rfl, rfl⟩ | ⟨hne, hk'⟩
    · refine ⟨e.1, ?_⟩
      show upd (s.2 29) (26 * R + l.length) (s.2 6 (4 * tn (s.2 29 (26 * R + l.length)))) (26 * R + l.length) = _
      rw [up_at, e29]
      exact hv
    · have e2 := h.2.2.1 k q hk'
      refine ⟨e2.1, ?_⟩
      show upd (s.2 29) (26 * R + l.length) _ (26 * R + k) = _
      rw [up_ne (by omega)]
      exact e2.2
  · show upd (s.2 30) (8 * R + tn (s.2 5 (tn (s.2 29 (26 * R + l.length))))) (s.2 28 (26 * R + l.length)) (8 * R + k) = bI (if k = w then some p else bd k)
    rw [ew]
    by_cases ek : k = w
    · subst ek
      rw [up_at, if_pos rfl]
      exact e.1
    · rw [up_ne (by omega), if_neg ek]
      exact h.2.2.2 k hk
theorem del_get {α : Type} {l r : List α} {x : α} {k : Nat} {q : α} (h : (l ++ r)[k]? = some q) : (k < l.length ∧ (l ++ x :: r)[k]? = some q) ∨ (l.length ≤ k ∧ (l ++ x :: r)[k + 1]? = some q) := by
  rcases Nat.lt_or_ge k l.length with hlt | hge
  · refine Or.inl ⟨hlt, ?_⟩
    rw [List.getElem?_append_left hlt] at h ⊢
    exact h
  · refine Or.inr ⟨hge, ?_⟩
    rw [List.getElem?_append_right hge] at h
    rw [List.getElem?_append_right (by omega), show k + 1 - l.length = (k - l.length) + 1 by omega]
    exact h
theorem hR_drop {R c p nd : Nat} {l r : List (Nat × Nat)} {bd : Nat → Option Nat} (h : hR s R c (l ++ (p, nd) :: r) bd) (hl : (l ++ (p, nd) :: r).length ≤ 26) : hR (rDrop s R l.length) R c (l ++ r) bd := by
  have len : (l ++ (p, nd) :: r).length = l.length + r.length + 1 := by simp; omega
  have e27 : tn (s.2 27 R) = l.length + r.length + 1 := by rw [h.2.1, len]; exact tnI (by omega)
  refine ⟨h.1, ?_, fun k q hk => ?_, h.2.2.2⟩
  · show upd (s.2 27) R (s.2 27 R - 1) R = _
    rw [up_at, h.2.1, len, List.length_append]
    exact i_nI (sub_hi (m := l.length + r.length + 1) (nI_hi (by omega)) i1 (by omega))
  · have hkl : k < (l ++ r).length := (List.getElem?_eq_some_iff.mp hk).1
    rw [List.length_append] at hkl
    rcases del_get (x := (p, nd)) hk with ⟨hlt, hk'⟩ | ⟨hge, hk'⟩
    · have e2 := h.2.2.1 k q hk'
      refine ⟨?_, ?_⟩
      · show shl (s.2 28) (26 * R) l.length _ (26 * R + k) = _
        rw [shl, if_neg (by omega)]
        exact e2.1
      · show shl (s.2 29) (26 * R) l.length _ (26 * R + k) = _
        rw [shl, if_neg (by omega)]
        exact e2.2
    · have e2 := h.2.2.1 (k + 1) q hk'
      refine ⟨?_, ?_⟩
      · show shl (s.2 28) (26 * R) l.length (tn (s.2 27 R) - 1) (26 * R + k) = _
        rw [shl, if_pos (by omega)]
        exact e2.1
      · show shl (s.2 29) (26 * R) l.length (tn (s.2 27 R) - 1) (26 * R + k) = _
        rw [shl, if_pos (by omega)]
        exact e2.2
theorem sR_part {R k R' : Nat} (hk : k < 26) (hO : tn (s.2 27 R) ≤ 26) (h1 : R' ≠ R) (h2 : R' ≠ R + 1) : sR s (rPart s R k) R' := by
  refine sR_tr (sR_copy (F := R) hO h2) ⟨rfl, rfl, fun i hi => ⟨rfl, ?_⟩, fun i hi => rfl⟩
  show upd (upd ((rCopy s R (R + 1)).2 29) (26 * R + k + 26) _) (26 * R + k) _ (26 * R' + i) = _
  rw [up_ne (by omega), up_ne (by omega)]
theorem hR_part1 {R c p nd v : Nat} {l r : List (Nat × Nat)} {bd : Nat → Option Nat} (h : hR s R c (l ++ (p, nd) :: r) bd) (hl : (l ++ (p, nd) :: r).length ≤ 26) (hn : nd < 700) (hv : s.2 6 (4 * nd + 1) = nI v) :
    hR (rPart s R l.length) R c (l ++ (p, v) :: r) bd := by
  have len : (l ++ (p, nd) :: r).length = l.length + r.length + 1 := by simp; omega
  have e := h.2.2.1 _ _ (mid_at (l := l) (r := r) (x := (p, nd)))
  have e29 : tn (s.2 29 (26 * R + l.length)) = nd := by rw [e.2]; exact tnI (by omega)
  have e27 : tn (s.2 27 R) = l.length + r.length + 1 := by rw [h.2.1, len]; exact tnI (by omega)
  have h2 := hR_sR h hl (sR_copy (F := R) (T := R + 1) (R' := R) (s := s) (by omega) (by omega))
  refine ⟨h2.1, ?_, fun k q hk => ?_, h2.2.2.2⟩
  · show (rCopy s R (R + 1)).2 27 R = _
    rw [h2.2.1]
    simp
  · have hkl : k < (l ++ (p, v) :: r).length := (List.getElem?_eq_some_iff.mp hk).1
    have hkl2 : (l ++ (p, v) :: r).length = l.length + r.length + 1 := by simp; omega
    rcases mid_get (x := (p, nd)) hk with ⟨rfl, rfl⟩ | ⟨hne, hk'⟩
    · refine ⟨(h2.2.2.1 _ _ (mid_at (l := l) (r := r) (x := (p, nd)))).1, ?_⟩
      show upd (upd _ _ _) (26 * R + l.length) ((rCopy s R (R + 1)).2 6 (4 * tn (s.2 29 (26 * R + l.length)) + 1)) (26 * R + l.length) = _
      rw [up_at, e29]
      exact hv
    · have e2 := h2.2.2.1 k q hk'
      refine ⟨e2.1, ?_⟩
      show upd (upd ((rCopy s R (R + 1)).2 29) (26 * R + l.length + 26) _) (26 * R + l.length) _ (26 * R + k) = _
      rw [up_ne (by omega), up_ne (by omega)]
      exact e2.2
theorem hR_part0 {R c p nd v : Nat} {l r : List (Nat × Nat)} {bd : Nat → Option Nat} (h : hR s R c (l ++ (p, nd) :: r) bd) (hl : (l ++ (p, nd) :: r).length ≤ 26) (hn : nd < 700) (hv : s.2 6 (4 * nd) = nI v) :
    hR (rPart s R l.length) (R + 1) c (l ++ (p, v) :: r) bd := by
  have len : (l ++ (p, nd) :: r).length = l.length + r.length + 1 := by simp; omega
  have e := h.2.2.1 _ _ (mid_at (l := l) (r := r) (x := (p, nd)))
  have e29 : tn (s.2 29 (26 * R + l.length)) = nd := by rw [e.2]; exact tnI (by omega)
  have h2 := hR_copy (T := R + 1) h hl (by omega)
  refine ⟨h2.1, ?_, fun k q hk => ?_, h2.2.2.2⟩
  · show (rCopy s R (R + 1)).2 27 (R + 1) = _
    rw [h2.2.1]
    simp
  · have hkl : k < (l ++ (p, v) :: r).length := (List.getElem?_eq_some_iff.mp hk).1
    have hkl2 : (l ++ (p, v) :: r).length = l.length + r.length + 1 := by simp; omega
    rcases mid_get (x := (p, nd)) hk with ⟨rfl, rfl⟩ | ⟨hne, hk'⟩
    · refine ⟨(h2.2.2.1 _ _ (mid_at (l := l) (r := r) (x := (p, nd)))).1, ?_⟩
      show upd (upd ((rCopy s R (R + 1)).2 29) (26 * R + l.length + 26) ((rCopy s R (R + 1)).2 6 (4 * tn (s.2 29 (26 * R + l.length))))) (26 * R + l.length) _ (26 * (R + 1) + l.length) = _
      rw [up_ne (by omega), show 26 * (R + 1) + l.length = 26 * R + l.length + 26 by omega, up_at, e29]
      exact hv
    · have e2 := h2.2.2.1 k q hk'
      refine ⟨e2.1, ?_⟩
      show upd (upd ((rCopy s R (R + 1)).2 29) (26 * R + l.length + 26) _) (26 * R + l.length) _ (26 * (R + 1) + k) = _
      rw [up_ne (by omega), up_ne (by omega)]
      exact e2.2
end AS
