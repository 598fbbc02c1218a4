/-! A row while a wish is opened -/
section AZ
variable {s s' : mS} {P : Nat → Nat → Int32}
/-- row R: the wishes l, room for M, the wishes r -/
def hO (s : mS) (R c : Nat) (l : List (Nat × Nat)) (M : Nat) (r : List (Nat × Nat)) (bd : Nat → Option Nat) : Prop :=
  s.2 26 R = nI c ∧ s.2 27 R = nI (l.length + M + r.length) ∧ (∀ k q, l[k]? = some q → s.2 28 (26 * R + k) = nI q.1 ∧ s.2 29 (26 * R + k) = nI q.2) ∧ (∀ k q, r[k]? = some q → s.2 28 (26 * R + (l.length + M + k)) = nI q.1 ∧ s.2 29 (26 * R + (l.length + M + k)) = nI q.2) ∧ ∀ k, k < 8 → s.2 30 (8 * R + k) = bI (bd k)
theorem hO_0 {R c : Nat} {l r : List (Nat × Nat)} {bd : Nat → Option Nat} (h : hO s R c l 0 r bd) : hR s R c (l ++ r) bd := by
  obtain ⟨h1, h2, h3, h4, h5⟩ := h
  refine ⟨h1, by rw [h2, List.length_append]; rfl, fun k q hk => ?_, h5⟩
  rcases Nat.lt_or_ge k l.length with hlt | hge
  · rw [List.getElem?_append_left hlt] at hk
    exact h3 k q hk
  · rw [List.getElem?_append_right hge] at hk
    have K := h4 _ q hk
    rw [show l.length + 0 + (k - l.length) = k by omega] at K
    exact K
theorem hO_open {R c p nd M : Nat} {q : Int32} {l r : List (Nat × Nat)} {bd : Nat → Option Nat} (h : hR s R c (l ++ (p, nd) :: r) bd) (hl : (l ++ (p, nd) :: r).length ≤ 26) (hq : q = nI M) (bM : M ≤ 4) (hlM : l.length + M + r.length ≤ 26) : hO (rOpen s R l.length M q) R c l M r bd := by
  have len : (l ++ (p, nd) :: r).length = l.length + r.length + 1 := by simp; omega
  have e27 : tn (s.2 27 R) = l.length + r.length + 1 := by rw [h.2.1, len]; exact tnI (by omega)
  have hlt : ∀ k y, l[k]? = some y → k < l.length := fun k y hk => (List.getElem?_eq_some_iff.mp hk).1
  have hrt : ∀ k y, r[k]? = some y → k < r.length := fun k y hk => (List.getElem?_eq_some_iff.mp hk).1
  have gl : ∀ k y, l[k]? = some y → (l ++ (p, nd) :: r)[k]? = some y := fun k y hk => by
    rw [List.getElem?_append_left (hlt k y hk)]
    exact hk
  have gr : ∀ k y, r[k]? = some y → (l ++ (p, nd) :: r)[l.length + 1 + k]? = some y := fun k y hk => by
    rw [List.getElem?_append_right (by omega), show l.length + 1 + k - l.length = k + 1 by omega]
    exact hk
  have n27 : s.2 27 R + q - 1 = nI (l.length + M + r.length) := by
    rw [h.2.1, len, hq]
    have := sub_hi (add_hi (nI_hi (n := l.length + r.length + 1) (by omega)) (nI_hi (n := M) (by omega)) (by omega)) i1 (by omega)
    rw [show l.length + r.length + 1 + M - 1 = l.length + M + r.length by omega] at this
    exact i_nI this
  by_cases eq : q = 0
  · have eM : M = 0 := by
      rw [hq] at eq
      have := congrArg tn eq
      rw [tnI (by omega)] at this
      have z0 : tn 0 = 0 := by decide
      omega
    subst eM
    have er : rOpen s R l.length 0 q = wA (rBoth s (fun f => shl f (26 * R) l.length (tn (s.2 27 R) - 1))) 27 R (s.2 27 R + q - 1) := if_pos eq
    rw [er]
    refine ⟨h.1, ?_, fun k y hk => ?_, fun k y hk => ?_, h.2.2.2⟩
    · show upd (s.2 27) R _ R = _
      rw [up_at]
      exact n27
    · have hk' := hlt k y hk
      have e := h.2.2.1 k y (gl k y hk)
      refine ⟨?_, ?_⟩
      · show shl (s.2 28) (26 * R) l.length _ (26 * R + k) = _
        rw [shl, if_neg (by omega)]
        exact e.1
      · show shl (s.2 29) (26 * R) l.length _ (26 * R + k) = _
        rw [shl, if_neg (by omega)]
        exact e.2
    · have hk' := hrt k y hk
      have e := h.2.2.1 _ y (gr k y hk)
      refine ⟨?_, ?_⟩
      · show shl (s.2 28) (26 * R) l.length (tn (s.2 27 R) - 1) (26 * R + (l.length + 0 + k)) = _
        rw [shl, if_pos (by omega), show 26 * R + (l.length + 0 + k) + 1 = 26 * R + (l.length + 1 + k) by omega]
        exact e.1
      · show shl (s.2 29) (26 * R) l.length (tn (s.2 27 R) - 1) (26 * R + (l.length + 0 + k)) = _
        rw [shl, if_pos (by omega), show 26 * R + (l.length + 0 + k) + 1 = 26 * R + (l.length + 1 + k) by omega]
        exact e.2
  · have eM : 1 ≤ M := by
      rcases Nat.eq_zero_or_pos M with z | z
      · rw [z] at hq
        exact absurd (by rw [hq]; rfl) eq
      · exact z
    have er : rOpen s R l.length M q = wA (rBoth s (fun f => shr f (26 * R) (M - 1) l.length (tn (s.2 27 R)))) 27 R (s.2 27 R + q - 1) := if_neg eq
    rw [er]
    refine ⟨h.1, ?_, fun k y hk => ?_, fun k y hk => ?_, h.2.2.2⟩
    · show upd (s.2 27) R _ R = _
      rw [up_at]
      exact n27
    · have hk' := hlt k y hk
      have e := h.2.2.1 k y (gl k y hk)
      refine ⟨?_, ?_⟩
      · show shr (s.2 28) (26 * R) (M - 1) l.length _ (26 * R + k) = _
        rw [shr, if_neg (by omega)]
        exact e.1
      · show shr (s.2 29) (26 * R) (M - 1) l.length _ (26 * R + k) = _
        rw [shr, if_neg (by omega)]
        exact e.2
    · have hk' := hrt k y hk
      have e := h.2.2.1 _ y (gr k y hk)
      refine ⟨?_, ?_⟩
      · show shr (s.2 28) (26 * R) (M - 1) l.length (tn (s.2 27 R)) (26 * R + (l.length + M + k)) = _
        rw [shr, if_pos (by omega), show 26 * R + (l.length + M + k) - (M - 1) = 26 * R + (l.length + 1 + k) by omega]
        exact e.1
      · show shr (s.2 29) (26 * R) (M - 1) l.length (tn (s.2 27 R)) (26 * R + (l.length + M + k)) = _
        rw [shr, if_pos (by omega), show 26 * R + (l.length + M + k) - (M - 1) = 26 * R + (l.length + 1 + k) by omega]
        exact e.2
theorem sR_open {R k M R' : Nat} {q : Int32} (hO : tn (s.2 27 R) ≤ 26) (hM : tn (s.2 27 R) + M ≤ 27) (hne : R' ≠ R) : sR s (rOpen s R k M q) R' := by
  unfold rOpen
  by_cases eq : q = 0
  · rw [if_pos eq]
    refine ⟨rfl, ?_, fun i hi => ⟨?_, ?_⟩, fun i hi => rfl⟩
    · show upd (s.2 27) R _ R' = _
      exact up_ne hne
    · show shl (s.2 28) (26 * R) k (tn (s.2 27 R) - 1) (26 * R' + i) = _
      exact if_neg (by omega)
    · show shl (s.2 29) (26 * R) k (tn (s.2 27 R) - 1) (26 * R' + i) = _
      exact if_neg (by omega)
  · rw [if_neg eq]
    refine ⟨rfl, ?_, fun i hi => ⟨?_, ?_⟩, fun i hi => rfl⟩
    · show upd (s.2 27) R _ R' = _
      exact up_ne hne
    · show shr (s.2 28) (26 * R) (M - 1) k (tn (s.2 27 R)) (26 * R' + i) = _
      exact if_neg (by omega)
    · show shr (s.2 29) (26 * R) (M - 1) k (tn (s.2 27 R)) (26 * R' + i) = _
      exact if_neg (by omega)
theorem hO_in {X X' R c M : Nat} {l r : List (Nat × Nat)} {bd : Nat → Option Nat} (h : hO s R c l M r bd) (h' : sI s s' X X') : hO s' R c l M r bd := by
  unfold hO at h ⊢
  rw [h'.1 26 (by omega), h'.1 27 (by omega), h'.1 28 (by omega), h'.1 29 (by omega), h'.1 30 (by omega)]
  exact h
theorem hO_w {R c M p v : Nat} {l r : List (Nat × Nat)} {bd : Nat → Option Nat} {x y : Int32} (h : hO s R c l (M + 1) r bd) (hx : x = nI p) (hy : y = nI v) : hO (wA (wA s 28 (26 * R + l.length) x) 29 (26 * R + l.length) y) R c (l ++ [(p, v)]) M r bd := by
  obtain ⟨h1, h2, h3, h4, h5⟩ := h
  have ll : (l ++ [(p, v)]).length = l.length + 1 := by simp
  refine ⟨h1, ?_, fun k q hk => ?_, fun k q hk => ?_, h5⟩
  · show s.2 27 R = _
    rw [h2, ll, show l.length + (M + 1) + r.length = l.length + 1 + M + r.length by omega]
  · rcases Nat.lt_or_ge k l.length with hlt | hge
    · rw [List.getElem?_append_left hlt] at hk
      have e := h3 k q hk
      refine ⟨?_, ?_⟩
      · show upd (s.2 28) (26 * R + l.length) x (26 * R + k) = _
        rw [up_ne (by omega)]
        exact e.1
      · show upd (s.2 29) (26 * R + l.length) y (26 * R + k) = _
        rw [up_ne (by omega)]
        exact e.2
    · have hk1 : k < (l ++ [(p, v)]).length := (List.getElem?_eq_some_iff.mp hk).1
      have ek : k = l.length := by omega
      subst ek
      rw [List.getElem?_append_right hge, Nat.sub_self] at hk
      cases hk
      refine ⟨?_, ?_⟩
      · show upd (s.2 28) (26 * R + l.length) x (26 * R + l.length) = _
        rw [up_at]
        exact hx
      · show upd (s.2 29) (26 * R + l.length) y (26 * R + l.length) = _
        rw [up_at]
        exact hy
  · have e := h4 k q hk
    rw [ll, show l.length + 1 + M + k = l.length + (M + 1) + k by omega]
    refine ⟨?_, ?_⟩
    · show upd (s.2 28) (26 * R + l.length) x (26 * R + (l.length + (M + 1) + k)) = _
      rw [up_ne (by omega)]
      exact e.1
    · show upd (s.2 29) (26 * R + l.length) y (26 * R + (l.length + (M + 1) + k)) = _
      rw [up_ne (by omega)]
      exact e.2
theorem sR_w {R k R' : Nat} {x y : Int32} (hk : k < 26) (hne : R' ≠ R) : sR s (wA (wA s 28 (26 * R + k) x) 29 (26 * R + k) y) R' := by
  refine ⟨rfl, rfl, fun i hi => ⟨?_, ?_⟩, fun i hi => rfl⟩
  · show upd (s.2 28) (26 * R + k) x (26 * R' + i) = _
    exact up_ne (by omega)
  · show upd (s.2 29) (26 * R + k) y (26 * R' + i) = _
    exact up_ne (by omega)
theorem sR_in {X X' R : Nat} (h' : sI s s' X X') : sR s s' R := by
  unfold sR
  rw [h'.1 26 (by omega), h'.1 27 (by omega), h'.1 28 (by omega), h'.1 29 (by omega), h'.1 30 (by omega)]
  exact ⟨rfl, rfl, fun _ _ => ⟨rfl, rfl⟩, fun _ _ => rfl⟩
/-- the wish for a place, if the places of a row are distinct -/
theorem rWish_none {R p : Nat} {ws : List (Nat × Nat)} (hb : ∀ k q, ws[k]? = some q → s.2 28 (26 * R + k) = nI q.1 ∧ q.1 < 2 ^ 31) (hp : p < 2 ^ 31) : ∀ k, k ≤ ws.length → (∀ q ∈ ws, q.1 ≠ p) → rWish s R (nI p) k = -1 := by
  intro k
  induction k with
  | zero => intro _ _; rfl
  | succ k ih =>
    intro hk hn
    obtain ⟨q, hq⟩ : ∃ q, ws[k]? = some q := ⟨ws[k], List.getElem?_eq_getElem (by omega)⟩
    have e := hb k q hq
    have hne : ¬ s.2 28 (26 * R + k) = nI p := fun z => hn q (List.mem_of_getElem? hq) (by
      rw [e.1] at z
      have := congrArg tn z
      rw [tnI e.2, tnI hp] at this
      exact this)
    unfold rWish
    rw [if_neg hne]
    exact ih (by omega) hn
theorem rWish_some {R p : Nat} {l r : List (Nat × Nat)} {nd : Nat} (hb : ∀ k q, (l ++ (p, nd) :: r)[k]? = some q → s.2 28 (26 * R + k) = nI q.1 ∧ q.1 < 2 ^ 31) (hp : p < 2 ^ 31) (hr : ∀ q ∈ r, q.1 ≠ p) : ∀ j, j ≤ r.length → rWish s R (nI p) (l.length + 1 + j) = nI l.length := by
  intro j
  induction j with
  | zero =>
    intro _
    have e := hb _ _ (mid_at (l := l) (r := r) (x := (p, nd)))
    show rWish s R (nI p) (l.length + 1) = _
    unfold rWish
    rw [if_pos e.1]
  | succ j ih =>
    intro hj
    obtain ⟨q, hq⟩ : ∃ q, r[j]? = some q := ⟨r[j], List.getElem?_eq_getElem (by omega)⟩
    have hq2 : (l ++ (p, nd) :: r)[l.length + 1 + j]? = some q := by
      rw [List.getElem?_append_right (by omega), show l.length + 1 + j - l.length = j + 1 by omega]
      exact hq
    have e := hb _ q hq2
    have hne : ¬ s.2 28 (26 * R + (l.length + 1 + j)) = nI p := fun z => hr q (List.mem_of_getElem? hq) (by
      rw [e.1] at z
      have := congrArg tn z
      rw [tnI e.2, tnI hp] at this
      exact this)
    show rWish s R (nI p) (l.length + 1 + j + 1) = _
    unfold rWish
    rw [if_neg hne]
    exact ih (by omega)
end AZ
