/-! Places as paths -/
section AY
variable {E : gE} {s s' : mS} {P : Nat → Nat → Int32} {N X t0 : Nat} {pl pl' : Nat → List Nat} {pos : Nat → List Nat}
/-- no more things than holes -/
theorem pigeon : ∀ (N k : Nat) (f : Nat → Nat), (∀ i, i < k → f i < N) → (∀ i j, i < k → j < k → f i = f j → i = j) → k ≤ N := by
  intro N
  induction N with
  | zero =>
    intro k f h _
    rcases Nat.eq_zero_or_pos k with e | e
    · omega
    · have := h 0 e
      omega
  | succ N ih =>
    intro k f h hi
    by_cases ex : ∃ j, j < k ∧ f j = N
    · obtain ⟨j, hj, ej⟩ := ex
      -- leave j out: put the last one in its place
      have K := ih (k - 1) (fun i => if i = j then f (k - 1) else f i) (fun i hik => by
        try dsimp only
        by_cases e : i = j
        · rw [if_pos e]
          have h1 := h (k - 1) (by omega)
          have h2 : f (k - 1) ≠ N := fun q => by
            have := hi (k - 1) j (by omega) hj (q.trans ej.symm)
            omega
          omega
        · rw [if_neg e]
          have h1 := h i (by omega)
          have h2 : f i ≠ N := fun q => e (hi i j (by omega) hj (q.trans ej.symm))
          omega) (fun a b ha hb q => by
        try dsimp only at q
        by_cases ea : a = j
        · by_cases eb : b = j
          · rw [ea, eb]
          · rw [if_pos ea, if_neg eb] at q
            have := hi (k - 1) b (by omega) (by omega) q
            omega
        · by_cases eb : b = j
          · rw [if_neg ea, if_pos eb] at q
            have := hi a (k - 1) (by omega) (by omega) q
            omega
          · rw [if_neg ea, if_neg eb] at q
            exact hi a b (by omega) (by omega) q)
      omega
    · have K := ih k f (fun i hik => by
        have h1 := h i hik
        have h2 : f i ≠ N := fun q => ex ⟨i, hik, q⟩
        omega) hi
      omega
/-- the type at the end of a path -/
def tyP (P : Nat → Nat → Int32) : Nat → List Nat → Nat
  | t, [] => t
  | t, e :: r => tyP P (tn (P 2 (32 * t + e))) r
theorem tyP_app : ∀ (π : List Nat) (t e : Nat), tyP P t (π ++ [e]) = tn (P 2 (32 * tyP P t π + e))
  | [], t, e => rfl
  | a :: r, t, e => tyP_app r _ e
/-- the reference's places are paths: pl; every path but the empty one is some node's -/
def plOk (s : mS) (P : Nat → Nat → Int32) (N t0 : Nat) (pos pl : Nat → List Nat) (X : Nat) : Prop :=
  s.1 34 = nI X ∧ 1 ≤ X ∧ pl 0 = [] ∧
  (∀ p, p < X → s.2 21 p = nI (tyP P t0 (pl p)) ∧ s.2 20 p = nI (pl p).length ∧ ∀ e, e < 32 → s.2 22 (32 * p + e) = 0 ∨ ∃ p', 0 < p' ∧ p' < X ∧ s.2 22 (32 * p + e) = nI p' ∧ pl p' = pl p ++ [e]) ∧
  (∀ p p', p < X → p' < X → pl p = pl p' → p = p') ∧
  (∀ p', 0 < p' → p' < X → (∃ v, v < N ∧ pos v = pl p') ∧ ∃ p e, p < p' ∧ e < 32 ∧ pl p' = pl p ++ [e] ∧ s.2 22 (32 * p + e) = nI p')
theorem plOk_X (h : plOk s P N t0 pos pl X) : X ≤ N + 1 := by
  obtain ⟨-, h1, -, -, hi, hc⟩ := h
  have K := pigeon N (X - 1) (fun i => if hh : i + 1 < X then (hc (i + 1) (by omega) hh).1.choose else 0) (fun i hik => by
    try dsimp only
    rw [dif_pos (by omega)]
    exact (hc (i + 1) (by omega) (by omega)).1.choose_spec.1) (fun a b ha hb q => by
    try dsimp only at q
    rw [dif_pos (by omega), dif_pos (by omega)] at q
    have e1 := (hc (a + 1) (by omega) (by omega)).1.choose_spec.2
    have e2 := (hc (b + 1) (by omega) (by omega)).1.choose_spec.2
    have := hi (a + 1) (b + 1) (by omega) (by omega) (by rw [← e1, ← e2, q])
    omega)
  omega
/-- nothing but places has changed; of those that were, the answers neither -/
def sI (s s' : mS) (X X' : Nat) : Prop := (∀ j, j < 20 ∨ 23 < j → s'.2 j = s.2 j) ∧ (∀ k, k ≠ 34 → s'.1 k = s.1 k) ∧ (∀ q, q < X → s'.2 23 q = s.2 23 q) ∧ (∀ q, X ≤ q → q < X' → s'.2 23 q = 0) ∧ X ≤ X'
theorem sI_rf : sI s s X X := ⟨fun _ _ => rfl, fun _ _ => rfl, fun _ _ => rfl, fun q h1 h2 => by omega, Nat.le_refl _⟩
theorem app_inj {π π' : List Nat} {e e' : Nat} (h : π ++ [e] = π' ++ [e']) : π = π' ∧ e = e' := by
  have := List.append_inj' h rfl
  exact ⟨this.1, by simpa using this.2⟩
theorem in_ok (h : plOk s P N t0 pos pl X) (bN : N ≤ 512) (h2 : s.2 2 = P 2) (hty : ∀ k, k < 512 → ∃ t, t < 16 ∧ P 2 k = nI t) (ht0 : t0 < 16) {p C K : Nat} (hp : p < X) (hC : C < 8) (hK : K < 4) (hv : ∃ v, v < N ∧ pos v = pl p ++ [4 * C + K]) :
    ∃ pl' X', plOk (rIn s p C K) P N t0 pos pl' X' ∧ (∀ q, q < X → pl' q = pl q) ∧ sI s (rIn s p C K) X X' ∧ ∃ p', p' < X' ∧ (rIn s p C K).2 22 (32 * p + 4 * C + K) = nI p' ∧ pl' p' = pl p ++ [4 * C + K] := by
  have bX := plOk_X h
  obtain ⟨h34, h1, hp0, hpl, hi, hc⟩ := id h
  have et16 : ∀ π : List Nat, (∀ e ∈ π, e < 32) → tyP P t0 π < 16 := by
    intro π
    have : ∀ (π : List Nat) (t : Nat), t < 16 → (∀ e ∈ π, e < 32) → tyP P t π < 16 := by
      intro π
      induction π with
      | nil => intro t ht _; exact ht
      | cons a r ih =>
        intro t ht hm
        have ha := hm a List.mem_cons_self
        obtain ⟨t', ht', et'⟩ := hty (32 * t + a) (by omega)
        refine ih _ ?_ (fun e he => hm e (List.mem_cons_of_mem _ he))
        rw [et', tnI (by omega)]
        exact ht'
    exact this π t0 ht0
  have e32 : ∀ q, q < X → ∀ e ∈ pl q, e < 32 := by
    intro q
    induction q using Nat.strongRecOn with
    | ind q ih =>
      intro hq
      rcases Nat.eq_zero_or_pos q with e | e
      · subst e
        rw [hp0]
        intro e he
        cases he
      · obtain ⟨-, p1, e1, l1, l2, l3, -⟩ := hc q e hq
        rw [l3]
        intro y hy
        rcases List.mem_append.mp hy with hy | hy
        · exact ih p1 l1 (by omega) y hy
        · rcases List.mem_singleton.mp hy with rfl
          exact l2
  by_cases e0 : s.2 22 (32 * p + 4 * C + K) = 0
  · have er : rIn s p C K = wF (wR (rInS s p C K) 22 (blk ((rInS s p C K).2 22) (32 * tn (s.1 34)) 32 0)) 34 (s.1 34 + 1) := if_pos e0
    have eX : tn (s.1 34) = X := by rw [h34]; exact tnI (by omega)
    have a22 : ∀ q, (rIn s p C K).2 22 q = if 32 * X ≤ q ∧ q < 32 * X + 32 then 0 else if q = 32 * p + 4 * C + K then nI X else s.2 22 q := by
      intro q
      rw [er]
      show blk (upd (s.2 22) (32 * p + 4 * C + K) (s.1 34)) (32 * tn (s.1 34)) 32 0 q = _
      rw [eX, h34]
      unfold blk
      by_cases c1 : 32 * X ≤ q ∧ q < 32 * X + 32
      · rw [if_pos c1, if_pos c1]
      · rw [if_neg c1, if_neg c1]
        by_cases c2 : q = 32 * p + 4 * C + K
        · rw [if_pos c2, c2, up_at]
        · rw [if_neg c2, up_ne c2]
    have a20 : ∀ q, (rIn s p C K).2 20 q = if q = X then s.2 20 p + 1 else s.2 20 q := by
      intro q
      rw [er]
      show upd (s.2 20) (tn (s.1 34)) (s.2 20 p + 1) q = _
      rw [eX]
      by_cases c2 : q = X
      · rw [if_pos c2, c2, up_at]
      · rw [if_neg c2, up_ne c2]
    have a21 : ∀ q, (rIn s p C K).2 21 q = if q = X then s.2 2 (4 * (8 * tn (s.2 21 p) + C) + K) else s.2 21 q := by
      intro q
      rw [er]
      show upd (s.2 21) (tn (s.1 34)) (s.2 2 (4 * (8 * tn (s.2 21 p) + C) + K)) q = _
      rw [eX]
      by_cases c2 : q = X
      · rw [if_pos c2, c2, up_at]
      · rw [if_neg c2, up_ne c2]
    have a23 : ∀ q, (rIn s p C K).2 23 q = if q = X then 0 else s.2 23 q := by
      intro q
      rw [er]
      show upd (s.2 23) (tn (s.1 34)) 0 q = _
      rw [eX]
      by_cases c2 : q = X
      · rw [if_pos c2, c2, up_at]
      · rw [if_neg c2, up_ne c2]
    have f34 : (rIn s p C K).1 34 = nI (X + 1) := by
      rw [er]
      show upd s.1 34 (s.1 34 + 1) 34 = _
      rw [up_at, h34]
      exact nI_1 X
    have hp32 := e32 p hp
    have hty1 := et16 (pl p) hp32
    have e21p := (hpl p hp).1
    have hnew : ∀ q, q < X → pl q ≠ pl p ++ [4 * C + K] := fun q hq e => by
      rcases Nat.eq_zero_or_pos q with z | z
      · subst z
        rw [hp0] at e
        exact absurd (congrArg List.length e) (by simp)
      · obtain ⟨-, p1, e1, l1, l2, l3, l4⟩ := hc q z hq
        rw [l3] at e
        obtain ⟨i1', i2'⟩ := app_inj e
        have := hi p1 p (by omega) hp i1'
        subst this
        subst i2'
        rw [show 32 * p1 + (4 * C + K) = 32 * p1 + 4 * C + K by omega, e0] at l4
        have := congrArg tn l4
        rw [tnI (by omega)] at this
        have z0 : tn 0 = 0 := by decide
        omega
    refine ⟨fun q => if q = X then pl p ++ [4 * C + K] else pl q, X + 1, ⟨f34, by omega, ?_, ?_, ?_, ?_⟩, fun q hq => if_neg (by omega), ⟨?_, ?_, ?_, ?_, by omega⟩, X, by omega, ?_, if_pos rfl⟩
    · show (if 0 = X then pl p ++ [4 * C + K] else pl 0) = []
      rw [if_neg (by omega)]
      exact hp0
    · intro q hq
      dsimp only
      by_cases c2 : q = X
      · rw [if_pos c2]
        refine ⟨?_, ?_, fun e he => Or.inl ?_⟩
        · rw [a21, if_pos c2, e21p, tnI (by omega), h2, tyP_app]
          obtain ⟨t', ht', et'⟩ := hty (32 * tyP P t0 (pl p) + (4 * C + K)) (by omega)
          rw [show 4 * (8 * tyP P t0 (pl p) + C) + K = 32 * tyP P t0 (pl p) + (4 * C + K) by omega, et', tnI (by omega)]
        · rw [a20, if_pos c2, (hpl p hp).2.1, List.length_append]
          exact nI_1 _
        · rw [a22, if_pos (by omega)]
      · have hqX : q < X := by omega
        rw [if_neg c2, a21, if_neg c2, a20, if_neg c2]
        refine ⟨(hpl q hqX).1, (hpl q hqX).2.1, fun e he => ?_⟩
        rw [a22, if_neg (by omega)]
        by_cases c3 : 32 * q + e = 32 * p + 4 * C + K
        · rw [if_pos c3]
          refine Or.inr ⟨X, by omega, by omega, rfl, ?_⟩
          have h1' : q = p := by omega
          have h2' : e = 4 * C + K := by omega
          rw [if_pos rfl, h1', h2']
        · rw [if_neg c3]
          rcases (hpl q hqX).2.2 e he with z | ⟨p', z1, z2, z3, z4⟩
          · exact Or.inl z
          · exact Or.inr ⟨p', z1, by omega, z3, by rw [if_neg (by omega)]; exact z4⟩
    · intro a b ha hb e
      dsimp only at e
      by_cases ca : a = X
      · by_cases cb : b = X
        · omega
        · rw [if_pos ca, if_neg cb] at e
          exact absurd e.symm (hnew b (by omega))
      · by_cases cb : b = X
        · rw [if_neg ca, if_pos cb] at e
          exact absurd e (hnew a (by omega))
        · rw [if_neg ca, if_neg cb] at e
          exact hi a b (by omega) (by omega) e
    · intro q z hq
      dsimp only
      by_cases c2 : q = X
      · rw [if_pos c2]
        refine ⟨hv, p, 4 * C + K, by omega, by omega, by rw [if_neg (by omega)], ?_⟩
        rw [show 32 * p + (4 * C + K) = 32 * p + 4 * C + K by omega, a22, if_neg (by omega), if_pos rfl, c2]
      · rw [if_neg c2]
        obtain ⟨l0, p1, e1, l1, l2, l3, l4⟩ := hc q z (by omega)
        refine ⟨l0, p1, e1, l1, l2, by rw [if_neg (by omega)]; exact l3, ?_⟩
        rw [a22, if_neg (by omega), if_neg (fun c3 => by
          rw [c3, e0] at l4
          have := congrArg tn l4
          rw [tnI (by omega)] at this
          have z0 : tn 0 = 0 := by decide
          omega)]
        exact l4
    · intro j hj
      rw [er]
      show (wR (rInS s p C K) 22 _).2 j = s.2 j
      unfold rInS wA wR upA
      dsimp only
      simp only [show ¬ j = 20 by omega, show ¬ j = 21 by omega, show ¬ j = 22 by omega, show ¬ j = 23 by omega, if_false]
    · intro k hk
      rw [er]
      show upd s.1 34 _ k = _
      exact up_ne hk
    · intro q hq
      rw [a23, if_neg (by omega)]
    · intro q h1' h2'
      rw [a23, if_pos (by omega)]
    · rw [a22, if_neg (by omega), if_pos rfl]
  · have er : rIn s p C K = s := if_neg e0
    rw [er]
    rcases (hpl p hp).2.2 (4 * C + K) (by omega) with z | ⟨p', z1, z2, z3, z4⟩
    · exact absurd (by rw [show 32 * p + (4 * C + K) = 32 * p + 4 * C + K by omega] at z; exact z) e0
    · exact ⟨pl, X, h, fun _ _ => rfl, sI_rf, p', z2, by rw [show 32 * p + (4 * C + K) = 32 * p + 4 * C + K by omega] at z3; exact z3, z4⟩
end AY
