/-! Patterns as the class holds them: names beside their node; tidying against settling -/
section BU
variable {α : Type} {P : Nat → Nat → Int32} {N : Nat}
/-- bit w of a set of names -/
def nmB (x : Int32) (w : Nat) : Prop := (x >>> (nI w &&& 31)) &&& 1 = 1
/-- the node below the names -/
def bse (P : Nat → Nat → Int32) : Nat → Nat → Nat
  | 0, k => k
  | f + 1, k => if P 3 k = 4 then bse P f (tn (P 6 (4 * k))) else k
/-- the names right above it -/
def own (P : Nat → Nat → Int32) : Nat → Nat → Nat → Prop
  | 0, _, _ => False
  | f + 1, k, w => P 3 k = 4 ∧ (tn (P 5 k) = w ∨ own P f (tn (P 6 (4 * k))) w)
/-- their binding -/
def chB (P : Nat → Nat → Int32) : Nat → Nat → (Nat → Option α) → α → (Nat → Option α)
  | 0, _, bd, _ => bd
  | f + 1, k, bd, p => if P 3 k = 4 then chB P f (tn (P 6 (4 * k))) (upB bd (tn (P 5 k)) p) p else bd
theorem chB_at : ∀ (f k : Nat) (bd : Nat → Option α) (p : α) (w : Nat), (own P f k w → chB P f k bd p w = some p) ∧ (¬ own P f k w → chB P f k bd p w = bd w)
  | 0, k, bd, p, w => ⟨fun h => h.elim, fun _ => rfl⟩
  | f + 1, k, bd, p, w => by
    have ih := chB_at f (tn (P 6 (4 * k))) (upB bd (tn (P 5 k)) p) p w
    by_cases h4 : P 3 k = 4
    · simp only [own, chB, if_pos h4]
      by_cases ho : own P f (tn (P 6 (4 * k))) w
      · exact ⟨fun _ => ih.1 ho, fun h => absurd ⟨h4, Or.inr ho⟩ h⟩
      · have e := ih.2 ho
        by_cases hw : tn (P 5 k) = w
        · refine ⟨fun _ => ?_, fun h => absurd ⟨h4, Or.inl hw⟩ h⟩
          rw [e]
          unfold upB
          rw [if_pos hw.symm]
        · refine ⟨fun h => ?_, fun _ => ?_⟩
          · rcases h.2 with h | h
            · exact absurd h hw
            · exact absurd h ho
          · rw [e]
            unfold upB
            rw [if_neg (fun z => hw z.symm)]
    · simp only [own, chB, if_neg h4]
      exact ⟨fun h => absurd h.1 h4, fun _ => trivial⟩
/-- names and parts: what 'make', 'either' and 'name' have seen to -/
def wfB (P : Nat → Nat → Int32) (N : Nat) : Prop := ∀ k, k < N →
  (P 3 k = 4 → (∀ w, w < 8 → (nmB (P 8 k) w ↔ (w = tn (P 5 k) ∨ nmB (P 8 (tn (P 6 (4 * k)))) w))) ∧ ¬ nmB (P 8 (tn (P 6 (4 * k)))) (tn (P 5 k))) ∧
  (P 3 k = 3 → ∀ w, w < 8 → (nmB (P 8 (tn (P 6 (4 * k)))) w → nmB (P 8 k) w) ∧ (nmB (P 8 (tn (P 6 (4 * k + 1)))) w → nmB (P 8 k) w)) ∧
  (P 3 k = 2 → (∀ i, i < aAr P k → ∀ w, w < 8 → nmB (P 8 (tn (P 6 (4 * k + i)))) w → nmB (P 8 k) w) ∧
    ∀ i j, i < j → j < aAr P k → ∀ w, w < 8 → nmB (P 8 (tn (P 6 (4 * k + i)))) w → ¬ nmB (P 8 (tn (P 6 (4 * k + j)))) w)
theorem bse_ok (wf : wfN P N) : ∀ (f k : Nat), k < f → k < N → bse P f k < N ∧ bse P f k ≤ k ∧ ¬ P 3 (bse P f k) = 4 ∧ tn (P 7 (bse P f k)) = tn (P 7 k)
  | 0, k, h, _ => by omega
  | f + 1, k, h, hN => by
    simp only [bse]
    by_cases h4 : P 3 k = 4
    · rw [if_pos h4]
      obtain ⟨w, v, -, -, hv, ev, e7⟩ := (wf.2 k hN).2.1 h4
      have := wf.1
      rw [ev, tnI (by omega)]
      obtain ⟨a1, a2, a3, a4⟩ := bse_ok wf f v (by omega) (by omega)
      exact ⟨a1, by omega, a3, a4.trans e7⟩
    · rw [if_neg h4]
      exact ⟨hN, Nat.le_refl _, h4, rfl⟩
theorem own_nm (wf : wfN P N) (wb : wfB P N) : ∀ (f k : Nat), k < f → k < N → ∀ w, w < 8 → (nmB (P 8 k) w ↔ (own P f k w ∨ nmB (P 8 (bse P f k)) w)) ∧ (own P f k w → ¬ nmB (P 8 (bse P f k)) w)
  | 0, k, h, _ => by omega
  | f + 1, k, h, hN => by
    intro w hw
    simp only [bse, own]
    by_cases h4 : P 3 k = 4
    · rw [if_pos h4]
      obtain ⟨b1, b2⟩ := (wb k hN).1 h4
      obtain ⟨w', v, hw', e5, hv, ev, -⟩ := (wf.2 k hN).2.1 h4
      have := wf.1
      rw [ev, tnI (by omega)] at b1 b2 ⊢
      obtain ⟨i1, i2⟩ := own_nm wf wb f v (by omega) (by omega) w hw
      have c1 := b1 w hw
      refine ⟨⟨fun h => ?_, fun h => ?_⟩, fun h => ?_⟩
      · rcases c1.mp h with h | h
        · exact Or.inl ⟨h4, Or.inl h.symm⟩
        · rcases i1.mp h with h | h
          · exact Or.inl ⟨h4, Or.inr h⟩
          · exact Or.inr h
      · rcases h with ⟨-, h | h⟩ | h
        · exact c1.mpr (Or.inl h.symm)
        · exact c1.mpr (Or.inr (i1.mpr (Or.inl h)))
        · exact c1.mpr (Or.inr (i1.mpr (Or.inr h)))
      · rcases h.2 with h | h
        · intro hb
          rw [h] at b2
          exact b2 (i1.mpr (Or.inr hb))
        · exact i2 h
    · rw [if_neg h4]
      exact ⟨⟨fun h => Or.inr h, fun h => h.elim (fun z => absurd z.1 h4) id⟩, fun h => absurd h.1 h4⟩
/-- settling passes the names -/
theorem aL_id0 : ∀ (f : Nat) (l done r : List (α × Nat)) (bd : Nat → Option α), (∀ q ∈ l, aK P q.2) → aS P (f + l.length) done (l ++ r) bd = aS P f (done ++ l) r bd
  | f, [], done, r, bd, _ => by simp
  | f, q :: l, done, r, bd, h => by
    have hq := h q List.mem_cons_self
    rw [show f + (q :: l).length = (f + l.length) + 1 by simp; omega]
    simp only [List.cons_append, aS]
    rw [if_neg hq.1, if_neg hq.2.1, if_neg hq.2.2, aL_id0 f l (done ++ [q]) r bd (fun y hy => h y (List.mem_cons_of_mem _ hy))]
    simp
theorem aW_app : ∀ (l r : List (α × Nat)), aW (l ++ r) = aW l + aW r
  | [], r => by simp [aW]
  | q :: l, r => by
    simp only [List.cons_append, aW]
    rw [aW_app l r]
    omega
/-- what is settled passes -/
theorem aL_pre (wf : wfN P N) {l r : List (α × Nat)} {bd : Nat → Option α} (hl : ∀ q ∈ l, aK P q.2 ∧ q.2 < N) (hr : ∀ q ∈ r, q.2 < N) : aL P (l ++ r) bd = aS P (aW r + 1) l r bd := by
  unfold aL
  have hw := aW_len l
  have hN : ∀ q ∈ l ++ r, q.2 < N := fun q hq => (List.mem_append.mp hq).elim (fun h => (hl q h).2) (hr q)
  rw [aS_fuel wf _ ((aW (l ++ r) + 1) + l.length) [] (l ++ r) bd hN (by omega) (by omega), aL_id0 _ _ _ _ _ (fun q hq => (hl q hq).1)]
  rw [aS_fuel wf _ (aW r + 1) ([] ++ l) r bd hr (by rw [aW_app]; omega) (by omega), List.nil_append]
theorem aX_chain (wf : wfN P N) : ∀ (f k : Nat) (done r : List (α × Nat)) (p : α) (bd : Nat → Option α), k < f → k < N → (∀ q ∈ r, q.2 < N) → aS P (aW ((p, k) :: r) + 1) done ((p, k) :: r) bd = aS P (aW ((p, bse P f k) :: r) + 1) done ((p, bse P f k) :: r) (chB P f k bd p)
  | 0, k, done, r, p, bd, h, _, _ => by omega
  | f + 1, k, done, r, p, bd, h, hN, hr => by
    by_cases h4 : P 3 k = 4
    · obtain ⟨w', v, hw', e5, hv, ev, -⟩ := (wf.2 k hN).2.1 h4
      have := wf.1
      have ih := aX_chain wf f v done r p (upB bd (tn (P 5 k)) p) (by omega) (by omega) hr
      simp only [bse, chB, if_pos h4]
      rw [ev, tnI (by omega), ← ih]
      conv => lhs; rw [aS]
      rw [if_neg (by rw [h4]; decide), if_pos h4, ev, tnI (by omega)]
      refine aS_fuel wf _ _ _ _ _ (fun q hq => ?_) (by simp only [aW]; omega) (by simp only [aW]; omega)
      rcases List.mem_cons.mp hq with rfl | hq
      · show v < N
        omega
      · exact hr q hq
    · simp only [bse, chB, if_neg h4]
theorem aX_any (wf : wfN P N) {done r : List (α × Nat)} {q : α × Nat} {bd : Nat → Option α} (h0 : P 3 q.2 = 0) (hr : ∀ q ∈ r, q.2 < N) : aS P (aW (q :: r) + 1) done (q :: r) bd = aS P (aW r + 1) done r bd := by
  conv => lhs; rw [aS]
  rw [if_pos h0]
  exact aS_fuel wf _ _ _ _ _ hr (by simp only [aW]; omega) (by omega)
theorem aX_keep (wf : wfN P N) {done r : List (α × Nat)} {q : α × Nat} {bd : Nat → Option α} (hk : aK P q.2) (hr : ∀ q ∈ r, q.2 < N) : aS P (aW (q :: r) + 1) done (q :: r) bd = aS P (aW r + 1) (done ++ [q]) r bd := by
  conv => lhs; rw [aS]
  rw [if_neg hk.1, if_neg hk.2.1, if_neg hk.2.2]
  exact aS_fuel wf _ _ _ _ _ hr (by simp only [aW]; omega) (by omega)
theorem aX_either (wf : wfN P N) {done r : List (α × Nat)} {q : α × Nat} {bd : Nat → Option α} (h3 : P 3 q.2 = 3) (hq : q.2 < N) (hr : ∀ q ∈ r, q.2 < N) : aS P (aW (q :: r) + 1) done (q :: r) bd = aS P (aW ((q.1, tn (P 6 (4 * q.2))) :: r) + 1) done ((q.1, tn (P 6 (4 * q.2))) :: r) bd ++ aS P (aW ((q.1, tn (P 6 (4 * q.2 + 1))) :: r) + 1) done ((q.1, tn (P 6 (4 * q.2 + 1))) :: r) bd := by
  obtain ⟨v, v', hv, ev, hv', ev', -⟩ := (wf.2 q.2 hq).2.2 h3
  have := wf.1
  conv => lhs; rw [aS]
  rw [if_neg (by rw [h3]; decide), if_neg (by rw [h3]; decide), if_pos h3, ev, ev', tnI (by omega), tnI (by omega)]
  have hh : ∀ z, z < q.2 → ∀ y ∈ (q.1, z) :: r, y.2 < N := fun z hz y hy => by
    rcases List.mem_cons.mp hy with rfl | hy
    · show z < N
      omega
    · exact hr y hy
  rw [aS_fuel wf _ (aW ((q.1, v) :: r) + 1) _ _ _ (hh v hv) (by simp only [aW]; omega) (by omega), aS_fuel wf _ (aW ((q.1, v') :: r) + 1) _ _ _ (hh v' hv') (by simp only [aW]; omega) (by omega)]
theorem aS_ne (wf : wfN P N) : ∀ (f : Nat) (done pend : List (α × Nat)) (bd : Nat → Option α), (∀ q ∈ pend, q.2 < N) → aW pend < f → aS P f done pend bd ≠ [] := by
  intro f
  induction f with
  | zero => intro done pend bd _ h; omega
  | succ f ih =>
    intro done pend bd hN h
    cases pend with
    | nil => simp [aS]
    | cons q r =>
      have hq := hN q List.mem_cons_self
      have hr : ∀ y ∈ r, y.2 < N := fun y hy => hN y (List.mem_cons_of_mem _ hy)
      have := wf.1
      simp only [aW] at h
      have hc : ∀ z, z < q.2 → (∀ y ∈ (q.1, z) :: r, y.2 < N) := fun z hz y hy => by
        rcases List.mem_cons.mp hy with rfl | hy
        · show z < N
          omega
        · exact hr y hy
      simp only [aS]
      split
      · exact ih _ _ _ hr (by omega)
      · split
        · obtain ⟨w', v, hw', e5, hv, ev, -⟩ := (wf.2 q.2 hq).2.1 (by assumption)
          rw [ev, tnI (by omega)]
          exact ih _ _ _ (hc v hv) (by simp only [aW]; omega)
        · split
          · obtain ⟨v, v', hv, ev, -⟩ := (wf.2 q.2 hq).2.2 (by assumption)
            rw [ev, tnI (by omega)]
            have := ih done ((q.1, v) :: r) bd (hc v hv) (by simp only [aW]; omega)
            intro e
            exact this (List.append_eq_nil_iff.mp e).1
          · exact ih _ _ _ hr (by omega)
end BU
section BV
variable {α : Type} {P : Nat → Nat → Int32} {N : Nat} {tm : Nat → Nat} {ob : Nat → Int32} {T : Nat → Prop}
/-- which nodes the terms stand for: T: those that are parts, or patterns of cases or piles; ob: the names right above -/
def tmP (P : Nat → Nat → Int32) (N : Nat) (tm : Nat → Nat) (ob : Nat → Int32) (T : Nat → Prop) : Prop := ∀ k, T k → k < N ∧ (∀ w, w < 8 → (nmB (ob k) w ↔ own P 512 k w)) ∧ ob (bse P 512 k) = ob k ∧ tm (bse P 512 k) = tm k ∧
  (P 3 (bse P 512 k) = 3 → T (tn (P 6 (4 * bse P 512 k))) ∧ T (tn (P 6 (4 * bse P 512 k + 1)))) ∧ (P 3 (bse P 512 k) = 2 → ∀ i, i < aAr P (bse P 512 k) → T (tn (P 6 (4 * bse P 512 k + i))))
/-- a wish as it may stand in a row: new, or settled with its names bound -/
def okI (P : Nat → Nat → Int32) (ob : Nat → Int32) (T : Nat → Prop) (bd : Nat → Option α) (q : α × Nat) : Prop := T q.2 ∨ (aK P q.2 ∧ (∃ k, T k ∧ bse P 512 k = q.2) ∧ ∀ w, w < 8 → nmB (ob q.2) w → bd w = some q.1)
def tI (P : Nat → Nat → Int32) (N : Nat) (ob : Nat → Int32) (T : Nat → Prop) (ws : List (α × Nat)) (bd : Nat → Option α) : Prop :=
  (∀ q ∈ ws, q.2 < N ∧ okI P ob T bd q) ∧ (∀ q ∈ ws, ∀ w, w < 8 → nmB (P 8 q.2) w → bd w = none) ∧ ws.Pairwise (fun x y => ∀ w, w < 8 → nmB (P 8 x.2) w → ¬ nmB (P 8 y.2) w) ∧ aZ P ws ≤ 24
/-- wishes xs come in the place of q; names of q's may have been bound -/
theorem tI_sub {l r xs : List (α × Nat)} {q : α × Nat} {bd bd' : Nat → Option α} (h : tI P N ob T (l ++ q :: r) bd) (hx : ∀ x ∈ xs, x.2 < N ∧ okI P ob T bd' x) (hs : ∀ x ∈ xs, ∀ w, w < 8 → nmB (P 8 x.2) w → nmB (P 8 q.2) w) (hp : xs.Pairwise (fun x y => ∀ w, w < 8 → nmB (P 8 x.2) w → ¬ nmB (P 8 y.2) w)) (hz : aZ P xs ≤ tn (P 7 q.2))
    (hb : ∀ w, w < 8 → bd' w = bd w ∨ (nmB (P 8 q.2) w ∧ ∀ x ∈ xs, ¬ nmB (P 8 x.2) w)) : tI P N ob T (l ++ (xs ++ r)) bd' := by
  obtain ⟨h1, h2, h3, h4⟩ := h
  obtain ⟨p1, p2, p3⟩ := List.pairwise_append.mp h3
  obtain ⟨p4, p5⟩ := List.pairwise_cons.mp p2
  have hqn : ∀ w, w < 8 → nmB (P 8 q.2) w → bd w = none := h2 q (by simp)
  have ho : ∀ y, y ∈ l ∨ y ∈ r → (y.2 < N ∧ okI P ob T bd' y) ∧ ∀ w, w < 8 → nmB (P 8 y.2) w → bd' w = none := fun y hy => by
    have hm : y ∈ l ++ q :: r := by
      rcases hy with hy | hy
      · exact List.mem_append_left _ hy
      · exact List.mem_append_right _ (List.mem_cons_of_mem _ hy)
    obtain ⟨a1, a2⟩ := h1 y hm
    refine ⟨⟨a1, ?_⟩, fun w hw hn => ?_⟩
    · rcases a2 with a2 | ⟨b1, b2, b3⟩
      · exact Or.inl a2
      · refine Or.inr ⟨b1, b2, fun w hw hn => ?_⟩
        have e := b3 w hw hn
        rcases hb w hw with z | ⟨z, -⟩
        · rw [z, e]
        · rw [hqn w hw z] at e
          cases e
    · have e := h2 y hm w hw hn
      rcases hb w hw with z | ⟨z, -⟩
      · rw [z, e]
      · rcases hy with hy | hy
        · exact absurd z (p3 y hy q List.mem_cons_self w hw hn)
        · exact absurd hn (p4 y hy w hw z)
  refine ⟨fun y hy => ?_, fun y hy => ?_, ?_, ?_⟩
  · rcases List.mem_append.mp hy with hy | hy
    · exact (ho y (Or.inl hy)).1
    · rcases List.mem_append.mp hy with hy | hy
      · exact hx y hy
      · exact (ho y (Or.inr hy)).1
  · rcases List.mem_append.mp hy with hy | hy
    · exact (ho y (Or.inl hy)).2
    · rcases List.mem_append.mp hy with hy | hy
      · intro w hw hn
        have hq := hs y hy w hw hn
        rcases hb w hw with z | ⟨-, z⟩
        · rw [z]
          exact hqn w hw hq
        · exact absurd hn (z y hy)
      · exact (ho y (Or.inr hy)).2
  · refine List.pairwise_append.mpr ⟨p1, List.pairwise_append.mpr ⟨hp, p5, fun x hx y hy w hw hn => p4 y hy w hw (hs x hx w hw hn)⟩, fun x hx y hy w hw hn => ?_⟩
    rcases List.mem_append.mp hy with hy | hy
    · exact fun z => p3 x hx q List.mem_cons_self w hw hn (hs y hy w hw z)
    · exact p3 x hx y (List.mem_cons_of_mem _ hy) w hw hn
  · rw [aZ_app] at h4 ⊢
    rw [aZ_app]
    simp only [aZ] at h4
    omega
def kdC (x : Int32) : Int32 := if x = 0 then 2 else if x = 1 then 0 else if x = 2 then 1 else 3
abbrev tmQ (tm : Nat → Nat) (q : Nat × Nat) : Nat × Nat := (q.1, tm q.2)
theorem bdN_at {bd : Nat → Option Nat} {x : Int32} {p w : Nat} : (nmB x w → bdN bd x p w = some p) ∧ (¬ nmB x w → bdN bd x p w = bd w) := by
  unfold bdN nmB
  exact ⟨fun h => if_pos h, fun h => if_neg h⟩
/-- tidying is settling as far as the first either -/
theorem td_ok (wf : wfN P N) (wb : wfB P N) (wk : wfK P N) (tp : tmP P N tm ob T) {kd on : Nat → Int32} (hkd : ∀ k, T k → kd (tm k) = kdC (P 3 (bse P 512 k)) ∧ on (tm k) = ob k) :
    ∀ (pend done : List (Nat × Nat)) (bd bd' : Nat → Option Nat), tI P N ob T (done ++ pend) bd → (∀ q ∈ done, aK P q.2) → (∀ w, w < 8 → bd' w = bd w) →
    ∃ d2 p2 bd2 bd3, tdF kd on (done.map (tmQ tm)) (pend.map (tmQ tm)) bd' = (d2.map (tmQ tm), p2.map (tmQ tm), bd3) ∧ (∀ w, w < 8 → bd3 w = bd2 w) ∧ (∀ q ∈ d2, aK P q.2) ∧
      ((p2 = [] ∧ tI P N ob T d2 bd2 ∧ aS P (aW pend + 1) done pend bd = [(d2, bd2)]) ∨
       ∃ p b r, p2 = (p, b) :: r ∧ P 3 b = 3 ∧ (∃ k, T k ∧ bse P 512 k = b) ∧ tI P N ob T (d2 ++ (p, tn (P 6 (4 * b))) :: r) bd2 ∧ tI P N ob T (d2 ++ (p, tn (P 6 (4 * b + 1))) :: r) bd2 ∧
         aS P (aW pend + 1) done pend bd = aL P (d2 ++ (p, tn (P 6 (4 * b))) :: r) bd2 ++ aL P (d2 ++ (p, tn (P 6 (4 * b + 1))) :: r) bd2) := by
  intro pend
  induction pend with
  | nil =>
    intro done bd bd' hI hd hb
    refine ⟨done, [], bd, bd', rfl, hb, hd, Or.inl ⟨rfl, ?_, rfl⟩⟩
    rw [List.append_nil] at hI
    exact hI
  | cons q r ih =>
    intro done bd bd' hI hd hb
    have hN : ∀ y ∈ done ++ q :: r, y.2 < N := fun y hy => (hI.1 y hy).1
    have hr : ∀ y ∈ r, y.2 < N := fun y hy => hN y (by simp [hy])
    obtain ⟨hq, hok⟩ := hI.1 q (by simp)
    have b512 := wf.1
    rcases hok with hT | ⟨ha, ⟨k, hT, hk⟩, hbn⟩
    · obtain ⟨p, k⟩ := q
      simp only at hq hT
      obtain ⟨-, t2, t3, t4, t5, -⟩ := tp k hT
      obtain ⟨e1, e2⟩ := hkd k hT
      obtain ⟨b1, b2, b3, b4⟩ := bse_ok wf 512 k (by omega) hq
      have hch := aX_chain wf 512 k done r p bd (by omega) hq hr
      have hbd : ∀ w, w < 8 → bdN bd' (on (tm k)) p w = chB P 512 k bd p w := fun w hw => by
        obtain ⟨c1, c2⟩ := chB_at (P := P) 512 k bd p w
        rw [e2]
        by_cases ho : own P 512 k w
        · rw [c1 ho, bdN_at.1 ((t2 w hw).mpr ho)]
        · rw [c2 ho, bdN_at.2 (fun z => ho ((t2 w hw).mp z)), hb w hw]
      have hnm := own_nm wf wb 512 k (by omega) hq
      have hbs : ∀ xs : List (Nat × Nat), (∀ x ∈ xs, ∀ w, w < 8 → nmB (P 8 x.2) w → nmB (P 8 (bse P 512 k)) w) → ∀ w, w < 8 → chB P 512 k bd p w = bd w ∨ (nmB (P 8 k) w ∧ ∀ x ∈ xs, ¬ nmB (P 8 x.2) w) := fun xs hxs w hw => by
        obtain ⟨c1, c2⟩ := chB_at (P := P) 512 k bd p w
        by_cases ho : own P 512 k w
        · exact Or.inr ⟨(hnm w hw).1.mpr (Or.inl ho), fun x hx z => (hnm w hw).2 ho (hxs x hx w hw z)⟩
        · exact Or.inl (c2 ho)
      have hbase : ∀ w, w < 8 → nmB (P 8 (bse P 512 k)) w → nmB (P 8 k) w := fun w hw z => (hnm w hw).1.mpr (Or.inr z)
      have kb := (wk (bse P 512 k) b1).1
      simp only [List.map_cons, tdF]
      rw [e1]
      by_cases h3 : P 3 (bse P 512 k) = 3
      · rw [h3, if_pos (by decide)]
        obtain ⟨v, v', hv, ev, hv', ev', e7⟩ := (wf.2 _ b1).2.2 h3
        have hT2 := t5 h3
        have hB := ((wb _ b1).2.1 h3)
        rw [hch, aX_either wf (by exact h3) (by exact b1) hr]
        have hone : ∀ z, z < N → T z → (∀ w, w < 8 → nmB (P 8 z) w → nmB (P 8 (bse P 512 k)) w) → tn (P 7 z) ≤ tn (P 7 k) → tI P N ob T (done ++ (p, z) :: r) (chB P 512 k bd p) := fun z hz hTz hs h7 => by
          have := tI_sub (xs := [(p, z)]) (bd' := chB P 512 k bd p) hI (fun x hx => by rcases List.mem_singleton.mp hx with rfl; exact ⟨hz, Or.inl hTz⟩) (fun x hx w hw hn => by rcases List.mem_singleton.mp hx with rfl; exact hbase w hw (hs w hw hn)) (by simp) (by simp only [aZ]; omega) (hbs _ (fun x hx => by rcases List.mem_singleton.mp hx with rfl; exact hs))
          exact this
        rw [ev, tnI (by omega)] at hB hT2 ⊢
        rw [ev', tnI (by omega)] at hB hT2 ⊢
        have I1 := hone v (by omega) hT2.1 (fun w hw => (hB w hw).1) (by omega)
        have I2 := hone v' (by omega) hT2.2 (fun w hw => (hB w hw).2) (by omega)
        refine ⟨done, (p, bse P 512 k) :: r, chB P 512 k bd p, _, ?_, hbd, hd, Or.inr ⟨p, bse P 512 k, r, rfl, h3, ⟨k, hT, rfl⟩, ?_, ?_, ?_⟩⟩
        · simp only [List.map_cons, tmQ, t4]
        · rw [ev, tnI (by omega)]
          exact I1
        · rw [ev', tnI (by omega)]
          exact I2
        · rw [ev, tnI (by omega), ev', tnI (by omega), aL_pre wf (fun y hy => ⟨hd y hy, hN y (by simp [hy])⟩) (fun y hy => (I1.1 y (List.mem_append_right _ hy)).1), aL_pre wf (fun y hy => ⟨hd y hy, hN y (by simp [hy])⟩) (fun y hy => (I2.1 y (List.mem_append_right _ hy)).1)]
      · by_cases h0 : P 3 (bse P 512 k) = 0
        · rw [h0, if_neg (by decide), if_pos (by decide), hch, aX_any wf (by exact h0) hr]
          have := tI_sub (xs := []) (bd' := chB P 512 k bd p) hI (fun x hx => by cases hx) (fun x hx => by cases hx) (by simp) (by simp [aZ]) (hbs [] (fun x hx => by cases hx))
          exact ih done _ _ this hd hbd
        · have ha : aK P (bse P 512 k) := ⟨h0, b3, h3⟩
          have kc : kdC (P 3 (bse P 512 k)) = 0 ∨ kdC (P 3 (bse P 512 k)) = 1 := by
            rcases kb with z | z | z | z | z
            · exact absurd z h0
            · rw [z]; exact Or.inl (by decide)
            · rw [z]; exact Or.inr (by decide)
            · exact absurd z h3
            · exact absurd z b3
          rw [if_neg (by rcases kc with z | z <;> rw [z] <;> decide), if_neg (by rcases kc with z | z <;> rw [z] <;> decide), hch, aX_keep wf (by exact ha) hr]
          have := tI_sub (xs := [(p, bse P 512 k)]) (bd' := chB P 512 k bd p) hI (fun x hx => by
            rcases List.mem_singleton.mp hx with rfl
            refine ⟨b1, Or.inr ⟨ha, ⟨k, hT, rfl⟩, fun w hw hn => ?_⟩⟩
            exact (chB_at (P := P) 512 k bd p w).1 ((t2 w hw).mp (by rw [← t3]; exact hn))) (fun x hx => by rcases List.mem_singleton.mp hx with rfl; exact hbase) (by simp) (by simp only [aZ]; omega) (hbs _ (fun x hx => by rcases List.mem_singleton.mp hx with rfl; exact fun w _ z => z))
          have K := ih (done ++ [(p, bse P 512 k)]) _ _ (by rw [List.append_assoc]; exact this) (fun y hy => (List.mem_append.mp hy).elim (hd y) (fun h => by rcases List.mem_singleton.mp h with rfl; exact ha)) hbd
          rw [show (done ++ [(p, bse P 512 k)]).map (tmQ tm) = done.map (tmQ tm) ++ [tmQ tm (p, k)] by simp [tmQ, t4]] at K
          exact K
    · obtain ⟨p, b⟩ := q
      simp only at hq ha hk hbn
      obtain ⟨-, t2, t3, t4, t5, -⟩ := tp k hT
      obtain ⟨e1, e2⟩ := hkd k hT
      rw [hk] at t3 t4 e1
      have kb := (wk b hq).1
      have kc : kdC (P 3 b) = 0 ∨ kdC (P 3 b) = 1 := by
        rcases kb with z | z | z | z | z
        · exact absurd z ha.1
        · rw [z]; exact Or.inl (by decide)
        · rw [z]; exact Or.inr (by decide)
        · exact absurd z ha.2.2
        · exact absurd z ha.2.1
      have hbd : ∀ w, w < 8 → bdN bd' (on (tm b)) p w = bd w := fun w hw => by
        rw [t4, e2, ← t3]
        by_cases ho : nmB (ob b) w
        · rw [bdN_at.1 ho, hbn w hw ho]
        · rw [bdN_at.2 ho, hb w hw]
      simp only [List.map_cons, tdF]
      rw [show kd (tm b) = kdC (P 3 b) by rw [t4]; exact e1]
      rw [if_neg (by rcases kc with z | z <;> rw [z] <;> decide), if_neg (by rcases kc with z | z <;> rw [z] <;> decide), aX_keep wf (by exact ha) hr]
      have K := ih (done ++ [(p, b)]) bd _ (by rw [List.append_assoc]; exact hI) (fun y hy => (List.mem_append.mp hy).elim (hd y) (fun h => by rcases List.mem_singleton.mp h with rfl; exact ha)) hbd
      rw [show (done ++ [(p, b)]).map (tmQ tm) = done.map (tmQ tm) ++ [tmQ tm (p, b)] by simp] at K
      exact K
end BV
section BW
variable {P : Nat → Nat → Int32} {N : Nat} {tm : Nat → Nat} {ob : Nat → Int32} {T : Nat → Prop}
theorem aL_ne {α : Type} (wf : wfN P N) {ws : List (α × Nat)} {bd : Nat → Option α} (h : ∀ q ∈ ws, q.2 < N) : aL P ws bd ≠ [] := aS_ne wf _ _ _ _ h (Nat.lt_succ_self _)
/-- tidying a row, from its beginning -/
theorem td_row (wf : wfN P N) (wb : wfB P N) (wk : wfK P N) (tp : tmP P N tm ob T) {kd on : Nat → Int32} (hkd : ∀ k, T k → kd (tm k) = kdC (P 3 (bse P 512 k)) ∧ on (tm k) = ob k) {ws : List (Nat × Nat)} {bd : Nat → Option Nat} (h : tI P N ob T ws bd) :
    ∃ d2 p2 bd2 bd3, tdF kd on [] (ws.map (tmQ tm)) bd = (d2.map (tmQ tm), p2.map (tmQ tm), bd3) ∧ (∀ w, w < 8 → bd3 w = bd2 w) ∧ (∀ q ∈ d2, aK P q.2) ∧
      ((p2 = [] ∧ tI P N ob T d2 bd2 ∧ aL P ws bd = [(d2, bd2)]) ∨
       ∃ p b r, p2 = (p, b) :: r ∧ P 3 b = 3 ∧ (∃ k, T k ∧ bse P 512 k = b) ∧ tI P N ob T (d2 ++ (p, tn (P 6 (4 * b))) :: r) bd2 ∧ tI P N ob T (d2 ++ (p, tn (P 6 (4 * b + 1))) :: r) bd2 ∧
         aL P ws bd = aL P (d2 ++ (p, tn (P 6 (4 * b))) :: r) bd2 ++ aL P (d2 ++ (p, tn (P 6 (4 * b + 1))) :: r) bd2) :=
  td_ok wf wb wk tp hkd ws [] bd bd h (fun q hq => by cases hq) (fun _ _ => rfl)
/-- the rows that settling gives are in order -/
theorem aL_tI (wf : wfN P N) (wb : wfB P N) (wk : wfK P N) (tp : tmP P N tm ob T) {kd on : Nat → Int32} (hkd : ∀ k, T k → kd (tm k) = kdC (P 3 (bse P 512 k)) ∧ on (tm k) = ob k) :
    ∀ (m : Nat) (ws : List (Nat × Nat)) (bd : Nat → Option Nat), (aL P ws bd).length ≤ m → tI P N ob T ws bd → ∀ A ∈ aL P ws bd, tI P N ob T A.1 A.2 ∧ ∀ q ∈ A.1, aK P q.2 := by
  intro m
  induction m with
  | zero =>
    intro ws bd hm h A hA
    rw [List.length_eq_zero_iff.mp (Nat.le_zero.mp hm)] at hA
    cases hA
  | succ m ih =>
    intro ws bd hm h A hA
    obtain ⟨d2, p2, bd2, bd3, -, -, hk, ⟨-, hI, e⟩ | ⟨p, b, r, -, -, -, h1, h2, e⟩⟩ := td_row wf wb wk tp hkd h
    · rw [e] at hA
      rcases List.mem_singleton.mp hA with rfl
      exact ⟨hI, hk⟩
    · rw [e] at hA hm
      rw [List.length_append] at hm
      have n1 := List.length_pos_iff.mpr (aL_ne wf (bd := bd2) (fun q hq => (h1.1 q hq).1))
      have n2 := List.length_pos_iff.mpr (aL_ne wf (bd := bd2) (fun q hq => (h2.1 q hq).1))
      rcases List.mem_append.mp hA with hA | hA
      · exact ih _ _ (by omega) h1 A hA
      · exact ih _ _ (by omega) h2 A hA
theorem tI_len (wf : wfN P N) : ∀ {α : Type} {ws : List (α × Nat)}, (∀ q ∈ ws, q.2 < N) → ws.length ≤ aZ P ws
  | _, [], _ => Nat.zero_le _
  | _, q :: r, h => by
    have h1 := tI_len wf (ws := r) (fun y hy => h y (List.mem_cons_of_mem _ hy))
    have h2 := (wf.2 q.2 (h q List.mem_cons_self)).1
    simp only [List.length_cons, aZ]
    omega
end BW
