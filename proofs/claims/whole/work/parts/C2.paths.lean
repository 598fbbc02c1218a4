/-! The class's rows by paths -/
section CH
variable {P : Nat → Nat → Int32} {N X X' t0 : Nat} {pos plc plc' : Nat → List Nat} {tm : Nat → Nat} {ob : Nat → Int32} {T : Nat → Prop}
/-- a row with paths for its places -/
def rP (plc : Nat → List Nat) (A : rC) : pRow := (A.1, A.2.1.map (fun q => (plc q.1, q.2)), fun k => (A.2.2 k).map plc)
/-- places below X -/
def rX (X : Nat) (A : rC) : Prop := (∀ q ∈ A.2.1, q.1 < X) ∧ ∀ k i, A.2.2 k = some i → i < X
theorem rP_eq {A : rC} (h : rX X A) (hp : ∀ i, i < X → plc' i = plc i) : rP plc' A = rP plc A := by
  unfold rP
  refine Prod.ext rfl (Prod.ext ?_ ?_)
  · exact List.map_congr_left (fun q hq => by rw [hp q.1 (h.1 q hq)])
  · funext k
    show (A.2.2 k).map plc' = (A.2.2 k).map plc
    cases e : A.2.2 k with
    | none => rfl
    | some i =>
      show some _ = some _
      rw [hp i (h.2 k i e)]
theorem rP_aC {c : Nat} {ws : List (Nat × Nat)} {bd : Nat → Option Nat} : (aC c (aL P ws bd)).map (rP plc) = aC c (aL P (ws.map (fun q => (plc q.1, q.2))) (fun k => (bd k).map plc)) := by
  rw [aL_map]
  unfold aC
  rw [List.map_map, List.map_map]
  rfl
theorem rP_aF {cp : Nat → Nat} (h0 : plc 0 = []) : ∀ (C : Nat), (aF P 0 cp C).map (rP plc) = aF P [] cp C
  | 0 => rfl
  | C + 1 => by
    simp only [aF, List.map_append]
    rw [rP_aF h0 C, rP_aC]
    simp only [List.map_cons, List.map_nil, h0]
    rfl
/-- settling asks of no other places -/
theorem aS_p {α : Type} {p : α → Prop} : ∀ (f : Nat) (done pend : List (α × Nat)) (bd : Nat → Option α), (∀ q ∈ done, p q.1) → (∀ q ∈ pend, p q.1) → (∀ k x, bd k = some x → p x) → ∀ A ∈ aS P f done pend bd, (∀ q ∈ A.1, p q.1) ∧ ∀ k x, A.2 k = some x → p x := by
  intro f
  induction f with
  | zero => intro done pend bd _ _ _ A hA; cases hA
  | succ f ih =>
    intro done pend bd hd hp hb A hA
    cases pend with
    | nil =>
      rcases List.mem_singleton.mp hA with rfl
      exact ⟨hd, hb⟩
    | cons q r =>
      have hq := hp q List.mem_cons_self
      have hr : ∀ y ∈ r, p y.1 := fun y hy => hp y (List.mem_cons_of_mem _ hy)
      have hc : ∀ z, ∀ y ∈ (q.1, z) :: r, p y.1 := fun z y hy => by
        rcases List.mem_cons.mp hy with rfl | hy
        · exact hq
        · exact hr y hy
      simp only [aS] at hA
      split at hA
      · exact ih _ _ _ hd hr hb A hA
      · split at hA
        · refine ih _ _ _ hd (hc _) (fun k x hx => ?_) A hA
          unfold upB at hx
          split at hx
          · cases hx
            exact hq
          · exact hb k x hx
        · split at hA
          · rcases List.mem_append.mp hA with hA | hA
            · exact ih _ _ _ hd (hc _) hb A hA
            · exact ih _ _ _ hd (hc _) hb A hA
          · refine ih _ _ _ (fun y hy => ?_) hr hb A hA
            rcases List.mem_append.mp hy with hy | hy
            · exact hd y hy
            · rcases List.mem_singleton.mp hy with rfl
              exact hq
/-- rows in order: settled, with places below X -/
def rws (P : Nat → Nat → Int32) (N : Nat) (ob : Nat → Int32) (T : Nat → Prop) (X : Nat) (R : List rC) : Prop := ∀ A ∈ R, tI P N ob T A.2.1 A.2.2 ∧ (∀ q ∈ A.2.1, aK P q.2) ∧ rX X A
theorem rws_mono {R : List rC} (h : rws P N ob T X R) (hX : X ≤ X') : rws P N ob T X' R := fun A hA => by
  obtain ⟨h1, h2, h3, h4⟩ := h A hA
  exact ⟨h1, h2, fun q hq => Nat.lt_of_lt_of_le (h3 q hq) hX, fun k i hk => Nat.lt_of_lt_of_le (h4 k i hk) hX⟩
theorem rws_w {R : List rC} (h : rws P N ob T X R) (hX : X ≤ 10000) : ∀ A ∈ R, tI P N ob T A.2.1 A.2.2 ∧ ∀ q ∈ A.2.1, aK P q.2 ∧ q.1 < 10000 := fun A hA => by
  obtain ⟨h1, h2, h3, h4⟩ := h A hA
  exact ⟨h1, fun q hq => ⟨h2 q hq, Nat.lt_of_lt_of_le (h3 q hq) hX⟩⟩
theorem rws_aL (wf : wfN P N) (wb : wfB P N) (wk : wfK P N) (tp : tmP P N tm ob T) {kd on : Nat → Int32} (hkd : ∀ k, T k → kd (tm k) = kdC (P 3 (bse P 512 k)) ∧ on (tm k) = ob k) {c : Nat} {ws : List (Nat × Nat)} {bd : Nat → Option Nat} (hI : tI P N ob T ws bd) (hX : ∀ q ∈ ws, q.1 < X) (hb : ∀ k i, bd k = some i → i < X) : rws P N ob T X (aC c (aL P ws bd)) := fun A hA => by
  obtain ⟨B, hB, rfl⟩ := List.mem_map.mp hA
  obtain ⟨h1, h2⟩ := aL_tI wf wb wk tp hkd _ ws bd (Nat.le_refl _) hI B hB
  obtain ⟨h3, h4⟩ := aS_p (p := fun i => i < X) _ _ _ _ (fun q hq => by cases hq) hX hb B hB
  exact ⟨h1, h2, h3, h4⟩
theorem fnd_map {p : Nat} : ∀ (ws : List (Nat × Nat)), (∀ q ∈ ws, plc q.1 = plc p → q.1 = p) → aFnd (plc p) (ws.map (fun q => (plc q.1, q.2))) = (fndC p ws).map (fun z => (z.1.map (fun q => (plc q.1, q.2)), z.2.1, z.2.2.map (fun q => (plc q.1, q.2))))
  | [], _ => rfl
  | q :: r, h => by
    have ih := fnd_map r (fun y hy => h y (List.mem_cons_of_mem _ hy))
    simp only [List.map_cons, aFnd, fndC]
    by_cases e : q.1 = p
    · rw [if_pos e, if_pos (by rw [e])]
      rfl
    · rw [if_neg e, if_neg (fun z => e (h q List.mem_cons_self z)), ih]
      cases fndC p r with
      | none => rfl
      | some z => rfl
theorem ns_map {p : Nat} : ∀ (R : List rC), (∀ A ∈ R, ∀ q ∈ A.2.1, plc q.1 = plc p → q.1 = p) → aNs P (plc p) (R.map (rP plc)) = nsC P p R
  | [], _ => rfl
  | A :: R, h => by
    have ih := ns_map R (fun B hB => h B (List.mem_cons_of_mem _ hB))
    have e : nsC P p (A :: R) = nsC1 P p A ++ nsC P p R := by simp [nsC]
    rw [e, ← ih]
    simp only [List.map_cons, aNs]
    have ef := fnd_map (plc := plc) (p := p) A.2.1 (h A List.mem_cons_self)
    show (match aFnd (plc p) (A.2.1.map (fun q => (plc q.1, q.2))) with | none => [] | some z => [P 5 z.2.1]) ++ _ = _
    rw [ef]
    unfold nsC1
    cases fndC p A.2.1 with
    | none => rfl
    | some z => rfl
theorem oC_map {ow : Nat} : ∀ (R : List rC), (oC ow R).map (rP plc) = aOt ow (R.map (rP plc))
  | [] => rfl
  | A :: R => by
    have ih := oC_map (ow := ow) R
    unfold oC at ih ⊢
    simp only [List.map_cons, aOt]
    by_cases e : A.1 = ow
    · rw [if_pos (show (rP plc A).1 = ow from e), ← ih]
      simp [e]
    · rw [if_neg (show ¬ (rP plc A).1 = ow from e), ← ih]
      simp [e]
/-- an answer's rows -/
theorem ans_map {p : Nat} {md wh is : Int32} (hp : p < X) (hpl : ∀ i, i < X → plc' i = plc i) (hinj : ∀ i, i < X → plc i = plc p → i = p) : ∀ (R : List rC), rws P N ob T X R → (∀ A ∈ R, ∀ q ∈ A.2.1, q.1 = p → (md = 0 → ¬ P 3 q.2 = 2) ∧ (¬ md = 0 → P 3 q.2 = 2 ∧ (P 5 q.2 = wh → ∀ i, i < aAr P q.2 → plc' (X + i) = plc p ++ [4 * tn wh + i])) ∧ (md = 0 → is = 0 → ¬ P 5 q.2 = wh)) → (ansC P p X wh R).map (rP plc') = aAns P (plc p) md wh is (R.map (rP plc))
  | [], _, _ => rfl
  | A :: R, hR, hk => by
    have ih := ans_map hp hpl hinj R (fun B hB => hR B (List.mem_cons_of_mem _ hB)) (fun B hB => hk B (List.mem_cons_of_mem _ hB))
    obtain ⟨-, hak, hx1, hx2⟩ := hR A List.mem_cons_self
    have hkA := hk A List.mem_cons_self
    have e : ansC P p X wh (A :: R) = ansC1 P p X wh A ++ ansC P p X wh R := by simp [ansC]
    rw [e, List.map_append, ih]
    simp only [List.map_cons, aAns]
    congr 1
    have ef := fnd_map (plc := plc) (p := p) A.2.1 (fun q hq => hinj q.1 (hx1 q hq))
    unfold ansC1 aAns1
    show _ = match aFnd (plc p) (A.2.1.map (fun q => (plc q.1, q.2))) with | none => _ | some z => _
    rw [ef]
    cases hf : fndC p A.2.1 with
    | none =>
      show [rP plc' A] = [rP plc A]
      rw [rP_eq ⟨hx1, hx2⟩ hpl]
    | some z =>
      obtain ⟨hz, -⟩ := fndC_some hf
      obtain ⟨k1, k2, k3⟩ := hkA (p, z.2.1) (by rw [hz]; simp) rfl
      simp only [Option.map_some]
      by_cases hw : P 5 z.2.1 = wh
      · rw [if_pos hw]
        have hwf : P 5 z.2.1 = wh ∧ (¬ md = 0 ∨ ¬ is = 0) := ⟨hw, by
          by_cases m0 : md = 0
          · exact Or.inr (fun i0 => k3 m0 i0 hw)
          · exact Or.inl m0⟩
        rw [if_pos hwf, rP_aC]
        have eA : ∀ l : List (Nat × Nat), (∀ q ∈ l, q.1 < X) → l.map (fun q => (plc' q.1, q.2)) = l.map (fun q => (plc q.1, q.2)) := fun l hl => List.map_congr_left (fun q hq => by rw [hpl q.1 (hl q hq)])
        have h1 : ∀ q ∈ z.1, q.1 < X := fun q hq => hx1 q (by rw [hz]; simp [hq])
        have h2 : ∀ q ∈ z.2.2, q.1 < X := fun q hq => hx1 q (by rw [hz]; simp [hq])
        have e3 : (fun k => (A.2.2 k).map plc') = fun k => (A.2.2 k).map plc := by
          funext k
          cases ek : A.2.2 k with
          | none => rfl
          | some i =>
            show some _ = some _
            rw [hpl i (hx2 k i ek)]
        rw [List.map_append, List.map_append, eA _ h1, eA _ h2, e3]
        have e4 : (aKs P (fun i => X + i) z.2.1 (arC P z.2.1)).map (fun q => (plc' q.1, q.2)) = aKs P (fun i => plc p ++ [4 * tn wh + i]) z.2.1 (if md = 0 then 0 else aAr P z.2.1) := by
          by_cases m0 : md = 0
          · rw [if_pos m0]
            unfold arC
            rw [if_neg (k1 m0)]
            rfl
          · obtain ⟨k21, k22⟩ := k2 m0
            rw [if_neg m0]
            unfold arC aKs
            rw [if_pos k21, List.map_map]
            refine List.map_congr_left (fun i hi => ?_)
            show (plc' (X + i), _) = (_, _)
            rw [k22 hw i (List.mem_range.mp hi)]
        rw [e4]
        rfl
      · rw [if_neg hw, if_neg (fun y => hw y.1)]
        rfl
/-- an answer's rows are in order -/
theorem ans_rws (wf : wfA P N pos) (wb : wfB P N) (wk : wfK P N) (tp : tmP P N tm ob T) {kd on : Nat → Int32} (hkd : ∀ k, T k → kd (tm k) = kdC (P 3 (bse P 512 k)) ∧ on (tm k) = ob k) {p ar : Nat} {wh : Int32} {R : List rC} (h : rws P N ob T X R) (har : ∀ A ∈ R, ∀ q ∈ A.2.1, q.1 = p → P 5 q.2 = wh → arC P q.2 ≤ ar) : rws P N ob T (X + ar) (ansC P p X wh R) := fun B hB => by
  obtain ⟨A, hA, hB⟩ := List.mem_flatMap.mp hB
  obtain ⟨h1, h2, h3, h4⟩ := h A hA
  unfold ansC1 at hB
  cases hf : fndC p A.2.1 with
  | none =>
    rw [hf] at hB
    rcases List.mem_singleton.mp hB with rfl
    exact ⟨h1, h2, fun q hq => by have := h3 q hq; omega, fun k i hk => by have := h4 k i hk; omega⟩
  | some z =>
    rw [hf] at hB
    obtain ⟨hz, -⟩ := fndC_some hf
    simp only at hB
    split at hB
    · rename_i hw
      have hm : (p, z.2.1) ∈ A.2.1 := by rw [hz]; simp
      have h1' := h1
      rw [hz] at h1'
      have ha := har A hA _ hm rfl hw
      refine rws_aL wf.1 wb wk tp hkd (tI_open (g := fun i => X + i) wf wb wk tp h1' (h2 _ hm)).1 (fun q hq => ?_) (fun k i hk => by have := h4 k i hk; omega) B hB
      rcases List.mem_append.mp hq with hq | hq
      · have := h3 q (by rw [hz]; simp [hq])
        omega
      · rcases List.mem_append.mp hq with hq | hq
        · obtain ⟨i, hi, rfl⟩ := List.mem_map.mp hq
          have := List.mem_range.mp hi
          show X + i < _
          simp only at ha
          omega
        · have := h3 q (by rw [hz]; simp [hq])
          omega
    · cases hB
theorem cases_rws (wf : wfN P N) (wb : wfB P N) (wk : wfK P N) (tp : tmP P N tm ob T) {kd on : Nat → Int32} (hkd : ∀ k, T k → kd (tm k) = kdC (P 3 (bse P 512 k)) ∧ on (tm k) = ob k) {cp : Nat → Nat} : ∀ (C : Nat), (∀ k, k < C → T (cp k) ∧ tn (P 7 (cp k)) ≤ 24) → rws P N ob T 1 (aF P 0 cp C)
  | 0, _ => fun A hA => by cases hA
  | C + 1, h => fun A hA => by
    rcases List.mem_append.mp hA with hA | hA
    · exact cases_rws wf wb wk tp hkd C (fun k hk => h k (by omega)) A hA
    · obtain ⟨hT, h24⟩ := h C (by omega)
      refine rws_aL wf wb wk tp hkd ⟨fun q hq => ?_, fun _ _ _ _ _ => rfl, List.pairwise_singleton .., by simp only [aZ]; omega⟩ (fun q hq => ?_) (fun k i hk => by cases hk) A hA
      · rcases List.mem_singleton.mp hq with rfl
        exact ⟨(tp _ hT).1, Or.inl hT⟩
      · rcases List.mem_singleton.mp hq with rfl
        exact Nat.zero_lt_one
theorem oC_rws {ow : Nat} {R : List rC} (h : rws P N ob T X R) : rws P N ob T X (oC ow R) := fun A hA => h A (List.mem_filter.mp hA).1
end CH
