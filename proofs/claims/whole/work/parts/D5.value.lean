/-! A value's positions; its way through the tree -/
section CU
variable {P : Nat → Nat → Int32} {N t0 : Nat} {pos : Nat → List Nat} {V : Nat → Prop}
/-- the node at a position -/
def vAt (P : Nat → Nat → Int32) : Nat → List Nat → Nat
  | v, [] => v
  | v, e :: π => vAt P (tn (P 6 (4 * v + e % 4))) π
def vP (P : Nat → Nat → Int32) : Nat → List Nat → Prop
  | _, [] => True
  | v, e :: π => P 3 v = 2 ∧ e / 4 = tn (P 5 v) ∧ e % 4 < aAr P v ∧ vP P (tn (P 6 (4 * v + e % 4))) π
theorem vAt_app : ∀ (π : List Nat) (v e : Nat), vAt P v (π ++ [e]) = tn (P 6 (4 * vAt P v π + e % 4))
  | [], v, e => rfl
  | x :: π, v, e => vAt_app π _ e
theorem vP_app : ∀ (π : List Nat) (v e : Nat), vP P v (π ++ [e]) ↔ (vP P v π ∧ P 3 (vAt P v π) = 2 ∧ e / 4 = tn (P 5 (vAt P v π)) ∧ e % 4 < aAr P (vAt P v π))
  | [], v, e => by
    simp only [List.nil_append, vP, vAt]
    exact ⟨fun h => ⟨trivial, h.1, h.2.1, h.2.2.1⟩, fun h => ⟨h.2.1, h.2.2.1, h.2.2.2, trivial⟩⟩
  | x :: π, v, e => by
    have := vP_app π (tn (P 6 (4 * v + x % 4))) e
    simp only [List.cons_append, vP, vAt]
    rw [this]
    exact ⟨fun h => ⟨⟨h.1, h.2.1, h.2.2.1, h.2.2.2.1⟩, h.2.2.2.2⟩, fun h => ⟨h.1.1, h.1.2.1, h.1.2.2.1, h.1.2.2.2, h.2⟩⟩
/-- V: nodes of values -/
def vOkN (P : Nat → Nat → Int32) (N : Nat) (V : Nat → Prop) : Prop := ∀ v, V v → v < N ∧ (P 3 v = 1 ∨ P 3 v = 2) ∧ (P 3 v = 2 → ∀ i, i < aAr P v → V (tn (P 6 (4 * v + i))))
theorem vAt_V (hV : vOkN P N V) : ∀ (π : List Nat) (v : Nat), V v → vP P v π → V (vAt P v π)
  | [], v, h, _ => h
  | e :: π, v, h, hp => vAt_V hV π _ ((hV v h).2.2 hp.1 _ hp.2.2.1) hp.2.2.2
theorem vAt_ty (wf : wfA P N pos) (hV : vOkN P N V) (ht0 : t0 < 16) {v0 : Nat} (h0 : V v0) (hty : P 4 v0 = nI t0) (π : List Nat) : vP P v0 π → P 4 (vAt P v0 π) = nI (tyP P t0 π) ∧ tyP P t0 π < 16 := by
  have key : ∀ (m : Nat) (π : List Nat), π.length = m → vP P v0 π → P 4 (vAt P v0 π) = nI (tyP P t0 π) ∧ tyP P t0 π < 16 := by
    intro m
    induction m with
    | zero =>
      intro π hm _
      rw [List.length_eq_zero_iff.mp hm]
      exact ⟨hty, ht0⟩
    | succ m ih =>
      intro π hm hp
      rcases List.eq_nil_or_concat π with rfl | ⟨ρ, e, rfl⟩
      · simp at hm
      · rw [List.concat_eq_append] at hp hm ⊢
        simp at hm
        obtain ⟨h1, h2, h3, h4⟩ := (vP_app ρ v0 e).mp hp
        obtain ⟨i1, i2⟩ := ih ρ hm h1
        have hv := vAt_V hV ρ v0 h0 h1
        obtain ⟨⟨w, w8, hw⟩, a4, -, -, hpt⟩ := (wf.2.2 _ (hV _ hv).1).2.2.2 h2
        obtain ⟨v', hv', ev, e4, -⟩ := hpt (e % 4) h4
        have bN := wf.1.1
        rw [vAt_app, tyP_app, ev, tnI (by have := (hV _ hv).1; omega), e4, i1, tnI (by omega), ← h3]
        have ee : 4 * (e / 4) + e % 4 = e := Nat.div_add_mod e 4
        rw [ee]
        have he : e < 32 := by
          rw [hw, tnI (by omega)] at h3
          omega
        obtain ⟨t, ht, et⟩ := wf.2.1 (32 * tyP P t0 ρ + e) (by omega)
        rw [et, tnI (by omega)]
        exact ⟨rfl, ht⟩
  exact key π.length π rfl
/-- all positions -/
def vPs (P : Nat → Nat → Int32) : Nat → Nat → List (List Nat)
  | 0, _ => []
  | f + 1, v => [] :: (if P 3 v = 2 then (List.range (aAr P v)).flatMap (fun i => (vPs P f (tn (P 6 (4 * v + i)))).map (fun π => (4 * tn (P 5 v) + i) :: π)) else [])
theorem flat_len {l : List Nat} {g : Nat → List (List Nat)} {h : Nat → Nat} (hh : ∀ i ∈ l, (g i).length ≤ tn (P 7 (h i))) : (l.flatMap g).length ≤ aZ P (l.map (fun i => ((), h i))) := by
  induction l with
  | nil => exact Nat.le_refl _
  | cons i l ih =>
    have h1 := hh i List.mem_cons_self
    have h2 := ih (fun j hj => hh j (List.mem_cons_of_mem _ hj))
    simp only [List.flatMap_cons, List.length_append, List.map_cons, aZ]
    omega
theorem vPs_len (wf : wfA P N pos) (hV : vOkN P N V) : ∀ (f v : Nat), V v → (vPs P f v).length ≤ tn (P 7 v)
  | 0, v, _ => Nat.zero_le _
  | f + 1, v, h => by
    obtain ⟨hN, -, hp⟩ := hV v h
    have h1 := (wf.1.2 v hN).1
    simp only [vPs]
    by_cases h2 : P 3 v = 2
    · rw [if_pos h2]
      obtain ⟨-, -, -, hz, -⟩ := (wf.2.2 v hN).2.2.2 h2
      have := flat_len (P := P) (l := List.range (aAr P v)) (g := fun i => (vPs P f (tn (P 6 (4 * v + i)))).map (fun π => (4 * tn (P 5 v) + i) :: π)) (h := fun i => tn (P 6 (4 * v + i))) (fun i hi => by
        rw [List.length_map]
        exact vPs_len wf hV f _ (hp h2 i (List.mem_range.mp hi)))
      have e : aZ P ((List.range (aAr P v)).map (fun i => ((), tn (P 6 (4 * v + i))))) + 1 = tn (P 7 v) := hz
      simp only [List.length_cons]
      omega
    · rw [if_neg h2]
      exact h1
theorem vPs_mem (wf : wfA P N pos) (hV : vOkN P N V) : ∀ (f v : Nat) (π : List Nat), V v → v < f → vP P v π → π ∈ vPs P f v
  | 0, v, π, _, h, _ => by omega
  | f + 1, v, [], _, _, _ => List.mem_cons_self
  | f + 1, v, e :: π, h, hf, hp => by
    obtain ⟨hN, -, hpt⟩ := hV v h
    obtain ⟨p1, p2, p3, p4⟩ := hp
    simp only [vPs]
    rw [if_pos p1]
    refine List.mem_cons_of_mem _ (List.mem_flatMap.mpr ⟨e % 4, List.mem_range.mpr p3, ?_⟩)
    obtain ⟨-, -, -, -, hx⟩ := (wf.2.2 v hN).2.2.2 p1
    obtain ⟨v', hv', ev, -⟩ := hx (e % 4) p3
    have bN := wf.1.1
    refine List.mem_map.mpr ⟨π, vPs_mem wf hV f _ π (hpt p1 _ p3) (by rw [ev, tnI (by omega)]; omega) p4, ?_⟩
    rw [← p2, Nat.div_add_mod]
theorem sub_len {W l : List (List Nat)} (hW : W.Nodup) (h : ∀ π ∈ W, π ∈ l) : W.length ≤ l.length := by
  have hn : (W.map (fun π => l.idxOf π)).Nodup := by
    refine List.pairwise_map.mpr ?_
    refine List.Pairwise.imp_of_mem (fun {x y} hx hy hne e => ?_) hW
    have h1 := List.getElem_idxOf (List.idxOf_lt_length_of_mem (h x hx))
    have h2 := List.getElem_idxOf (List.idxOf_lt_length_of_mem (h y hy))
    apply hne
    rw [← h1, ← h2]
    simp only [e]
  have := nd_leN (C := l.length) hn (fun k hk => by
    obtain ⟨π, hp, rfl⟩ := List.mem_map.mp hk
    exact List.idxOf_lt_length_of_mem (h π hp))
  rwa [List.length_map] at this
/-- the answer that a value gives -/
def vAn (P : Nat → Nat → Int32) (t0 : Nat) (R : List pRow) (π : List Nat) (v : Nat) : Nat := if P 0 (tyP P t0 π) ≤ 1 then ixS (P 5 v) (qSr P π R) else tn (P 5 v)
def hDr (P : Nat → Nat → Int32) (gs : Int32) : Nat → List pRow → List pRow
  | 0, L => L
  | _ + 1, [] => []
  | f + 1, A :: r => if A.2.1 = [] ∧ ¬ P 12 A.1 = 0 ∧ ¬ (gs >>> (nI A.1 &&& 31)) &&& 1 = 1 then hDr P gs f (aOt A.1 (A :: r)) else A :: r
theorem hDC_map {plc : Nat → List Nat} {gs : Int32} : ∀ (f : Nat) (L : List rC), (hDC P gs f L).map (rP plc) = hDr P gs f (L.map (rP plc))
  | 0, L => rfl
  | f + 1, [] => rfl
  | f + 1, A :: r => by
    simp only [hDC, List.map_cons, hDr]
    have e1 : (rP plc A).2.1 = [] ↔ A.2.1 = [] := by simp [rP]
    have e2 : (rP plc A).1 = A.1 := rfl
    by_cases h : A.2.1 = [] ∧ ¬ P 12 A.1 = 0 ∧ ¬ (gs >>> (nI A.1 &&& 31)) &&& 1 = 1
    · rw [if_pos h, if_pos ⟨e1.mpr h.1, h.2⟩, hDC_map f, oC_map, e2]
      rfl
    · rw [if_neg h, if_neg (fun z => h ⟨e1.mp z.1, z.2⟩)]
      rfl
/-- the first question behind an answer -/
def qIx (Qs : List qR) (up via : Int32) : Nat := Qs.findIdx (fun x => decide (x.2.2.2.1 = up ∧ x.2.2.2.2 = via))
theorem qIx_eq {Qs : List qR} {up via : Int32} {i : Nat} {x : qR} (hx : Qs[i]? = some x) (h1 : x.2.2.2.1 = up ∧ x.2.2.2.2 = via) (hno : ∀ i' x', i' < i → Qs[i']? = some x' → ¬ (x'.2.2.2.1 = up ∧ x'.2.2.2.2 = via)) : qIx Qs up via = i := by
  obtain ⟨hl, he⟩ := List.getElem?_eq_some_iff.mp hx
  refine (List.findIdx_eq hl).mpr ⟨by rw [he]; simpa using h1, fun j hj => ?_⟩
  have := hno j Qs[j] hj (List.getElem?_eq_getElem (by omega))
  simpa using this
/-- a value's way: the row that takes it, the questions asked -/
def lp (P : Nat → Nat → Int32) (t0 : Nat) (Qs : List qR) (gs : Int32) (v0 : Nat) : Nat → List pRow → Int32 → Int32 → List Nat → Option pRow × List Nat
  | 0, _, _, _, as => (none, as)
  | f + 1, L, up, via, as => match hDr P gs L.length L with
    | [] => (none, as)
    | A :: r => match A.2.1 with
      | [] => (some A, as)
      | w :: _ => lp P t0 Qs gs v0 f (qL P t0 (A :: r) w.1 (vAn P t0 (A :: r) w.1 (vAt P v0 w.1))) (nI (qIx Qs up via)) (nI (vAn P t0 (A :: r) w.1 (vAt P v0 w.1))) (as ++ [qIx Qs up via])
end CU
