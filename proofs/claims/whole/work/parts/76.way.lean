/-! The way: places asked, cases left out -/
section BN
variable {P : Nat → Nat → Int32} {N t0 C : Nat} {pos : Nat → List Nat} {an : aAn} {W : List (List Nat)} {Dr : List Nat}
/-- a row on the way -/
def pRk (P : Nat → Nat → Int32) (N : Nat) (pos : Nat → List Nat) (t0 C : Nat) (W : List (List Nat)) (Dr : List Nat) (A : pRow) : Prop := rOk P N pos t0 A ∧ A.1 < C ∧ ¬ A.1 ∈ Dr ∧ ∀ q ∈ A.2.1, ¬ q.1 ∈ W ∧ (∀ ρ e, ρ ++ [e] <+: q.1 → ρ ∈ W) ∧ q.1.length + tn (P 7 q.2) ≤ 24
/-- the way -/
def pWd (N : Nat) (pos : Nat → List Nat) (C : Nat) (W : List (List Nat)) (Dr : List Nat) (an : aAn) : Prop := W.Nodup ∧ (∀ π ∈ W, (∃ v, v < N ∧ pos v = π) ∧ π.length ≤ 23 ∧ ∀ ρ e, ρ ++ [e] <+: π → ρ ∈ W) ∧ Dr.Nodup ∧ (∀ c ∈ Dr, c < C) ∧ ∀ π, ¬ (an π).1 = 0 → π ∈ W
/-- settling: a wish comes from one at its place, no greater -/
theorem aS_from (wf : wfN P N) : ∀ (f : Nat) (done pend : List (List Nat × Nat)) (bd : Nat → Option (List Nat)), (∀ q ∈ pend, q.2 < N) → ∀ B ∈ aS P f done pend bd, ∀ q ∈ B.1, ∃ q0, (q0 ∈ done ∨ q0 ∈ pend) ∧ q.1 = q0.1 ∧ tn (P 7 q.2) ≤ tn (P 7 q0.2) := by
  have bN := wf.1
  intro f
  induction f with
  | zero =>
    intro done pend bd _ B h
    cases h
  | succ f ih =>
    intro done pend bd hp B h q hq
    cases pend with
    | nil =>
      have e := List.mem_singleton.mp h
      subst e
      exact ⟨q, Or.inl hq, rfl, Nat.le_refl _⟩
    | cons y r =>
      have hy : y.2 < N := hp y List.mem_cons_self
      have hr : ∀ z ∈ r, z.2 < N := fun z hz => hp z (List.mem_cons_of_mem _ hz)
      have hmem : ∀ v, v < y.2 → ∀ z ∈ (y.1, v) :: r, z.2 < N := fun v hv z hz => by
        rcases List.mem_cons.mp hz with rfl | hz
        · exact Nat.lt_trans hv hy
        · exact hr z hz
      have lift : ∀ v, v < y.2 → tn (P 7 v) ≤ tn (P 7 y.2) → (∃ q0, (q0 ∈ done ∨ q0 ∈ (y.1, v) :: r) ∧ q.1 = q0.1 ∧ tn (P 7 q.2) ≤ tn (P 7 q0.2)) → ∃ q0, (q0 ∈ done ∨ q0 ∈ y :: r) ∧ q.1 = q0.1 ∧ tn (P 7 q.2) ≤ tn (P 7 q0.2) := fun v hv hz h => by
        obtain ⟨q0, h1, h2, h3⟩ := h
        rcases h1 with h1 | h1
        · exact ⟨q0, Or.inl h1, h2, h3⟩
        · rcases List.mem_cons.mp h1 with rfl | h1
          · exact ⟨y, Or.inr List.mem_cons_self, h2, Nat.le_trans h3 hz⟩
          · exact ⟨q0, Or.inr (List.mem_cons_of_mem _ h1), h2, h3⟩
      simp only [aS] at h
      split at h
      · obtain ⟨q0, h1, h2, h3⟩ := ih done r bd hr B h q hq
        exact ⟨q0, h1.imp id (fun z => List.mem_cons_of_mem _ z), h2, h3⟩
      · split at h
        · rename_i _ e4
          obtain ⟨w, v, w8, e5, hv, e6, eZ⟩ := (wf.2 y.2 hy).2.1 e4
          rw [show tn (P 6 (4 * y.2)) = v by rw [e6]; exact tnI (by omega)] at h
          exact lift v hv (by omega) (ih _ _ _ (hmem v hv) B h q hq)
        · split at h
          · rename_i _ _ e3
            obtain ⟨v, v', hv, e6, hv', e6', eZ⟩ := (wf.2 y.2 hy).2.2 e3
            rw [show tn (P 6 (4 * y.2)) = v by rw [e6]; exact tnI (by omega), show tn (P 6 (4 * y.2 + 1)) = v' by rw [e6']; exact tnI (by omega)] at h
            rcases List.mem_append.mp h with h | h
            · exact lift v hv (by omega) (ih _ _ _ (hmem v hv) B h q hq)
            · exact lift v' hv' (by omega) (ih _ _ _ (hmem v' hv') B h q hq)
          · obtain ⟨q0, h1, h2, h3⟩ := ih (done ++ [y]) r bd hr B h q hq
            rcases h1 with h1 | h1
            · rcases List.mem_append.mp h1 with h1 | h1
              · exact ⟨q0, Or.inl h1, h2, h3⟩
              · rcases List.mem_singleton.mp h1 with rfl
                exact ⟨q0, Or.inr List.mem_cons_self, h2, h3⟩
            · exact ⟨q0, Or.inr (List.mem_cons_of_mem _ h1), h2, h3⟩
theorem ks_size {k : Nat} : ∀ (a i : Nat), i < a → tn (P 7 (tn (P 6 (4 * k + i)))) ≤ aZ P (aKs P (fun _ => ()) k a) := by
  intro a
  induction a with
  | zero => intro i h; omega
  | succ a ih =>
    intro i h
    have e0 : aKs P (fun _ => ()) k (a + 1) = aKs P (fun _ => ()) k a ++ [((), tn (P 6 (4 * k + a)))] := by
      unfold aKs
      rw [List.range_succ, List.map_append]
      rfl
    rw [e0, aZ_app]
    simp only [aZ]
    by_cases e : i = a
    · subst e
      omega
    · have := ih i (by omega)
      omega
theorem aAns1_way (wf : wfA P N pos) (ht0 : t0 < 16) {A : pRow} {md wh is : Int32} {π : List Nat} (h : pRk P N pos t0 C W Dr A) (hkd : ∀ q ∈ A.2.1, q.1 = π → ¬ md = 0 → P 3 q.2 = 2) (hW : ¬ π ∈ W) (hcl : ∀ ρ e, ρ ++ [e] <+: π → ρ ∈ W) (hWc : ∀ σ ∈ W, ∀ ρ e, ρ ++ [e] <+: σ → ρ ∈ W) : ∀ B ∈ aAns1 P π md wh is A, pRk P N pos t0 C (π :: W) Dr B := by
  intro B hB
  have hok := aAns1_ok wf ht0 h.1 hkd B hB
  have keep : ∀ q, q ∈ A.2.1 → q.1 ≠ π → ¬ q.1 ∈ π :: W ∧ (∀ ρ e, ρ ++ [e] <+: q.1 → ρ ∈ π :: W) := fun q hq hne => by
    obtain ⟨h1, h2, -⟩ := h.2.2.2 q hq
    refine ⟨fun z => ?_, fun ρ e z => List.mem_cons_of_mem _ (h2 ρ e z)⟩
    rcases List.mem_cons.mp z with z | z
    · exact hne z
    · exact h1 z
  unfold aAns1 at hB
  cases hf : aFnd π A.2.1 with
  | none =>
    rw [hf] at hB
    have e := List.mem_singleton.mp hB
    subst e
    exact ⟨h.1, h.2.1, h.2.2.1, fun q hq => ⟨(keep q hq (aFnd_none hf q hq)).1, (keep q hq (aFnd_none hf q hq)).2, (h.2.2.2 q hq).2.2⟩⟩
  | some z =>
    rw [hf] at hB
    have hz := aFnd_some hf
    dsimp only at hB
    by_cases cond : P 5 z.2.1 = wh ∧ (¬ md = 0 ∨ ¬ is = 0)
    · rw [if_pos cond] at hB
      obtain ⟨B', hB', rfl⟩ := List.mem_map.mp hB
      have hin : (π, z.2.1) ∈ A.2.1 := by rw [hz]; simp
      have hnd := (h.1.1 _ hin).1
      have hpw := h.1.2.2
      rw [hz] at hpw
      obtain ⟨p1, p2, p3⟩ := List.pairwise_append.mp hpw
      obtain ⟨p4, p5⟩ := List.pairwise_cons.mp p2
      have side : ∀ q, q ∈ z.1 ∨ q ∈ z.2.2 → q ∈ A.2.1 ∧ q.1 ≠ π := fun q hq => by
        rcases hq with hq | hq
        · refine ⟨by rw [hz]; simp [hq], fun e => (p3 q hq (π, z.2.1) List.mem_cons_self).1 ?_⟩
          rw [e]
          exact List.prefix_refl _
        · refine ⟨by rw [hz]; simp [hq], fun e => (p4 q hq).1 ?_⟩
          rw [e]
          exact List.prefix_refl _
      refine ⟨hok, h.2.1, h.2.2.1, fun q hq => ?_⟩
      have hNl : ∀ y ∈ z.1 ++ (aKs P (fun i => π ++ [4 * tn wh + i]) z.2.1 (if md = 0 then 0 else aAr P z.2.1) ++ z.2.2), y.2 < N ∧ ((y ∈ z.1 ∨ y ∈ z.2.2) ∨ ∃ i, ¬ md = 0 ∧ i < aAr P z.2.1 ∧ y = (π ++ [4 * tn wh + i], tn (P 6 (4 * z.2.1 + i)))) := by
        intro y hy
        rcases List.mem_append.mp hy with hy | hy
        · exact ⟨(h.1.1 y (side y (Or.inl hy)).1).1.1, Or.inl (Or.inl hy)⟩
        · rcases List.mem_append.mp hy with hy | hy
          · by_cases hm : md = 0
            · rw [if_pos hm] at hy
              simp [aKs] at hy
            · rw [if_neg hm] at hy
              obtain ⟨i, hi, rfl⟩ := List.mem_map.mp hy
              have hi2 := List.mem_range.mp hi
              have hk2 := hkd _ hin rfl hm
              obtain ⟨-, -, -, hmk⟩ := wf.2.2 z.2.1 hnd.1
              obtain ⟨-, -, -, -, hparts⟩ := hmk hk2
              obtain ⟨v, hv, e6, -⟩ := hparts i hi2
              have bN := wf.1.1
              have hzN : z.2.1 < N := hnd.1
              refine ⟨?_, Or.inr ⟨i, hm, hi2, rfl⟩⟩
              show tn (P 6 (4 * z.2.1 + i)) < N
              rw [e6, tnI (by omega)]
              omega
          · exact ⟨(h.1.1 y (side y (Or.inr hy)).1).1.1, Or.inl (Or.inr hy)⟩
      obtain ⟨q0, h1, h2, h3⟩ := aS_from wf.1 _ [] _ _ (fun y hy => (hNl y hy).1) B' hB' q hq
      have h1' := h1.resolve_left (fun f => by cases f)
      rcases (hNl q0 h1').2 with sd | ⟨i, hm, hi, e⟩
      · obtain ⟨s1, s2⟩ := side q0 sd
        rw [h2]
        refine ⟨(keep q0 s1 s2).1, (keep q0 s1 s2).2, ?_⟩
        have := (h.2.2.2 q0 s1).2.2
        omega
      · have hk2 := hkd _ hin rfl hm
        obtain ⟨-, -, -, hmk⟩ := wf.2.2 z.2.1 hnd.1
        obtain ⟨-, -, -, eZ, -⟩ := hmk hk2
        have hs := ks_size (P := P) (k := z.2.1) (aAr P z.2.1) i hi
        have hsz := (h.2.2.2 _ hin).2.2
        rw [h2, e]
        refine ⟨fun y => ?_, fun ρ e' y => ?_, ?_⟩
        · rcases List.mem_cons.mp y with y | y
          · exact absurd (congrArg List.length y) (by simp)
          · exact hW (hWc _ y π _ (List.prefix_refl _))
        · rcases List.prefix_concat_iff.mp y with y | y
          · obtain ⟨y1, -⟩ := app_inj y
            rw [y1]
            exact List.mem_cons_self
          · exact List.mem_cons_of_mem _ (hcl ρ e' y)
        · rw [e] at h3
          simp only at h3 hsz ⊢
          rw [List.length_append]
          simp only [List.length_cons, List.length_nil]
          omega
    · rw [if_neg cond] at hB
      cases hB
theorem aAns_way (wf : wfA P N pos) (ht0 : t0 < 16) {md wh is : Int32} {π : List Nat} (hW : ¬ π ∈ W) (hcl : ∀ ρ e, ρ ++ [e] <+: π → ρ ∈ W) (hWc : ∀ σ ∈ W, ∀ ρ e, ρ ++ [e] <+: σ → ρ ∈ W) : ∀ (L : List pRow), (∀ A ∈ L, pRk P N pos t0 C W Dr A) → (∀ A ∈ L, ∀ q ∈ A.2.1, q.1 = π → ¬ md = 0 → P 3 q.2 = 2) → ∀ B ∈ aAns P π md wh is L, pRk P N pos t0 C (π :: W) Dr B
  | [], _, _, B, h => by cases h
  | A :: r, h, hk, B, hB => by
    rcases List.mem_append.mp hB with hB | hB
    · exact aAns1_way wf ht0 (h A List.mem_cons_self) (hk A List.mem_cons_self) hW hcl hWc B hB
    · exact aAns_way wf ht0 hW hcl hWc r (fun A hA => h A (List.mem_cons_of_mem _ hA)) (fun A hA => hk A (List.mem_cons_of_mem _ hA)) B hB
theorem aOt_way {c : Nat} {L : List pRow} (h : ∀ A ∈ L, pRk P N pos t0 C W Dr A) : ∀ B ∈ aOt c L, pRk P N pos t0 C W (c :: Dr) B := by
  intro B hB
  obtain ⟨h1, h2⟩ := aOt_mem hB
  obtain ⟨a, b, c', d⟩ := h B h1
  exact ⟨a, b, fun z => (List.mem_cons.mp z).elim h2 c', d⟩
/-- a new question on the way -/
theorem pWd_ask {π : List Nat} {x : Int32 × Int32} (h : pWd N pos C W Dr an) (hW : ¬ π ∈ W) (hv : ∃ v, v < N ∧ pos v = π) (hl : π.length ≤ 23) (hcl : ∀ ρ e, ρ ++ [e] <+: π → ρ ∈ W) : pWd N pos C (π :: W) Dr (anU an π x) := by
  obtain ⟨h1, h2, h3, h4, h5⟩ := h
  refine ⟨List.nodup_cons.mpr ⟨hW, h1⟩, fun σ hσ => ?_, h3, h4, fun ρ hρ => ?_⟩
  · rcases List.mem_cons.mp hσ with rfl | hσ
    · exact ⟨hv, hl, fun ρ e z => List.mem_cons_of_mem _ (hcl ρ e z)⟩
    · obtain ⟨a, b, c⟩ := h2 σ hσ
      exact ⟨a, b, fun ρ e z => List.mem_cons_of_mem _ (c ρ e z)⟩
  · unfold anU at hρ
    by_cases e : ρ = π
    · rw [e]
      exact List.mem_cons_self
    · rw [if_neg e] at hρ
      exact List.mem_cons_of_mem _ (h5 ρ hρ)
end BN
