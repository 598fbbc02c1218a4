/-! The tree: bounds -/
section BM
variable {P : Nat → Nat → Int32} {N t0 C : Nat} {pos : Nat → List Nat} {an : aAn}
/-- what a step does to the counts -/
def aCt (B k : Nat) (st st' : aSt) : Prop := (∃ e, st'.1 = st.1 ++ e) ∧ st.2.2.2.2.2.1 ≤ st'.2.2.2.2.2.1 ∧ (st.2.2.2.2.2.1 ≤ 800 → st'.2.2.2.2.2.1 ≤ 800) ∧ st'.2.2.1 + 10 * st.2.2.2.2.2.1 ≤ st.2.2.1 + k + 10 * st'.2.2.2.2.2.1 ∧ (st.2.2.2.2.2.2.1 ≤ B → st'.2.2.2.2.2.2.1 ≤ B) ∧ st'.1.length + st.2.2.2.2.2.1 ≤ st.1.length + st'.2.2.2.2.2.1
theorem aCt_rf {B k : Nat} {st : aSt} : aCt B k st st := ⟨⟨[], by simp⟩, Nat.le_refl _, fun h => h, by omega, fun h => h, Nat.le_refl _⟩
theorem aCt_tr {B k k' : Nat} {a b c : aSt} (h : aCt B k a b) (h' : aCt B k' b c) : aCt B (k + k') a c := by
  obtain ⟨⟨e, he⟩, h1, h2, h3, h4, h5⟩ := h
  obtain ⟨⟨e', he'⟩, g1, g2, g3, g4, g5⟩ := h'
  exact ⟨⟨e ++ e', by rw [he', he, List.append_assoc]⟩, by omega, fun z => g2 (h2 z), by omega, fun z => g4 (h4 z), by omega⟩
theorem aBs_ct {B : Nat} {F : Nat → aSt → Option aSt} : ∀ (k a : Nat) (st st' : aSt), (∀ a st st', F a st = some st' → aCt B 1 st st') → aBs F k a st = some st' → aCt B k st st'
  | 0, a, st, st', _, h => by
    cases h
    exact aCt_rf
  | k + 1, a, st, st', hF, h => by
    simp only [aBs] at h
    cases h1 : F a st with
    | none => rw [h1] at h; cases h
    | some s1 =>
      rw [h1] at h
      have q1 := hF a st s1 h1
      have q2 := aBs_ct k (a + 1) s1 st' hF h
      have := aCt_tr q1 q2
      rw [Nat.add_comm 1 k] at this
      exact this
theorem qN_le (h0 : ∀ t, tn (P 0 t) ≤ 9) (R : List pRow) (π : List Nat) : qN P t0 R π ≤ R.length + 8 := by
  unfold qN
  split
  · have l1 := aSrt_len (l := aNs P π R) (S := [])
    have l2 := aNs_len (P := P) (π := π) R
    show (aSrt [] (aNs P π R)).length + 1 ≤ _
    simp at l1
    omega
  · have := h0 (tyP P t0 π)
    omega
theorem aB_ct {B : Nat} (h0 : ∀ t, tn (P 0 t) ≤ 9) : ∀ (f : Nat) (L : List pRow) (up via : Int32) (way : Nat) (an : aAn) (st st' : aSt), way + f ≤ B → aB P t0 f L up via way an st = some st' → aCt B 1 st st' := by
  intro f
  induction f with
  | zero => intro L up via way an st st' _ h; cases h
  | succ f ih =>
    intro L up via way an st st' hB h
    cases L with
    | nil =>
      cases h
      refine ⟨⟨[], by simp [stF]⟩, Nat.le_refl _, fun z => z, ?_, fun z => ?_, Nat.le_refl _⟩
      · show st.2.2.1 + 1 + 10 * st.2.2.2.2.2.1 ≤ st.2.2.1 + 1 + 10 * st.2.2.2.2.2.1
        omega
      · show max st.2.2.2.2.2.2.1 way ≤ B
        omega
    | cons A r =>
      have tk : aCt B 0 st (stT A.1 way st) := by
        refine ⟨⟨[], by simp [stT]⟩, Nat.le_refl _, fun z => z, ?_, fun z => ?_, Nat.le_refl _⟩
        · show st.2.2.1 + 10 * st.2.2.2.2.2.1 ≤ st.2.2.1 + 0 + 10 * st.2.2.2.2.2.1
          omega
        · show max st.2.2.2.2.2.2.1 way ≤ B
          omega
      simp only [aB] at h
      split at h
      · split at h
        · cases h
          have := aCt_tr tk (aCt_rf (k := 1))
          rw [Nat.zero_add] at this
          exact this
        · have := aCt_tr tk (ih _ _ _ _ _ _ _ (by omega) h)
          rw [Nat.zero_add] at this
          exact this
      · rename_i q r' hq
        split at h
        · cases h
        · split at h
          · cases h
          · rename_i c1 c2
            have K := aBs_ct (B := B) _ _ _ _ (fun a s1 s2 hF => by
              split at hF
              · cases hF
              · exact ih _ _ _ _ _ _ _ (by omega) hF) h
            have hn := qN_le (t0 := t0) h0 (A :: r) q.1
            obtain ⟨⟨e, he⟩, h1, h2, h3, h4, h5⟩ := K
            simp only [stQ, List.length_append, List.length_cons, List.length_nil] at he h1 h2 h3 h4 h5 hn c2
            refine ⟨⟨_, by rw [he, List.append_assoc]⟩, by omega, fun z => h2 (by omega), by omega, h4, by omega⟩
/-- an answer is only where it was asked; the depth -/
theorem dOk_all {W : List (List Nat)} (hw : ∀ π, ¬ (an π).1 = 0 → π ∈ W ∧ π.length ≤ 23) : ∀ (f : Nat) (π : List Nat), 25 ≤ π.length + f → π.length ≤ 24 → dOk P t0 an f π := by
  intro f
  induction f with
  | zero => intro π h1 h2; omega
  | succ f ih =>
    intro π h1 h2
    by_cases e : (an π).1 = 0
    · exact Or.inl e
    · refine Or.inr (Or.inr (fun k hk => ih _ ?_ ?_))
      · rw [List.length_append]
        simp
        omega
      · have := (hw π e).2
        rw [List.length_append]
        simp
        omega
/-- the places told that have parts -/
def aVk (V : List Nat → List (List Nat)) (π : List Nat) (c : Nat) : Nat → Nat → List (List Nat)
  | _, 0 => []
  | k, a + 1 => V (π ++ [4 * c + k]) ++ aVk V π c (k + 1) a
def aV (P : Nat → Nat → Int32) (t0 : Nat) (an : aAn) : Nat → List Nat → List (List Nat)
  | 0, _ => []
  | f + 1, π => if (an π).1 = 0 then [] else if (an π).1 = 1 then [] else π :: aVk (aV P t0 an f) π (tn (an π).1 - 2) 0 (tn (P 1 (8 * tyP P t0 π + (tn (an π).1 - 2))))
theorem aVk_mem {V : List Nat → List (List Nat)} {π : List Nat} {c : Nat} {ρ : List Nat} : ∀ (a k : Nat), ρ ∈ aVk V π c k a → ∃ j, k ≤ j ∧ j < k + a ∧ ρ ∈ V (π ++ [4 * c + j])
  | 0, k, h => by cases h
  | a + 1, k, h => by
    rcases List.mem_append.mp h with h | h
    · exact ⟨k, Nat.le_refl _, by omega, h⟩
    · obtain ⟨j, h1, h2, h3⟩ := aVk_mem a (k + 1) h
      exact ⟨j, by omega, by omega, h3⟩
theorem aV_mem : ∀ (f : Nat) (π ρ : List Nat), ρ ∈ aV P t0 an f π → π <+: ρ ∧ ¬ (an ρ).1 = 0 := by
  intro f
  induction f with
  | zero => intro π ρ h; cases h
  | succ f ih =>
    intro π ρ h
    simp only [aV] at h
    split at h
    · cases h
    · split at h
      · cases h
      · rename_i e0 e1
        rcases List.mem_cons.mp h with rfl | h
        · exact ⟨List.prefix_refl _, e0⟩
        · obtain ⟨j, -, -, h3⟩ := aVk_mem _ _ h
          obtain ⟨g1, g2⟩ := ih _ _ h3
          exact ⟨List.IsPrefix.trans (List.prefix_append _ _) g1, g2⟩
theorem aVk_nd {V : List Nat → List (List Nat)} {π : List Nat} {c : Nat} (hV : ∀ ρ, (V ρ).Nodup) (hp : ∀ ρ σ, σ ∈ V ρ → ρ <+: σ) : ∀ (a k : Nat), (aVk V π c k a).Nodup
  | 0, k => List.nodup_nil
  | a + 1, k => by
    simp only [aVk]
    refine List.nodup_append.mpr ⟨hV _, aVk_nd hV hp a (k + 1), fun x hx y hy e => ?_⟩
    subst e
    obtain ⟨j, h1, h2, h3⟩ := aVk_mem a (k + 1) hy
    have p1 := hp _ _ hx
    have p2 := hp _ _ h3
    rcases List.prefix_or_prefix_of_prefix p1 p2 with q | q
    · exact pre_sib (by omega) q
    · exact pre_sib (by omega) q
theorem aV_nd : ∀ (f : Nat) (π : List Nat), (aV P t0 an f π).Nodup := by
  intro f
  induction f with
  | zero => intro π; exact List.nodup_nil
  | succ f ih =>
    intro π
    simp only [aV]
    split
    · exact List.nodup_nil
    · split
      · exact List.nodup_nil
      · refine List.nodup_cons.mpr ⟨fun h => ?_, aVk_nd ih (fun ρ σ h => (aV_mem f ρ σ h).1) _ _⟩
        obtain ⟨j, -, -, h3⟩ := aVk_mem _ _ h
        have := (aV_mem f _ _ h3).1.length_le
        rw [List.length_append] at this
        simp only [List.length_cons, List.length_nil] at this
        omega
theorem aTk_len {T : List Nat → List Int32} {V : List Nat → List (List Nat)} {π : List Nat} {c : Nat} (h : ∀ ρ, (T ρ).length ≤ 2 + 8 * (V ρ).length) : ∀ (a k : Nat), (aTk T π c k a).length ≤ 2 * a + 8 * (aVk V π c k a).length
  | 0, k => Nat.zero_le _
  | a + 1, k => by
    have h1 := h (π ++ [4 * c + k])
    have h2 := aTk_len (π := π) (c := c) h a (k + 1)
    simp only [aTk, aVk, List.length_append]
    omega
theorem aT_len (hok : anOk P t0 an) : ∀ (f : Nat) (π : List Nat), (aT P t0 an f π).length ≤ 2 + 8 * (aV P t0 an f π).length := by
  intro f
  induction f with
  | zero => intro π; exact Nat.zero_le _
  | succ f ih =>
    intro π
    simp only [aT, aV]
    by_cases e0 : (an π).1 = 0
    · rw [if_pos e0, if_pos e0]
      simp
    · rw [if_neg e0, if_neg e0]
      by_cases e1 : (an π).1 = 1
      · rw [if_pos e1, if_pos e1]
        simp
      · rw [if_neg e1, if_neg e1]
        rcases hok π with q | q | ⟨w, a, w8, ew, a4, ea, -⟩
        · exact absurd q e0
        · exact absurd q e1
        · have etw : tn (an π).1 - 2 = w := by rw [ew, tnI (by omega)]; omega
          rw [etw, ea, tnI (by omega)]
          have := aTk_len (π := π) (c := w) ih a 0
          simp only [List.length_append, List.length_cons, List.length_nil]
          omega
theorem nd_inj {β : Type} {W : List β} (hd : W.Nodup) {i j : Nat} (hi : i < W.length) (hj : j < W.length) (e : W[i] = W[j]) : i = j := by
  rcases Nat.lt_trichotomy i j with h | h | h
  · exact absurd e (List.pairwise_iff_getElem.mp hd i j hi hj h)
  · exact h
  · exact absurd e.symm (List.pairwise_iff_getElem.mp hd j i hj hi h)
theorem nd_le {W : List (List Nat)} (hd : W.Nodup) (hp : ∀ π ∈ W, ∃ v, v < N ∧ pos v = π) : W.length ≤ N := by
  refine pigeon N W.length (fun i => if hh : i < W.length then (hp W[i] (List.getElem_mem hh)).choose else 0) (fun i hi => ?_) (fun i j hi hj e => ?_)
  · try dsimp only
    rw [dif_pos hi]
    exact (hp W[i] (List.getElem_mem hi)).choose_spec.1
  · try dsimp only at e
    rw [dif_pos hi, dif_pos hj] at e
    have e1 := (hp W[i] (List.getElem_mem hi)).choose_spec.2
    have e2 := (hp W[j] (List.getElem_mem hj)).choose_spec.2
    rw [e] at e1
    have ee : W[i] = W[j] := e1.symm.trans e2
    exact nd_inj hd hi hj ee
theorem aT_bound (hok : anOk P t0 an) (bN : N ≤ 512) (hw : ∀ π, ¬ (an π).1 = 0 → ∃ v, v < N ∧ pos v = π) (f : Nat) (π : List Nat) : (aT P t0 an f π).length ≤ 4700 := by
  have h1 := aT_len hok f π
  have h2 := nd_le (N := N) (pos := pos) (aV_nd (P := P) (t0 := t0) (an := an) f π) (fun ρ h => hw ρ (aV_mem f π ρ h).2)
  omega
theorem nd_leN {W : List Nat} {C : Nat} (hd : W.Nodup) (hp : ∀ c ∈ W, c < C) : W.length ≤ C := by
  refine pigeon C W.length (fun i => if hh : i < W.length then W[i] else 0) (fun i hi => ?_) (fun i j hi hj e => ?_)
  · try dsimp only
    rw [dif_pos hi]
    exact hp _ (List.getElem_mem hi)
  · try dsimp only at e
    rw [dif_pos hi, dif_pos hj] at e
    exact nd_inj hd hi hj e
end BM
