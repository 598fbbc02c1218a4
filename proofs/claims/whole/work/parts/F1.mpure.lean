/-! Match: what the reference's steps give, by paths -/
section NB
variable {P : Nat → Nat → Int32} {N X X' t0 C : Nat} {pos pl pl' : Nat → List Nat} {s s' : mS} {W : List (List Nat)} {Dr : List Nat} {V : Nat → Prop} {L : List pRow} {first p : Nat} {π : List Nat}
theorem rBel_list (wf : wfA P N pos) (h : tRows s P N t0 pos pl X first L) (hp : p < X) (hπ : pl p = π) {x : Int32} : ∀ (w : Nat) (S1 S2 : List Int32) (y : Int32) (c : Nat), aSrt [] (aNs P π L) = S1 ++ y :: S2 → x ∈ y :: S2 → S2.length + 2 ≤ w → (rBel s first L.length (nI p) x w y 1 (nI c)).1 = nI (c + ixS x (y :: S2)) := by
  intro w
  induction w with
  | zero => intro S1 S2 y c _ _ h2; omega
  | succ w ih =>
    intro S1 S2 y c hS hx hw
    have hris : ris (aSrt [] (aNs P π L)) := aSrt_ris List.Pairwise.nil
    rw [hS] at hris
    have hr2 := (List.pairwise_cons.mp (List.pairwise_append.mp hris).2.1).1
    have e := rAb_list (y := y) (al := 0) wf h hp hπ L.length (Nat.le_refl _)
    rw [List.take_length, abF_next hS] at e
    simp only [rBel, ixS]
    by_cases exy : y = x
    · rw [if_pos (Or.inr (by rw [exy]; exact Int32.le_refl _)), if_pos exy]
      rfl
    · have hx2 : x ∈ S2 := (List.mem_cons.mp hx).resolve_left (fun q => exy q.symm)
      have hyx := hr2 x hx2
      rw [if_neg (by simp only [not_true_eq_false, false_or]; exact fun q => Int32.not_lt.mpr q hyx), if_neg exy, e, nI_1]
      cases S2 with
      | nil => cases hx2
      | cons z r =>
        simp only [List.length_cons] at hw
        have := ih (S1 ++ [y]) r z (c + 1) (by rw [hS]; simp) hx2 (by omega)
        rw [← Nat.add_assoc]
        exact this
theorem bel_all (wf : wfA P N pos) (h : tRows s P N t0 pos pl X first L) (hp : p < X) (hπ : pl p = π) {x : Int32} (hx : x ∈ qSr P π L) : (rBel s first L.length (nI p) x (L.length + 2) (rAb s first (nI p) 0 1 L.length).1 (rAb s first (nI p) 0 1 L.length).2 0).1 = nI (ixS x (qSr P π L)) := by
  have e := rAb_list (y := 0) (al := 1) wf h hp hπ L.length (Nat.le_refl _)
  rw [List.take_length, abF_all] at e
  rw [e]
  have l1 := aSrt_len (l := aNs P π L) (S := [])
  have l2 := aNs_len (P := P) (π := π) L
  unfold qSr at hx ⊢
  cases hS : aSrt [] (aNs P π L) with
  | nil => rw [hS] at hx; cases hx
  | cons y r =>
    rw [hS] at l1 hx
    simp only [List.length_cons, List.length_nil] at l1
    have := rBel_list wf h hp hπ (x := x) (L.length + 2) [] r y 0 hS hx (by omega)
    rw [show nI 0 = 0 from rfl, Nat.zero_add] at this
    exact this
theorem isw_all (wf : wfA P N pos) (h : tRows s P N t0 pos pl X first L) (hp : p < X) (hπ : pl p = π) {x : Int32} : rIsW s first (nI p) x L.length = if x ∈ qSr P π L then 1 else 0 := by
  have e := rIsW_list wf h hp hπ (x := x) L.length (Nat.le_refl _)
  rw [List.take_length] at e
  rw [e]
  have : x ∈ qSr P π L ↔ x ∈ aNs P π L := by
    unfold qSr
    rw [aSrt_mem]
    simp
  by_cases hx : x ∈ aNs P π L
  · rw [if_pos hx, if_pos (this.mpr hx)]
  · rw [if_neg hx, if_neg (fun q => hx (this.mp q))]
theorem ixS_at {x : Int32} : ∀ {S : List Int32}, x ∈ S → S[ixS x S]? = some x ∧ ixS x S < S.length
  | [], h => by cases h
  | y :: r, h => by
    simp only [ixS]
    by_cases e : y = x
    · rw [if_pos e, e]
      exact ⟨rfl, by simp⟩
    · rw [if_neg e]
      obtain ⟨h1, h2⟩ := ixS_at ((List.mem_cons.mp h).resolve_left (fun q => e q.symm))
      rw [Nat.add_comm 1]
      exact ⟨h1, by simp only [List.length_cons]; omega⟩
theorem ixS_no {x : Int32} : ∀ {S : List Int32}, ¬ x ∈ S → ixS x S = S.length
  | [], _ => rfl
  | y :: r, h => by
    simp only [ixS, List.length_cons]
    rw [if_neg (fun q => h (by rw [q]; exact List.mem_cons_self)), ixS_no (fun q => h (List.mem_cons_of_mem _ q)), Nat.add_comm]
theorem aAns_no {wh wh' : Int32} : ∀ (R : List pRow), aAns P π 0 wh 0 R = aAns P π 0 wh' 0 R
  | [] => rfl
  | A :: r => by
    simp only [aAns]
    rw [aAns_no r]
    congr 1
    unfold aAns1
    cases aFnd π A.2.1 with
    | none => rfl
    | some z =>
      show (if P 5 z.2.1 = wh ∧ (¬ (0 : Int32) = 0 ∨ ¬ (0 : Int32) = 0) then _ else []) = if P 5 z.2.1 = wh' ∧ (¬ (0 : Int32) = 0 ∨ ¬ (0 : Int32) = 0) then _ else []
      rw [if_neg (fun q => q.2.elim (fun q => q rfl) (fun q => q rfl)), if_neg (fun q => q.2.elim (fun q => q rfl) (fun q => q rfl))]
/-- the rows behind a value's answer -/
theorem qL_made {R : List pRow} {v w : Nat} (hm : ¬ P 0 (tyP P t0 π) ≤ 1) (h5 : P 5 v = nI w) (bw : w < 8) : qL P t0 R π (vAn P t0 R π v) = aAns P π 1 (P 5 v) 1 R ∧ vAn P t0 R π v = w := by
  have e : vAn P t0 R π v = w := by
    unfold vAn
    rw [if_neg hm, h5]
    exact tnI (by omega)
  refine ⟨?_, e⟩
  rw [e]
  unfold qL qMd qW qI
  rw [if_neg hm, if_neg hm, if_neg hm, h5]
theorem qL_n1 {R : List pRow} {v : Nat} (hm : P 0 (tyP P t0 π) ≤ 1) (hx : P 5 v ∈ qSr P π R) : qL P t0 R π (vAn P t0 R π v) = aAns P π 0 (P 5 v) 1 R := by
  obtain ⟨h1, h2⟩ := ixS_at hx
  unfold qL qMd qW qI vAn
  rw [if_pos hm, if_pos hm, if_pos hm, if_pos hm, if_pos h2, h1]
theorem qL_n0 {R : List pRow} {v : Nat} (hm : P 0 (tyP P t0 π) ≤ 1) (hx : ¬ P 5 v ∈ qSr P π R) : qL P t0 R π (vAn P t0 R π v) = aAns P π 0 (P 5 v) 0 R := by
  have h1 := ixS_no hx
  unfold qL qMd qI vAn
  rw [if_pos hm, if_pos hm, if_pos hm, h1, if_neg (Nat.lt_irrefl _)]
  exact aAns_no R
/-- the paths that a row speaks of -/
def mnP (A : pRow) (ρ : List Nat) : Prop := (∃ q ∈ A.2.1, q.1 = ρ) ∨ ∃ k, A.2.2 k = some ρ
theorem aS_m : ∀ (f : Nat) (done pend : List (List Nat × Nat)) (bd : Nat → Option (List Nat)), ∀ B ∈ aS P f done pend bd, ∀ ρ, ((∃ q ∈ B.1, q.1 = ρ) ∨ ∃ k, B.2 k = some ρ) → (∃ q ∈ done, q.1 = ρ) ∨ (∃ q ∈ pend, q.1 = ρ) ∨ ∃ k, bd k = some ρ
  | 0, _, _, _, B, hB, _, _ => by cases hB
  | f + 1, done, [], bd, B, hB, ρ, h => by
    simp only [aS, List.mem_singleton] at hB
    subst hB
    exact h.elim Or.inl (fun q => Or.inr (Or.inr q))
  | f + 1, done, q :: r, bd, B, hB, ρ, h => by
    simp only [aS] at hB
    have up : ∀ (y : List Nat × Nat), y.1 = q.1 → ∀ bd' : Nat → Option (List Nat), (∀ k, bd' k = some ρ → bd k = some ρ ∨ q.1 = ρ) → (∃ z ∈ done, z.1 = ρ) ∨ (∃ z ∈ y :: r, z.1 = ρ) ∨ (∃ k, bd' k = some ρ) → (∃ z ∈ done, z.1 = ρ) ∨ (∃ z ∈ q :: r, z.1 = ρ) ∨ ∃ k, bd k = some ρ := fun y hy bd' hbd' hh => by
      rcases hh with hh | ⟨z, hz, e⟩ | ⟨k, e⟩
      · exact Or.inl hh
      · rcases List.mem_cons.mp hz with rfl | hz
        · exact Or.inr (Or.inl ⟨q, List.mem_cons_self, by rw [← hy]; exact e⟩)
        · exact Or.inr (Or.inl ⟨z, List.mem_cons_of_mem _ hz, e⟩)
      · rcases hbd' k e with e | e
        · exact Or.inr (Or.inr ⟨k, e⟩)
        · exact Or.inr (Or.inl ⟨q, List.mem_cons_self, e⟩)
    split at hB
    · rcases aS_m f done r bd B hB ρ h with hh | ⟨z, hz, e⟩ | hh
      · exact Or.inl hh
      · exact Or.inr (Or.inl ⟨z, List.mem_cons_of_mem _ hz, e⟩)
      · exact Or.inr (Or.inr hh)
    · split at hB
      · refine up (q.1, tn (P 6 (4 * q.2))) rfl _ (fun k hk => ?_) (aS_m f done _ _ B hB ρ h)
        unfold upB at hk
        split at hk
        · exact Or.inr (Option.some.inj hk)
        · exact Or.inl hk
      · split at hB
        · rcases List.mem_append.mp hB with hB | hB
          · exact up (q.1, tn (P 6 (4 * q.2))) rfl bd (fun k hk => Or.inl hk) (aS_m f done _ _ B hB ρ h)
          · exact up (q.1, tn (P 6 (4 * q.2 + 1))) rfl bd (fun k hk => Or.inl hk) (aS_m f done _ _ B hB ρ h)
        · rcases aS_m f _ r bd B hB ρ h with ⟨z, hz, e⟩ | ⟨z, hz, e⟩ | hh
          · rcases List.mem_append.mp hz with hz | hz
            · exact Or.inl ⟨z, hz, e⟩
            · exact Or.inr (Or.inl ⟨z, by rw [List.mem_singleton.mp hz]; exact List.mem_cons_self, e⟩)
          · exact Or.inr (Or.inl ⟨z, List.mem_cons_of_mem _ hz, e⟩)
          · exact Or.inr (Or.inr hh)
theorem aF_m {cp : Nat → Nat} : ∀ (C : Nat), ∀ B ∈ aF P ([] : List Nat) cp C, ∀ ρ, mnP B ρ → ρ = []
  | 0, B, hB, _, _ => by cases hB
  | C + 1, B, hB, ρ, h => by
    rcases List.mem_append.mp hB with hB | hB
    · exact aF_m C B hB ρ h
    · obtain ⟨D, hD, rfl⟩ := List.mem_map.mp hB
      rcases aS_m _ _ _ _ D hD ρ h with ⟨z, hz, -⟩ | ⟨z, hz, e⟩ | ⟨k, e⟩
      · cases hz
      · rw [List.mem_singleton.mp hz] at e
        exact e.symm
      · cases e
theorem aAns_m {md wh is : Int32} : ∀ (L : List pRow), ∀ B ∈ aAns P π md wh is L, ∀ ρ, mnP B ρ → (∃ A ∈ L, mnP A ρ) ∨ ∃ A ∈ L, ∃ k, (π, k) ∈ A.2.1 ∧ P 5 k = wh ∧ ¬ md = 0 ∧ ∃ i, i < aAr P k ∧ ρ = π ++ [4 * tn wh + i]
  | [], B, hB, _, _ => by cases hB
  | A :: r, B, hB, ρ, h => by
    rcases List.mem_append.mp hB with hB | hB
    · unfold aAns1 at hB
      cases hf : aFnd π A.2.1 with
      | none =>
        rw [hf] at hB
        rw [List.mem_singleton.mp hB] at h
        exact Or.inl ⟨A, List.mem_cons_self, h⟩
      | some z =>
        rw [hf] at hB
        simp only at hB
        have hz := aFnd_some hf
        split at hB
        · rename_i hw
          obtain ⟨D, hD, rfl⟩ := List.mem_map.mp hB
          rcases aS_m _ _ _ _ D hD ρ h with ⟨y, hy, -⟩ | ⟨y, hy, e⟩ | ⟨k, e⟩
          · cases hy
          · rcases List.mem_append.mp hy with hy | hy
            · exact Or.inl ⟨A, List.mem_cons_self, Or.inl ⟨y, by rw [hz]; simp [hy], e⟩⟩
            · rcases List.mem_append.mp hy with hy | hy
              · obtain ⟨i, hi, rfl⟩ := List.mem_map.mp hy
                have hi2 := List.mem_range.mp hi
                split at hi2
                · omega
                · rename_i hmd
                  exact Or.inr ⟨A, List.mem_cons_self, z.2.1, by rw [hz]; simp, hw.1, hmd, i, hi2, e.symm⟩
              · exact Or.inl ⟨A, List.mem_cons_self, Or.inl ⟨y, by rw [hz]; simp [hy], e⟩⟩
          · exact Or.inl ⟨A, List.mem_cons_self, Or.inr ⟨k, e⟩⟩
        · cases hB
    · rcases aAns_m r B hB ρ h with ⟨D, hD, e⟩ | ⟨D, hD, e⟩
      · exact Or.inl ⟨D, List.mem_cons_of_mem _ hD, e⟩
      · exact Or.inr ⟨D, List.mem_cons_of_mem _ hD, e⟩
theorem hDr_fu {gs : Int32} : ∀ (f f' : Nat) (L : List pRow), L.length ≤ f → L.length ≤ f' → hDr P gs f L = hDr P gs f' L
  | 0, f', L, h, _ => by
    rw [List.length_eq_zero_iff.mp (Nat.le_zero.mp h)]
    cases f' <;> rfl
  | f + 1, 0, L, _, h => by
    rw [List.length_eq_zero_iff.mp (Nat.le_zero.mp h)]
    rfl
  | f + 1, f' + 1, [], _, _ => rfl
  | f + 1, f' + 1, A :: r, h, h' => by
    simp only [hDr]
    have hl : (aOt A.1 (A :: r)).length ≤ r.length := by
      simp only [aOt, if_true]
      exact aOt_len r
    simp only [List.length_cons] at h h'
    rw [hDr_fu f f' (aOt A.1 (A :: r)) (by omega) (by omega)]
theorem hDr_drop {gs : Int32} {A : pRow} {r : List pRow} (h1 : A.2.1 = []) (h2 : ¬ P 12 A.1 = 0) (h3 : ¬ (gs >>> (nI A.1 &&& 31)) &&& 1 = 1) : hDr P gs (A :: r).length (A :: r) = hDr P gs (aOt A.1 (A :: r)).length (aOt A.1 (A :: r)) := by
  simp only [List.length_cons, hDr]
  rw [if_pos ⟨h1, h2, h3⟩]
  have hl : (aOt A.1 (A :: r)).length ≤ r.length := by
    simp only [aOt, if_true]
    exact aOt_len r
  exact hDr_fu _ _ _ hl (Nat.le_refl _)
theorem hDr_keep {gs : Int32} {A : pRow} {r : List pRow} (h : ¬ (A.2.1 = [] ∧ ¬ P 12 A.1 = 0 ∧ ¬ (gs >>> (nI A.1 &&& 31)) &&& 1 = 1)) : hDr P gs (A :: r).length (A :: r) = A :: r := by
  simp only [List.length_cons, hDr]
  rw [if_neg h]
end NB
