/-! Nodes that are made later leave the tree as it is; the longest way by leaves and by questions; unused cases -/
section NF
variable {P P' : Nat → Nat → Int32} {N t0 C : Nat} {pos : Nat → List Nat} {cp : Nat → Nat}
/-- P' is P with other nodes from N on -/
def agP (P P' : Nat → Nat → Int32) (N : Nat) : Prop := P' 0 = P 0 ∧ P' 1 = P 1 ∧ P' 2 = P 2 ∧ (∀ k, k < N → P' 3 k = P 3 k ∧ P' 4 k = P 4 k ∧ P' 5 k = P 5 k ∧ P' 7 k = P 7 k ∧ P' 8 k = P 8 k) ∧ ∀ i, i < 4 * N → P' 6 i = P 6 i
theorem agP_rf : agP P P N := ⟨rfl, rfl, rfl, fun _ _ => ⟨rfl, rfl, rfl, rfl, rfl⟩, fun _ _ => rfl⟩
theorem tyP_ag (g : agP P P' N) : ∀ (π : List Nat) (t : Nat), tyP P' t π = tyP P t π
  | [], t => rfl
  | e :: r, t => by
    simp only [tyP]
    rw [g.2.2.1, tyP_ag g r]
theorem aAr_ag (g : agP P P' N) {k : Nat} (h : k < N) : aAr P' k = aAr P k := by
  unfold aAr
  rw [g.2.1, (g.2.2.2.1 k h).2.1, (g.2.2.2.1 k h).2.2.1]
theorem aS_ag {α : Type} (wf : wfN P N) (g : agP P P' N) : ∀ (f : Nat) (done pend : List (α × Nat)) (bd : Nat → Option α), (∀ q ∈ pend, q.2 < N) → aS P' f done pend bd = aS P f done pend bd
  | 0, _, _, _, _ => rfl
  | f + 1, _, [], _, _ => rfl
  | f + 1, done, q :: r, bd, h => by
    have hq := h q List.mem_cons_self
    have hr : ∀ y ∈ r, y.2 < N := fun y hy => h y (List.mem_cons_of_mem _ hy)
    have bN := wf.1
    simp only [aS]
    rw [(g.2.2.2.1 _ hq).1]
    by_cases h0 : P 3 q.2 = 0
    · rw [if_pos h0, if_pos h0]
      exact aS_ag wf g f _ _ _ hr
    · rw [if_neg h0, if_neg h0]
      by_cases h4 : P 3 q.2 = 4
      · obtain ⟨w, v, -, -, hv, ev, -⟩ := (wf.2 _ hq).2.1 h4
        rw [if_pos h4, if_pos h4, g.2.2.2.2 _ (by omega), (g.2.2.2.1 _ hq).2.2.1]
        refine aS_ag wf g f _ _ _ (fun y hy => ?_)
        rcases List.mem_cons.mp hy with rfl | hy
        · show tn (P 6 (4 * q.2)) < N
          rw [ev, tnI (by omega)]
          omega
        · exact hr y hy
      · rw [if_neg h4, if_neg h4]
        by_cases h3 : P 3 q.2 = 3
        · obtain ⟨v, v', hv, ev, hv', ev', -⟩ := (wf.2 _ hq).2.2 h3
          rw [if_pos h3, if_pos h3, g.2.2.2.2 _ (by omega), g.2.2.2.2 _ (by omega)]
          rw [aS_ag wf g f _ _ _ (fun y hy => ?_), aS_ag wf g f _ _ _ (fun y hy => ?_)]
          · rcases List.mem_cons.mp hy with rfl | hy
            · show tn (P 6 (4 * q.2 + 1)) < N
              rw [ev', tnI (by omega)]
              omega
            · exact hr y hy
          · rcases List.mem_cons.mp hy with rfl | hy
            · show tn (P 6 (4 * q.2)) < N
              rw [ev, tnI (by omega)]
              omega
            · exact hr y hy
        · rw [if_neg h3, if_neg h3]
          exact aS_ag wf g f _ _ _ hr
theorem aL_ag {α : Type} (wf : wfN P N) (g : agP P P' N) {ws : List (α × Nat)} {bd : Nat → Option α} (h : ∀ q ∈ ws, q.2 < N) : aL P' ws bd = aL P ws bd := aS_ag wf g _ _ _ _ h
theorem aF_ag {α : Type} {o : α} (wf : wfN P N) (g : agP P P' N) : ∀ C, (∀ c, c < C → cp c < N) → aF P' o cp C = aF P o cp C
  | 0, _ => rfl
  | C + 1, h => by
    simp only [aF]
    rw [aF_ag wf g C (fun c hc => h c (by omega)), aL_ag wf g (fun q hq => by rw [List.mem_singleton.mp hq]; exact h C (by omega))]
/-- rows whose wishes are typed: a wish for a constructor's place is a constructor -/
theorem md_kd (wk : wfK P N) (ht0 : ∀ π, tyP P t0 π < 16) {A : pRow} {π : List Nat} (h : rOk P N pos t0 A) : ∀ q ∈ A.2.1, q.1 = π → ¬ qMd P t0 π = 0 → P 3 q.2 = 2 := by
  intro q hq e hm
  obtain ⟨⟨hN, -, hty⟩, h0, h4, h3⟩ := h.1 q hq
  obtain ⟨hk, h1, -⟩ := wk q.2 hN
  rcases hk with z | z | z | z | z
  · exact absurd z h0
  · exfalso
    have h1 := h1 z
    rw [hty, tnI (by have := ht0 q.1; omega), e] at h1
    refine hm ?_
    unfold qMd
    rw [if_pos (by rw [h1]; decide)]
  · exact z
  · exact absurd z h3
  · exact absurd z h4
theorem aAns1_ag (wf : wfA P N pos) (g : agP P P' N) {A : pRow} {π : List Nat} {md wh is : Int32} (h : rOk P N pos t0 A) (hkd : ∀ q ∈ A.2.1, q.1 = π → ¬ md = 0 → P 3 q.2 = 2) : aAns1 P' π md wh is A = aAns1 P π md wh is A := by
  unfold aAns1
  cases hz : aFnd π A.2.1 with
  | none => rfl
  | some z =>
    have e := aFnd_some hz
    have hm : (π, z.2.1) ∈ A.2.1 := by rw [e]; simp
    have hN : z.2.1 < N := (h.1 _ hm).1.1
    have bN := wf.1.1
    simp only
    rw [(g.2.2.2.1 _ hN).2.2.1, aAr_ag g hN]
    split
    · have hN1 : ∀ q ∈ z.1, q.2 < N := fun q hq => (h.1 q (by rw [e]; exact List.mem_append_left _ hq)).1.1
      have hN2 : ∀ q ∈ z.2.2, q.2 < N := fun q hq => (h.1 q (by rw [e]; exact List.mem_append_right _ (List.mem_cons_of_mem _ hq))).1.1
      by_cases hmd : md = 0
      · simp only [if_pos hmd]
        have ek : ∀ (Q : Nat → Nat → Int32), aKs Q (fun i => π ++ [4 * tn wh + i]) z.2.1 0 = [] := fun _ => rfl
        rw [ek, ek, List.nil_append]
        rw [aL_ag wf.1 g (fun q hq => ?_)]
        rcases List.mem_append.mp hq with hq | hq
        · exact hN1 q hq
        · exact hN2 q hq
      · simp only [if_neg hmd]
        obtain ⟨-, -, -, h2⟩ := wf.2.2 _ hN
        obtain ⟨-, ar4, -, -, hpt⟩ := h2 (hkd _ hm rfl hmd)
        have ek : aKs P' (fun i => π ++ [4 * tn wh + i]) z.2.1 (aAr P z.2.1) = aKs P (fun i => π ++ [4 * tn wh + i]) z.2.1 (aAr P z.2.1) := by
          unfold aKs
          refine List.map_congr_left (fun i hi => ?_)
          have := List.mem_range.mp hi
          rw [g.2.2.2.2 _ (by omega)]
        rw [ek, aL_ag wf.1 g (fun q hq => ?_)]
        rcases List.mem_append.mp hq with hq | hq
        · exact hN1 q hq
        · rcases List.mem_append.mp hq with hq | hq
          · unfold aKs at hq
            obtain ⟨i, hi, rfl⟩ := List.mem_map.mp hq
            obtain ⟨v, hv, ev, -⟩ := hpt i (List.mem_range.mp hi)
            show tn (P 6 (4 * z.2.1 + i)) < N
            rw [ev, tnI (by omega)]
            omega
          · exact hN2 q hq
    · rfl
theorem aAns_ag (wf : wfA P N pos) (g : agP P P' N) {π : List Nat} {md wh is : Int32} : ∀ (L : List pRow), (∀ A ∈ L, rOk P N pos t0 A) → (∀ A ∈ L, ∀ q ∈ A.2.1, q.1 = π → ¬ md = 0 → P 3 q.2 = 2) → aAns P' π md wh is L = aAns P π md wh is L
  | [], _, _ => rfl
  | A :: r, h, hk => by
    simp only [aAns]
    rw [aAns1_ag wf g (h A List.mem_cons_self) (hk A List.mem_cons_self), aAns_ag wf g r (fun B hB => h B (List.mem_cons_of_mem _ hB)) (fun B hB => hk B (List.mem_cons_of_mem _ hB))]
/-- wishes of nodes below N -/
def rN (N : Nat) (L : List pRow) : Prop := ∀ A ∈ L, ∀ q ∈ A.2.1, q.2 < N
theorem aNs_ag (g : agP P P' N) {π : List Nat} : ∀ (L : List pRow), rN N L → aNs P' π L = aNs P π L
  | [], _ => rfl
  | A :: r, h => by
    simp only [aNs]
    rw [aNs_ag g r (fun B hB => h B (List.mem_cons_of_mem _ hB))]
    cases hz : aFnd π A.2.1 with
    | none => rfl
    | some z =>
      have e := aFnd_some hz
      have hm : (π, z.2.1) ∈ A.2.1 := by rw [e]; simp
      simp only
      rw [(g.2.2.2.1 _ (h A List.mem_cons_self _ hm)).2.2.1]
theorem qSr_ag (g : agP P P' N) {π : List Nat} {L : List pRow} (h : rN N L) : qSr P' π L = qSr P π L := by
  unfold qSr
  rw [aNs_ag g L h]
theorem qN_ag (g : agP P P' N) {π : List Nat} {L : List pRow} (h : rN N L) : qN P' t0 L π = qN P t0 L π := by
  unfold qN
  rw [tyP_ag g, g.1, qSr_ag g h]
theorem qMd_ag (g : agP P P' N) {π : List Nat} : qMd P' t0 π = qMd P t0 π := by
  unfold qMd
  rw [tyP_ag g, g.1]
theorem qW_ag (g : agP P P' N) {π : List Nat} {L : List pRow} {a : Nat} (h : rN N L) : qW P' t0 L π a = qW P t0 L π a := by
  unfold qW
  rw [tyP_ag g, g.1, qSr_ag g h]
theorem qI_ag (g : agP P P' N) {π : List Nat} {L : List pRow} {a : Nat} (h : rN N L) : qI P' t0 L π a = qI P t0 L π a := by
  unfold qI
  rw [tyP_ag g, g.1, qSr_ag g h]
theorem qX_ag (g : agP P P' N) {π : List Nat} {L : List pRow} {a : Nat} (h : rN N L) : qX P' t0 L π a = qX P t0 L π a := by
  unfold qX
  rw [tyP_ag g, g.1, qW_ag g h]
theorem rOk_N {L : List pRow} (h : ∀ A ∈ L, rOk P N pos t0 A) : rN N L := fun A hA q hq => ((h A hA).1 q hq).1.1
theorem qL_ag (wf : wfA P N pos) (wk : wfK P N) (ht0 : ∀ π, tyP P t0 π < 16) (g : agP P P' N) {π : List Nat} {L : List pRow} {a : Nat} (h : ∀ A ∈ L, rOk P N pos t0 A) : qL P' t0 L π a = qL P t0 L π a := by
  unfold qL
  rw [qMd_ag g, qW_ag g (rOk_N h), qI_ag g (rOk_N h)]
  exact aAns_ag wf g L h (fun A hA => md_kd wk ht0 (h A hA))
theorem aTk_cg {T T' : List Nat → List Int32} (h : ∀ π, T' π = T π) {π : List Nat} {c : Nat} : ∀ (a k : Nat), aTk T' π c k a = aTk T π c k a
  | 0, _ => rfl
  | a + 1, k => by
    simp only [aTk]
    rw [h, aTk_cg h a (k + 1)]
theorem aT_ag (g : agP P P' N) {an : List Nat → Int32 × Int32} : ∀ (f : Nat) (π : List Nat), aT P' t0 an f π = aT P t0 an f π
  | 0, _ => rfl
  | f + 1, π => by
    simp only [aT]
    rw [g.2.1, tyP_ag g, aTk_cg (aT_ag g f)]
theorem stF_ag (g : agP P P' N) {an : aAn} {way : Nat} {st : aSt} : stF P' t0 an way st = stF P t0 an way st := by
  unfold stF
  rw [aT_ag g]
theorem aOt_rOk {c : Nat} {L : List pRow} (h : ∀ A ∈ L, rOk P N pos t0 A) : ∀ A ∈ aOt c L, rOk P N pos t0 A := fun A hA => h A (aOt_mem hA).1
theorem aB_ag (wf : wfA P N pos) (wk : wfK P N) (h16 : t0 < 16) (ht0 : ∀ π, tyP P t0 π < 16) (g : agP P P' N) (g12 : P' 12 = P 12) : ∀ (f : Nat) (L : List pRow) (up via : Int32) (way : Nat) (an : aAn) (st : aSt), (∀ A ∈ L, rOk P N pos t0 A) → aB P' t0 f L up via way an st = aB P t0 f L up via way an st
  | 0, _, _, _, _, _, _, _ => rfl
  | f + 1, [], up, via, way, an, st, _ => by
    simp only [aB]
    rw [stF_ag g]
  | f + 1, A :: r, up, via, way, an, st, h => by
    simp only [aB]
    cases hA : A.2.1 with
    | nil =>
      simp only
      rw [g12, aB_ag wf wk h16 ht0 g g12 f _ up via way an _ (aOt_rOk h)]
    | cons q ws =>
      simp only
      rw [qN_ag g (rOk_N h)]
      have e : ∀ a, qL P' t0 (A :: r) q.1 a = qL P t0 (A :: r) q.1 a := fun a => qL_ag wf wk ht0 g h
      have e2 : ∀ a, qX P' t0 (A :: r) q.1 a = qX P t0 (A :: r) q.1 a := fun a => qX_ag g (rOk_N h)
      have e3 : ∀ a up via way an st', aB P' t0 f (qL P t0 (A :: r) q.1 a) up via way an st' = aB P t0 f (qL P t0 (A :: r) q.1 a) up via way an st' := fun a up via way an st' =>
        aB_ag wf wk h16 ht0 g g12 f _ up via way an st' (aAns_ok wf h16 _ h (fun B hB => md_kd wk ht0 (h B hB)))
      simp only [e, e2, e3]
theorem tyP_lt (h2 : ∀ k, ∃ v, v < 16 ∧ P 2 k = nI v) : ∀ (π : List Nat) (t : Nat), t < 16 → tyP P t π < 16
  | [], t, h => h
  | e :: r, t, h => by
    simp only [tyP]
    obtain ⟨v, hv, ev⟩ := h2 (32 * t + e)
    rw [ev, tnI (by omega)]
    exact tyP_lt h2 r v hv
theorem aTree_ag (wf : wfA P N pos) (wk : wfK P N) (h16 : t0 < 16) (ht0 : ∀ π, tyP P t0 π < 16) (g : agP P P' N) (g12 : P' 12 = P 12) (hcp : wfC P N pos t0 C cp) : aTree P' t0 cp C = aTree P t0 cp C := by
  have hF : aF P' ([] : List Nat) cp C = aF P [] cp C := aF_ag wf.1 g C (fun c hc => (hcp c hc).2.1)
  unfold aTree
  rw [hF]
  split
  · rfl
  · exact aB_ag wf wk h16 ht0 g g12 600 _ _ _ _ _ _ (fun A hA => (aF_ok wf hcp C (Nat.le_refl _) A hA).1)
/-- the longest way: what a piece of the tree adds -/
def lgA (way : Nat) (st st' : aSt) : Prop := ∃ Y, st'.2.2.2.2.2.2.1 = max st.2.2.2.2.2.2.1 (max way Y) ∧ st'.2.2.2.2.2.2.2 = max st.2.2.2.2.2.2.2 Y
theorem aBs_lg {F : Nat → aSt → Option aSt} {way : Nat} (hF : ∀ a st st', F a st = some st' → lgA way st st') : ∀ (k a : Nat) (st st' : aSt), aBs F k a st = some st' → (k = 0 ∧ st' = st) ∨ lgA way st st'
  | 0, a, st, st', h => by
    simp only [aBs, Option.some.injEq] at h
    exact Or.inl ⟨rfl, h.symm⟩
  | k + 1, a, st, st', h => by
    simp only [aBs] at h
    cases hf : F a st with
    | none =>
      rw [hf] at h
      cases h
    | some st1 =>
      rw [hf] at h
      obtain ⟨Y, y1, y2⟩ := hF a st st1 hf
      rcases aBs_lg hF k (a + 1) st1 st' h with ⟨-, rfl⟩ | ⟨Y', z1, z2⟩
      · exact Or.inr ⟨Y, y1, y2⟩
      · refine Or.inr ⟨max Y Y', ?_, ?_⟩
        · rw [z1, y1]
          omega
        · rw [z2, y2]
          omega
theorem qN_pos {R : List pRow} {π : List Nat} : 0 < qN P t0 R π := by
  unfold qN
  split
  · omega
  · rename_i h
    have : 2 ≤ tn (P 0 (tyP P t0 π)) := by
      rw [Int32.le_iff_toInt_le, show (1 : Int32).toInt = 1 by decide] at h
      unfold tn
      omega
    omega
theorem aB_lg : ∀ (f : Nat) (L : List pRow) (up via : Int32) (way : Nat) (an : aAn) (st st' : aSt), aB P t0 f L up via way an st = some st' → lgA way st st'
  | 0, _, _, _, _, _, _, _, h => by cases h
  | f + 1, [], up, via, way, an, st, st', h => by
    simp only [aB, Option.some.injEq] at h
    subst h
    exact ⟨0, by simp [stF], by simp [stF]⟩
  | f + 1, A :: r, up, via, way, an, st, st', h => by
    simp only [aB] at h
    cases hA : A.2.1 with
    | nil =>
      rw [hA] at h
      simp only at h
      by_cases hg : P 12 A.1 = 0
      · rw [if_pos hg] at h
        simp only [Option.some.injEq] at h
        subst h
        exact ⟨0, by simp [stT], by simp [stT]⟩
      · rw [if_neg hg] at h
        obtain ⟨Y, y1, y2⟩ := aB_lg f _ _ _ _ _ _ _ h
        refine ⟨Y, ?_, ?_⟩
        · rw [y1]
          simp only [stT]
          omega
        · rw [y2]
          rfl
    | cons q ws =>
      rw [hA] at h
      simp only at h
      split at h
      · cases h
      · split at h
        · cases h
        · have hF : ∀ a s1 s2, (if 80 < (qL P t0 (A :: r) q.1 a).length then none else aB P t0 f (qL P t0 (A :: r) q.1 a) (nI st.1.length) (nI a) (way + 1) (anU an q.1 (qX P t0 (A :: r) q.1 a)) s1) = some s2 → lgA (way + 1) s1 s2 := by
            intro a s1 s2 h1
            split at h1
            · cases h1
            · exact aB_lg f _ _ _ _ _ _ _ h1
          rcases aBs_lg hF _ _ _ _ h with ⟨z, -⟩ | ⟨Y, y1, y2⟩
          · exact absurd z (Nat.pos_iff_ne_zero.mp qN_pos)
          · refine ⟨max (way + 1) Y, ?_, ?_⟩
            · rw [y1]
              simp only [stQ]
              omega
            · rw [y2]
              simp only [stQ]
              omega
theorem aTree_lg {st : aSt} (h : aTree P t0 cp C = some st) : st.2.2.2.2.2.2.1 = st.2.2.2.2.2.2.2 := by
  unfold aTree at h
  split at h
  · cases h
  · obtain ⟨Y, y1, y2⟩ := aB_lg _ _ _ _ _ _ _ _ h
    rw [y1, y2]
    simp [st0]
/-- what is behind the answers -/
theorem aTree_bhd (h0 : ∀ t, tn (P 0 t) ≤ 9) {st : aSt} (h : aTree P t0 cp C = some st) : (aF P ([] : List Nat) cp C).length ≤ 80 ∧ bhd P st.1 (-1) 0 (aF P [] cp C) ∧ upOk st.1 ∧ st.1.length ≤ 1000 ∧
    ∀ i q, st.1[i]? = some q → q.1.length ≤ 800 ∧ ∀ k, k < qN P t0 q.1 q.2.1 → bhd P st.1 (nI i) (nI k) (qL P t0 q.1 q.2.1 k) ∧ (qL P t0 q.1 q.2.1 k).length ≤ 80 := by
  unfold aTree at h
  split at h
  · cases h
  · rename_i h80
    obtain ⟨e, -, hq, hb, -⟩ := aB_bhd h0 _ _ _ _ _ _ _ _ h (fun j q hj => by simp [st0] at hj) (Or.inl rfl) (by simp [st0]) (by simp [st0])
    exact ⟨by omega, hb, hq.2.1, hq.1, fun i q hi => hq.2.2 i q (by simp [st0]) hi⟩
/-- what is told of what is missing is not long -/
theorem aBs_inv {F : Nat → aSt → Option aSt} {K : Nat} {I : aSt → Prop} (hF : ∀ a st st', a < K → F a st = some st' → I st → I st') : ∀ (k a : Nat) (st st' : aSt), a + k ≤ K → aBs F k a st = some st' → I st → I st'
  | 0, a, st, st', _, h, hI => by
    simp only [aBs, Option.some.injEq] at h
    rw [← h]
    exact hI
  | k + 1, a, st, st', hk, h, hI => by
    simp only [aBs] at h
    cases hf : F a st with
    | none =>
      rw [hf] at h
      cases h
    | some st1 =>
      rw [hf] at h
      exact aBs_inv hF k (a + 1) st1 st' (by omega) h (hF a st st1 (by omega) hf hI)
theorem aB_ml (wf : wfA P N pos) (wk : wfK P N) (h16 : t0 < 16) (ht0 : ∀ π, tyP P t0 π < 16) (h0 : ∀ t, tn (P 0 t) ≤ 9) (h1 : ∀ k, ∃ v, v ≤ 4 ∧ P 1 k = nI v) : ∀ (f : Nat) (L : List pRow) (up via : Int32) (way : Nat) (an : aAn) (st st' : aSt), aB P t0 f L up via way an st = some st' → (∀ A ∈ L, rOk P N pos t0 A) → anOk P t0 an → (∀ π, ¬ (an π).1 = 0 → ∃ v, v < N ∧ pos v = π) → st.2.2.2.2.1.length ≤ 4700 → st'.2.2.2.2.1.length ≤ 4700
  | 0, _, _, _, _, _, _, _, h, _, _, _, _ => by cases h
  | f + 1, [], up, via, way, an, st, st', h, _, ha, hw, hm => by
    simp only [aB, Option.some.injEq] at h
    subst h
    show (if st.2.2.1 = 0 then aT P t0 an 26 [] else st.2.2.2.2.1).length ≤ 4700
    split
    · exact aT_bound ha wf.1.1 hw _ _
    · exact hm
  | f + 1, A :: r, up, via, way, an, st, st', h, hL, ha, hw, hm => by
    simp only [aB] at h
    cases hA : A.2.1 with
    | nil =>
      rw [hA] at h
      simp only at h
      by_cases hg : P 12 A.1 = 0
      · rw [if_pos hg] at h
        simp only [Option.some.injEq] at h
        subst h
        exact hm
      · rw [if_neg hg] at h
        exact aB_ml wf wk h16 ht0 h0 h1 f _ _ _ _ _ _ _ h (aOt_rOk hL) ha hw hm
    | cons q ws =>
      rw [hA] at h
      simp only at h
      split at h
      · cases h
      · split at h
        · cases h
        · refine aBs_inv (K := qN P t0 (A :: r) q.1) (I := fun st => st.2.2.2.2.1.length ≤ 4700) (fun a s1 s2 hk h1' hI => ?_) _ 0 _ _ (by omega) h hm
          split at h1'
          · cases h1'
          · have hq : q ∈ A.2.1 := by rw [hA]; exact List.mem_cons_self
            obtain ⟨hqN, hqp, -⟩ := ((hL A List.mem_cons_self).1 q hq).1
            refine aB_ml wf wk h16 ht0 h0 h1 f _ _ _ _ _ _ _ h1' (aAns_ok wf h16 _ hL (fun B hB => md_kd wk ht0 (hL B hB))) (anOk_U ha ?_) (fun π hπ => ?_) hI
            · unfold qX
              split
              · exact Or.inl rfl
              · rename_i hty
                unfold qN at hk
                rw [if_neg hty] at hk
                obtain ⟨ar, har, ear⟩ := h1 (8 * tyP P t0 q.1 + a)
                exact Or.inr ⟨a, ar, by have := h0 (tyP P t0 q.1); omega, rfl, har, ear, ht0 _⟩
            · unfold anU at hπ
              split at hπ
              · rename_i e
                exact ⟨q.2, hqN, by rw [e, hqp]⟩
              · exact hw π hπ
theorem aTree_ml (wf : wfA P N pos) (wk : wfK P N) (h16 : t0 < 16) (ht0 : ∀ π, tyP P t0 π < 16) (h0 : ∀ t, tn (P 0 t) ≤ 9) (h1 : ∀ k, ∃ v, v ≤ 4 ∧ P 1 k = nI v) (hcp : wfC P N pos t0 C cp) {st : aSt} (h : aTree P t0 cp C = some st) : st.2.2.2.2.1.length ≤ 4700 := by
  unfold aTree at h
  split at h
  · cases h
  · exact aB_ml wf wk h16 ht0 h0 h1 _ _ _ _ _ _ _ _ h (fun A hA => (aF_ok wf hcp C (Nat.le_refl _) A hA).1) (fun π => Or.inl rfl) (fun π hπ => absurd rfl hπ) (by simp [st0])
end NF
/-- unused, both sides -/
theorem nI_ad {b : Nat} (h : b + 1 < 2 ^ 31) : nI b + 1 = nI (b + 1) := i_nI (add_hi (nI_hi (by omega)) (show (1 : Int32).toInt = ((1 : Nat) : Int) by decide) h)
theorem nI_sb {b : Nat} (h : b + 1 < 2 ^ 31) : nI (b + 1) + -1 = nI b := by
  refine i_nI ?_
  rw [Int32.toInt_add, nI_hi h, show (-1 : Int32).toInt = -1 by decide, Int.bmod_def]
  omega
theorem nI_inj {b b' : Nat} (h : b < 2 ^ 31) (h' : b' < 2 ^ 31) (e : nI b = nI b') : b = b' := (eq_hi (nI_hi h) (nI_hi h')).mp e
theorem un_p {s : mS} {tk : Int32} {K xx : Nat} (h16 : s.1 16 = nI K) (hK : K ≤ 20) (h19 : ¬ s.1 19 = 0) (h24 : s.1 24 = tk) (bx : xx < 2 ^ 31) : ∀ (w k b v : Nat), k + w = K → K < k + v → b ≤ xx → b ≤ k → unF tk (nI xx) w k (nI b) = rUn s v (nI k) (nI (xx - b))
  | _, k, b, 0, h1, h2, h3, h4 => by omega
  | 0, k, b, v + 1, h1, h2, h3, h4 => by
    simp only [unF, rUn]
    rw [if_pos (Or.inl ((le_hi (by rw [h16]; exact nI_hi (by omega)) (nI_hi (by omega))).mpr (by omega)))]
  | w + 1, k, b, v + 1, h1, h2, h3, h4 => by
    simp only [unF, rUn]
    have c1 : ¬ s.1 16 ≤ nI k := fun z => by
      have := (le_hi (by rw [h16]; exact nI_hi (by omega)) (nI_hi (by omega))).mp z
      omega
    have c3 : ¬ nI (xx - b) < 0 := nlt_hi (nI_hi (by omega))
    have c4 : ¬ (s.1 16 ≤ nI k ∨ s.1 19 = 0 ∨ nI (xx - b) < 0) := fun z => z.elim c1 (fun z => z.elim h19 c3)
    rw [if_neg c4, h24]
    have e1 : nI k + 1 = nI (k + 1) := nI_ad (by omega)
    rw [e1]
    split
    · by_cases hb : b = xx
      · subst hb
        rw [if_pos rfl, if_pos (by rw [Nat.sub_self]; rfl)]
      · rw [if_neg (fun z => hb (nI_inj (by omega) bx z)), if_neg (fun z => hb (by
          have := nI_inj (b := xx - b) (b' := 0) (by omega) (by omega) z
          omega)), nI_ad (by omega)]
        obtain ⟨y, hy⟩ : ∃ y, xx - b = y + 1 := ⟨xx - b - 1, by omega⟩
        rw [hy, nI_sb (by omega), un_p h16 hK h19 h24 bx w (k + 1) (b + 1) v (by omega) (by omega) (by omega) (by omega)]
        rw [show xx - (b + 1) = y by omega]
    · exact un_p h16 hK h19 h24 bx w (k + 1) b v (by omega) (by omega) h3 (by omega)
theorem un_n {tk x : Int32} (hx : x < 0) : ∀ (w k b : Nat), b + w < 2 ^ 31 → unF tk x w k (nI b) = -1
  | 0, _, _, _ => rfl
  | w + 1, k, b, h => by
    simp only [unF]
    have hb : ¬ nI b = x := fun z => nlt_hi (nI_hi (show b < 2 ^ 31 by omega)) (by rw [z]; exact hx)
    rw [if_neg hb, nI_ad (by omega), un_n hx w (k + 1) (b + 1) (by omega), un_n hx w (k + 1) b (by omega), ite_self]
theorem un_eq {s : mS} {tk x : Int32} {K : Nat} (h16 : s.1 16 = nI K) (hK : K ≤ 20) (h19 : ¬ s.1 19 = 0) (h24 : s.1 24 = tk) : unF tk x K 0 0 = rUn s 21 0 x := by
  by_cases hx : x < 0
  · have := un_n (tk := tk) hx K 0 0 (by omega)
    rw [show (0 : Int32) = nI 0 from rfl]
    rw [this]
    show _ = rUn s (20 + 1) (nI 0) x
    simp only [rUn]
    rw [if_pos (Or.inr (Or.inr hx))]
  · have := un_p (xx := tn x) h16 hK h19 h24 (by have := tn_hi hx; have := Int32.toInt_lt x; omega) K 0 0 21 (by omega) (by omega) (by omega) (by omega)
    rw [Nat.sub_zero, ← tn_nI hx] at this
    exact this
