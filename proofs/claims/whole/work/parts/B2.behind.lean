/-! The tree of questions holds, behind each answer, what the rows there ask for -/
section BX
variable {P : Nat → Nat → Int32} {t0 : Nat}
theorem aOt_lt {c : Nat} : ∀ (l : List pRow), (aOt c l).length ≤ l.length
  | [] => Nat.le_refl _
  | A :: r => by
    have := aOt_lt (c := c) r
    simp only [aOt]
    split
    · simp only [List.length_cons]
      omega
    · simp only [List.length_cons]
      omega
theorem aOt_hd {A : pRow} {r : List pRow} : (aOt A.1 (A :: r)).length ≤ r.length := by
  simp only [aOt]
  rw [if_pos trivial]
  exact aOt_lt r
/-- rows without the guarded cases that would take them -/
def aDr (P : Nat → Nat → Int32) : Nat → List pRow → List pRow
  | 0, L => L
  | _ + 1, [] => []
  | f + 1, A :: r => if A.2.1 = [] ∧ ¬ P 12 A.1 = 0 then aDr P f (aOt A.1 (A :: r)) else A :: r
def dRw (P : Nat → Nat → Int32) (L : List pRow) : List pRow := aDr P L.length L
theorem aDr_fu : ∀ (f f' : Nat) (L : List pRow), L.length ≤ f → L.length ≤ f' → aDr P f L = aDr P f' L
  | 0, f', L, h, _ => by
    rw [List.length_eq_zero_iff.mp (Nat.le_zero.mp h)]
    cases f' <;> rfl
  | f + 1, 0, L, _, h => by
    rw [List.length_eq_zero_iff.mp (Nat.le_zero.mp h)]
    rfl
  | f + 1, f' + 1, [], _, _ => rfl
  | f + 1, f' + 1, A :: r, h, h' => by
    simp only [aDr]
    have := aOt_hd (A := A) (r := r)
    simp only [List.length_cons] at h h'
    rw [aDr_fu f f' (aOt A.1 (A :: r)) (by omega) (by omega)]
theorem dRw_g {A : pRow} {r : List pRow} (h : A.2.1 = []) (hg : ¬ P 12 A.1 = 0) : dRw P (A :: r) = dRw P (aOt A.1 (A :: r)) := by
  unfold dRw
  rw [List.length_cons, aDr, if_pos ⟨h, hg⟩]
  have := aOt_hd (A := A) (r := r)
  exact aDr_fu _ _ _ (by omega) (Nat.le_refl _)
theorem dRw_k {A : pRow} {r : List pRow} (h : ¬ (A.2.1 = [] ∧ ¬ P 12 A.1 = 0)) : dRw P (A :: r) = A :: r := by
  unfold dRw
  rw [List.length_cons, aDr, if_neg h]
/-- behind that answer is the question that the rows L ask, or none -/
def bhd (P : Nat → Nat → Int32) (Qs : List qR) (up via : Int32) (L : List pRow) : Prop :=
  (∀ q ∈ Qs, q.2.2.2.1 = up → q.2.2.2.2 = via → ∃ A r w ws, dRw P L = A :: r ∧ A.2.1 = w :: ws ∧ q.1 = A :: r ∧ q.2.1 = w.1) ∧
  ∀ A r w ws, dRw P L = A :: r → A.2.1 = w :: ws → ∃ q ∈ Qs, q.2.2.2.1 = up ∧ q.2.2.2.2 = via
theorem bhd_app {Qs e : List qR} {up via : Int32} {L : List pRow} (h : bhd P Qs up via L) (he : ∀ q ∈ e, ¬ (q.2.2.2.1 = up ∧ q.2.2.2.2 = via)) : bhd P (Qs ++ e) up via L := by
  refine ⟨fun q hq h1 h2 => ?_, fun A r w ws h1 h2 => ?_⟩
  · rcases List.mem_append.mp hq with hq | hq
    · exact h.1 q hq h1 h2
    · exact absurd ⟨h1, h2⟩ (he q hq)
  · obtain ⟨q, hq, z⟩ := h.2 A r w ws h1 h2
    exact ⟨q, List.mem_append_left _ hq, z⟩
/-- a question is behind one that comes before it -/
def upOk (Qs : List qR) : Prop := ∀ j q, Qs[j]? = some q → q.2.2.2.1 = -1 ∨ ∃ i, i < j ∧ q.2.2.2.1 = nI i
/-- what a piece of the tree adds -/
def aBq (P : Nat → Nat → Int32) (t0 : Nat) (D D' : List qR) : Prop := D'.length ≤ 1000 ∧ upOk D' ∧ ∀ i q, D.length ≤ i → D'[i]? = some q → q.1.length ≤ 800 ∧ ∀ a, a < qN P t0 q.1 q.2.1 → bhd P D' (nI i) (nI a) (qL P t0 q.1 q.2.1 a) ∧ (qL P t0 q.1 q.2.1 a).length ≤ 80
theorem aBs_bhd (h0 : ∀ t, tn (P 0 t) ≤ 9) {i0 : Nat} {R : List pRow} {π : List Nat} {F : Nat → aSt → Option aSt}
    (hF : ∀ a st st', F a st = some st' → upOk st.1 → i0 < st.1.length → st.1.length ≤ 1000 → (∀ q ∈ st.1, ¬ (q.2.2.2.1 = nI i0 ∧ q.2.2.2.2 = nI a)) → (qL P t0 R π a).length ≤ 80 ∧ ∃ e, st'.1 = st.1 ++ e ∧ aBq P t0 st.1 st'.1 ∧ bhd P st'.1 (nI i0) (nI a) (qL P t0 R π a) ∧ ∀ q ∈ e, (q.2.2.2.1 = nI i0 ∧ q.2.2.2.2 = nI a) ∨ ∃ i, st.1.length ≤ i ∧ i < 1000 ∧ q.2.2.2.1 = nI i) :
    ∀ (k a : Nat) (st st' : aSt), aBs F k a st = some st' → a + k < 2 ^ 31 → upOk st.1 → i0 < st.1.length → st.1.length ≤ 1000 → (∀ q ∈ st.1, q.2.2.2.1 = nI i0 → ∃ a', a' < a ∧ q.2.2.2.2 = nI a') →
    ∃ e, st'.1 = st.1 ++ e ∧ aBq P t0 st.1 st'.1 ∧ (∀ a', a ≤ a' → a' < a + k → bhd P st'.1 (nI i0) (nI a') (qL P t0 R π a') ∧ (qL P t0 R π a').length ≤ 80) ∧ ∀ q ∈ e, (q.2.2.2.1 = nI i0 ∧ ∃ a', a ≤ a' ∧ a' < 2 ^ 31 ∧ q.2.2.2.2 = nI a') ∨ ∃ i, st.1.length ≤ i ∧ i < 1000 ∧ q.2.2.2.1 = nI i := by
  intro k
  induction k with
  | zero =>
    intro a st st' h hb hu hi hl hq
    simp only [aBs, Option.some.injEq] at h
    subst h
    refine ⟨[], by simp, ⟨hl, hu, fun i q h1 h2 => ?_⟩, fun a' h1 h2 => by omega, fun q hq => by cases hq⟩
    rw [List.getElem?_eq_none h1] at h2
    cases h2
  | succ k ih =>
    intro a st st' h hb hu hi hl hq
    simp only [aBs] at h
    cases hs : F a st with
    | none => rw [hs] at h; cases h
    | some st1 =>
      rw [hs] at h
      simp only at h
      obtain ⟨l80, e, he, ⟨b1, b2, b3⟩, bh, be⟩ := hF a st st1 hs hu hi hl (fun q hq1 z => by
        obtain ⟨a', h1, h2⟩ := hq q hq1 z.1
        exact nI_ne (by omega) (by omega) (by omega) (z.2.symm.trans h2))
      have hle : st1.1.length = st.1.length + e.length := by rw [he, List.length_append]
      obtain ⟨e2, he2, ⟨c1, c2, c3⟩, ca, ce⟩ := ih (a + 1) st1 st' h (by omega) b2 (by omega) b1 (fun q hq1 hup => by
        rw [he] at hq1
        rcases List.mem_append.mp hq1 with hq1 | hq1
        · obtain ⟨a', h1, h2⟩ := hq q hq1 hup
          exact ⟨a', by omega, h2⟩
        · rcases be q hq1 with z | ⟨i, z1, z2, z3⟩
          · exact ⟨a, by omega, z.2⟩
          · exact absurd (hup.symm.trans z3) (nI_ne (by omega) (by omega) (by omega)))
      have hap : ∀ (i a' : Nat) (L : List pRow), i < st1.1.length → a' < 2 ^ 31 → (i = i0 → a' ≤ a) → bhd P st1.1 (nI i) (nI a') L → bhd P st'.1 (nI i) (nI a') L := fun i a' L h1 h2 h3 hbh => by
        rw [he2]
        refine bhd_app hbh (fun q hq1 z => ?_)
        rcases ce q hq1 with ⟨z1, a2, z2, zb, z3⟩ | ⟨i', z1, z2, z3⟩
        · by_cases e : i = i0
          · exact nI_ne (by have := h3 e; omega) h2 zb (z.2.symm.trans z3)
          · exact nI_ne e (by omega) (by omega) (z.1.symm.trans z1)
        · exact nI_ne (by omega) (by omega) (by omega) (z.1.symm.trans z3)
      refine ⟨e ++ e2, by rw [he2, he, List.append_assoc], ⟨c1, c2, fun i q h1 h2 => ?_⟩, fun a' h1 h2 => ?_, fun q hq1 => ?_⟩
      · by_cases hlt : i < st1.1.length
        · have h2' := h2
          rw [he2, List.getElem?_append_left hlt] at h2'
          obtain ⟨w0, w1⟩ := b3 i q h1 h2'
          refine ⟨w0, fun a' h3 => ?_⟩
          obtain ⟨w1, w2⟩ := w1 a' h3
          have hq9 := qN_le (t0 := t0) h0 q.1 q.2.1
          exact ⟨hap i a' _ hlt (by omega) (fun e => by omega) w1, w2⟩
        · exact c3 i q (by omega) h2
      · rcases Nat.lt_or_ge a a' with hlt | hge
        · exact ca a' (by omega) (by omega)
        · obtain rfl : a' = a := by omega
          exact ⟨hap i0 a' _ (by omega) (by omega) (fun _ => Nat.le_refl _) bh, l80⟩
      · rcases List.mem_append.mp hq1 with hq1 | hq1
        · rcases be q hq1 with z | ⟨i, z1, z2, z3⟩
          · exact Or.inl ⟨z.1, a, Nat.le_refl _, by omega, z.2⟩
          · exact Or.inr ⟨i, z1, z2, z3⟩
        · rcases ce q hq1 with ⟨z1, a2, z2, zb, z3⟩ | ⟨i', z1, z2, z3⟩
          · exact Or.inl ⟨z1, a2, by omega, zb, z3⟩
          · exact Or.inr ⟨i', by omega, z2, z3⟩
theorem aB_bhd (h0 : ∀ t, tn (P 0 t) ≤ 9) : ∀ (f : Nat) (L : List pRow) (up via : Int32) (way : Nat) (an : aAn) (st st' : aSt), aB P t0 f L up via way an st = some st' → upOk st.1 → (up = -1 ∨ ∃ i, i < st.1.length ∧ up = nI i) → st.1.length ≤ 1000 → (∀ q ∈ st.1, ¬ (q.2.2.2.1 = up ∧ q.2.2.2.2 = via)) →
    ∃ e, st'.1 = st.1 ++ e ∧ aBq P t0 st.1 st'.1 ∧ bhd P st'.1 up via L ∧ ∀ q ∈ e, (q.2.2.2.1 = up ∧ q.2.2.2.2 = via) ∨ ∃ i, st.1.length ≤ i ∧ i < 1000 ∧ q.2.2.2.1 = nI i := by
  intro f
  induction f with
  | zero => intro L up via way an st st' h; cases h
  | succ f ih =>
    intro L up via way an st st' h hu hup hl hn
    have leaf : ∀ st2 : aSt, st2.1 = st.1 → (∀ A r w ws, dRw P L = A :: r → A.2.1 = w :: ws → False) → some st2 = some st' → ∃ e, st'.1 = st.1 ++ e ∧ aBq P t0 st.1 st'.1 ∧ bhd P st'.1 up via L ∧ ∀ q ∈ e, (q.2.2.2.1 = up ∧ q.2.2.2.2 = via) ∨ ∃ i, st.1.length ≤ i ∧ i < 1000 ∧ q.2.2.2.1 = nI i := fun st2 e1 hno e2 => by
      cases e2
      rw [e1]
      refine ⟨[], by simp, ⟨hl, hu, fun i q h1 h2 => ?_⟩, ⟨fun q hq a b => absurd ⟨a, b⟩ (hn q hq), fun A r w ws a b => (hno A r w ws a b).elim⟩, fun q hq => by cases hq⟩
      rw [List.getElem?_eq_none h1] at h2
      cases h2
    cases L with
    | nil => exact leaf (stF P t0 an way st) rfl (fun A r w ws a _ => by simp [dRw, aDr] at a) h
    | cons A r =>
      simp only [aB] at h
      split at h
      · rename_i hA
        split at h
        · rename_i hg
          refine leaf (stT A.1 way st) rfl (fun A' r' w ws a b => ?_) h
          rw [dRw_k (fun z => z.2 hg)] at a
          cases a
          rw [hA] at b
          cases b
        · rename_i hg
          have K := ih _ _ _ _ _ (stT A.1 way st) st' h hu hup hl hn
          unfold bhd
          rw [dRw_g hA hg]
          exact K
      · rename_i w ws hA
        split at h
        · cases h
        · rename_i hne
          split at h
          · cases h
          · rename_i h800
            have hlt : st.1.length < 1000 := by omega
            have hdr : dRw P (A :: r) = A :: r := dRw_k (fun z => by rw [hA] at z; cases z.1)
            have hup2 : ∀ i, st.1.length ≤ i → i < 1000 → ¬ up = nI i := fun i h1 h2 e => by
              rcases hup with z | ⟨j, z1, z2⟩
              · exact nI_ne1 (by omega) (e.symm.trans z)
              · exact nI_ne (by omega) (by omega) (by omega) (e.symm.trans z2)
            have hl1 : (stQ (A :: r) w.1 way up via st).1 = st.1 ++ [(A :: r, w.1, way, up, via)] := rfl
            have hlen1 : (stQ (A :: r) w.1 way up via st).1.length = st.1.length + 1 := by rw [hl1]; simp
            have hu1 : upOk (stQ (A :: r) w.1 way up via st).1 := fun j q hq => by
              rw [hl1] at hq
              rcases Nat.lt_or_ge j st.1.length with hj | hj
              · rw [List.getElem?_append_left hj] at hq
                exact hu j q hq
              · rw [List.getElem?_append_right hj] at hq
                have hj0 : j - st.1.length = 0 := by
                  have := (List.getElem?_eq_some_iff.mp hq).1
                  simp at this
                  omega
                rw [hj0] at hq
                simp at hq
                subst hq
                rcases hup with z | ⟨i, z1, z2⟩
                · exact Or.inl z
                · exact Or.inr ⟨i, by omega, z2⟩
            have hqn := qN_le (t0 := t0) h0 (A :: r) w.1
            have hR : (A :: r).length ≤ 800 := by omega
            obtain ⟨e, he, ⟨b1, b2, b3⟩, ba, be⟩ := aBs_bhd h0 (i0 := st.1.length) (R := A :: r) (π := w.1) (fun a s1 s2 hs k1 k2 k3 k4 => by
              split at hs
              · cases hs
              · rename_i h80
                obtain ⟨e, g1, g2, g3, g4⟩ := ih _ _ _ _ _ s1 s2 hs k1 (Or.inr ⟨st.1.length, k2, rfl⟩) k3 k4
                exact ⟨by omega, e, g1, g2, g3, g4⟩) _ 0 _ st' h (by omega) hu1 (by omega) (by omega) (fun q hq hq2 => by
              rw [hl1] at hq
              rcases List.mem_append.mp hq with hq | hq
              · obtain ⟨j, hj⟩ := List.getElem?_of_mem hq
                have hjl := (List.getElem?_eq_some_iff.mp hj).1
                rcases hu j q hj with z | ⟨i, z1, z2⟩
                · exact absurd (hq2.symm.trans z) (nI_ne1 (by omega))
                · exact absurd (hq2.symm.trans z2) (nI_ne (by omega) (by omega) (by omega))
              · rcases List.mem_singleton.mp hq with rfl
                exact absurd hq2 (hup2 _ (Nat.le_refl _) hlt))
            refine ⟨(A :: r, w.1, way, up, via) :: e, by rw [he, hl1]; simp, ⟨b1, b2, fun i q h1 h2 => ?_⟩, ⟨fun q hq a b => ?_, fun A' r' w' ws' a b => ⟨(A :: r, w.1, way, up, via), by rw [he, hl1]; simp, rfl, rfl⟩⟩, fun q hq => ?_⟩
            · rcases Nat.lt_or_ge i (st.1.length + 1) with hi | hi
              · have hi0 : i = st.1.length := by omega
                subst hi0
                have : q = (A :: r, w.1, way, up, via) := by
                  rw [he, hl1, List.append_assoc, List.getElem?_append_right (Nat.le_refl _), Nat.sub_self] at h2
                  simpa using h2.symm
                subst this
                exact ⟨hR, fun a ha => ba a (Nat.zero_le _) (by rw [Nat.zero_add]; exact ha)⟩
              · exact b3 i q (by omega) h2
            · rw [he, hl1, List.append_assoc] at hq
              rcases List.mem_append.mp hq with hq | hq
              · exact absurd ⟨a, b⟩ (hn q hq)
              · rcases List.mem_cons.mp hq with rfl | hq
                · exact ⟨A, r, w, ws, hdr, hA, rfl, rfl⟩
                · rcases be q hq with ⟨z, -⟩ | ⟨i, z1, z2, z3⟩
                  · exact absurd (a.symm.trans z) (hup2 _ (Nat.le_refl _) hlt)
                  · exact absurd (a.symm.trans z3) (hup2 i (by omega) z2)
            · rcases List.mem_cons.mp hq with rfl | hq
              · exact Or.inl ⟨rfl, rfl⟩
              · rcases be q hq with ⟨z, -⟩ | ⟨i, z1, z2, z3⟩
                · exact Or.inr ⟨st.1.length, Nat.le_refl _, hlt, z⟩
                · exact Or.inr ⟨i, by omega, z2, z3⟩
end BX
