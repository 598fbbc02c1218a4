/-! answerRows: its contract; what it gives is in order -/
section BE
variable {E : gE} {d : Nat} {G G0 : gS} {m n : Nat} {s s' : mS} {Q : gO → gS → Prop} {P : Nat → Nat → Int32} {N X X' t0 : Nat} {pl pl' pos : Nat → List Nat}
theorem m_W_answerRows (hmn : m < n) (wf : wfA P N pos) (ht0 : t0 < 16) {first p r0 : Nat} {L : List pRow} {md wh is : Int32} {π : List Nat} (hL : ∀ A ∈ L, rOk P N pos t0 A) (hrow : hPs s pl X first L) (hp : p < X) (hπ : pl p = π) (hfr : first + L.length ≤ r0) (br : r0 ≤ 41500) (hkd : ∀ A ∈ L, ∀ q ∈ A.2.1, q.1 = π → ¬ md = 0 → P 3 q.2 = 2)
    (hpl : plOk s P N t0 pos pl X) (hs : sPA s P) (h46 : s.1 46 = nI r0) (h47 : s.1 47 = 0) :
    GM E Y_Model_answerRows (d + 2) [.ref m, .int (nI first), .int (nI L.length), .int (nI p), .int md, .int wh, .int is] (mW E G m n s) (fun o G' => o = .inl none ∧ ∃ s', G' = mW E G m n s' ∧ qA P N t0 pos pl X r0 (aAns P π md wh is L) s s') := by
  refine m_W_ans_i hmn ?_
  have K := ans_loop (E := E) (d := d) (G := G) (G0 := mW E G m n s) (Q := fun o G' => o = .inl none ∧ ∃ s', G' = mW E G m n s' ∧ qA P N t0 pos pl X r0 (aAns P π md wh is L) s s') hmn wf ht0 (md := md) (wh := wh) (is := is) hL hrow hp hπ hfr br hkd (fun s' h => ⟨rfl, s', rfl, h⟩) (L.length + 1) 0 s pl X (by omega) (by omega) hpl (fun _ _ => rfl) fB_rf hs h47 (by simp [aAns]) (by rw [h46]; simp [aAns]) (fun i A h => by simp [aAns] at h) (fun A h => by simp [aAns] at h)
  rw [h46]
  exact K
theorem pw_sub {l r : List (List Nat × Nat)} {q : List Nat × Nat} (h : (l ++ q :: r).Pairwise apart) : (l ++ r).Pairwise apart :=
  h.sublist ((List.Sublist.refl l).append (List.sublist_cons_self q r))
theorem pw_set {l r : List (List Nat × Nat)} {π : List Nat} {v v' : Nat} (h : (l ++ (π, v) :: r).Pairwise apart) : (l ++ (π, v') :: r).Pairwise apart := by
  obtain ⟨h1, h2, h3⟩ := List.pairwise_append.mp h
  obtain ⟨h4, h5⟩ := List.pairwise_cons.mp h2
  refine List.pairwise_append.mpr ⟨h1, List.pairwise_cons.mpr ⟨fun y hy => h4 y hy, h5⟩, fun a ha b hb => ?_⟩
  rcases List.mem_cons.mp hb with rfl | hb
  · exact h3 a ha (π, v) List.mem_cons_self
  · exact h3 a ha b (List.mem_cons_of_mem _ hb)
/-- settling keeps wishes where they are -/
theorem aS_wOk (wf : wfA P N pos) : ∀ (f : Nat) (done pend : List (List Nat × Nat)) (bd : Nat → Option (List Nat)), (∀ q ∈ done ++ pend, wOk P N pos t0 q) → (done ++ pend).Pairwise apart → ∀ A ∈ aS P f done pend bd, (∀ q ∈ A.1, wOk P N pos t0 q) ∧ A.1.Pairwise apart := by
  have bN := wf.1.1
  intro f
  induction f with
  | zero =>
    intro done pend bd _ _ A h
    cases h
  | succ f ih =>
    intro done pend bd hd hp A h
    cases pend with
    | nil =>
      have e := List.mem_singleton.mp h
      subst e
      rw [List.append_nil] at hd hp
      exact ⟨hd, hp⟩
    | cons q r =>
      obtain ⟨π, k⟩ := q
      have hq := hd (π, k) (by simp)
      have hkN : k < N := hq.1
      have hrest : ∀ y, y ∈ done ∨ y ∈ r → wOk P N pos t0 y := fun y hy => hd y (by rcases hy with h | h <;> simp [h])
      have hset : ∀ v, wOk P N pos t0 (π, v) → ∀ y ∈ done ++ (π, v) :: r, wOk P N pos t0 y := fun v hv y hy => by
        rcases List.mem_append.mp hy with hy | hy
        · exact hrest y (Or.inl hy)
        · rcases List.mem_cons.mp hy with rfl | hy
          · exact hv
          · exact hrest y (Or.inr hy)
      obtain ⟨-, w4, w3, -⟩ := wf.2.2 k hq.1
      simp only [aS] at h
      split at h
      · exact ih done r bd (fun y hy => hrest y (List.mem_append.mp hy)) (pw_sub hp) A h
      · split at h
        · rename_i _ e4
          obtain ⟨w, v, w8, e5, hv, e6, -⟩ := (wf.1.2 k hq.1).2.1 e4
          have ev : tn (P 6 (4 * k)) = v := by rw [e6]; exact tnI (by omega)
          obtain ⟨a1, a2⟩ := w4 e4
          rw [ev] at h a1 a2
          refine ih _ _ _ (hset v ⟨Nat.lt_trans hv hq.1, by rw [a2]; exact hq.2.1, by rw [a1]; exact hq.2.2⟩) (pw_set hp) A h
        · split at h
          · rename_i _ _ e3
            obtain ⟨v, v', hv, e6, hv', e6', -⟩ := (wf.1.2 k hq.1).2.2 e3
            have ev : tn (P 6 (4 * k)) = v := by rw [e6]; exact tnI (by omega)
            have ev' : tn (P 6 (4 * k + 1)) = v' := by rw [e6']; exact tnI (by omega)
            obtain ⟨a1, a2, a3, a4⟩ := w3 e3
            rw [ev] at h a1 a2
            rw [ev'] at h a3 a4
            rcases List.mem_append.mp h with h | h
            · exact ih _ _ _ (hset v ⟨Nat.lt_trans hv hq.1, by rw [a2]; exact hq.2.1, by rw [a1]; exact hq.2.2⟩) (pw_set hp) A h
            · exact ih _ _ _ (hset v' ⟨Nat.lt_trans hv' hq.1, by rw [a4]; exact hq.2.1, by rw [a3]; exact hq.2.2⟩) (pw_set hp) A h
          · have eL : done ++ (π, k) :: r = (done ++ [(π, k)]) ++ r := by simp
            exact ih (done ++ [(π, k)]) r bd (by rw [← eL]; exact hd) (by rw [← eL]; exact hp) A h
theorem aL_rOk (wf : wfA P N pos) {ws : List (List Nat × Nat)} {bd : Nat → Option (List Nat)} {c : Nat} (h : ∀ q ∈ ws, wOk P N pos t0 q) (hp : ws.Pairwise apart) (hz : aZ P ws ≤ 24) : ∀ A ∈ aC c (aL P ws bd), rOk P N pos t0 A := by
  intro A hA
  obtain ⟨B, hB, rfl⟩ := List.mem_map.mp hA
  have h1 := aS_wOk wf _ [] ws bd h hp B hB
  have h2 := aS_ok wf.1 _ [] ws bd (fun q hq => by cases hq) (fun q hq => (h q hq).1) B hB
  have h3 := aS_Z wf.1 _ [] ws bd (fun q hq => (h q hq).1) B hB
  simp only [aZ] at h3
  exact ⟨fun q hq => ⟨h1.1 q hq, (h2 q hq).2⟩, by show aZ P B.1 ≤ 24; omega, h1.2⟩
theorem pre_app {ρ π : List Nat} {e : Nat} (h1 : ¬ ρ <+: π) (h2 : ¬ π <+: ρ) : ¬ ρ <+: π ++ [e] ∧ ¬ π ++ [e] <+: ρ := by
  refine ⟨fun h => ?_, fun h => h2 (List.IsPrefix.trans (List.prefix_append π [e]) h)⟩
  rcases List.prefix_concat_iff.mp h with h | h
  · exact h2 (by rw [h]; exact List.prefix_append π [e])
  · exact h1 h
theorem pre_sib {π : List Nat} {e e' : Nat} (h : e ≠ e') : ¬ π ++ [e] <+: π ++ [e'] := fun q => by
  have := List.IsPrefix.eq_of_length q (by simp)
  exact h (app_inj this).2
theorem ks_pw {π : List Nat} {k w : Nat} : ∀ (a : Nat), (aKs P (fun i => π ++ [4 * w + i]) k a).Pairwise apart := by
  intro a
  induction a with
  | zero => exact List.Pairwise.nil
  | succ a ih =>
    unfold aKs at ih ⊢
    rw [List.range_succ, List.map_append]
    refine List.pairwise_append.mpr ⟨ih, List.pairwise_singleton _ _, fun x hx y hy => ?_⟩
    obtain ⟨i, hi, rfl⟩ := List.mem_map.mp hx
    have hy2 := List.mem_singleton.mp hy
    subst hy2
    have hi2 := List.mem_range.mp hi
    exact ⟨pre_sib (by omega), pre_sib (by omega)⟩
theorem aAns1_ok (wf : wfA P N pos) (ht0 : t0 < 16) {A : pRow} {md wh is : Int32} {π : List Nat} (h : rOk P N pos t0 A) (hkd : ∀ q ∈ A.2.1, q.1 = π → ¬ md = 0 → P 3 q.2 = 2) : ∀ B ∈ aAns1 P π md wh is A, rOk P N pos t0 B := by
  intro B hB
  have bN := wf.1.1
  unfold aAns1 at hB
  cases hf : aFnd π A.2.1 with
  | none =>
    rw [hf] at hB
    have := List.mem_singleton.mp hB
    subst this
    exact h
  | some z =>
    rw [hf] at hB
    have hz := aFnd_some hf
    dsimp only at hB
    by_cases cond : P 5 z.2.1 = wh ∧ (¬ md = 0 ∨ ¬ is = 0)
    · rw [if_pos cond] at hB
      have hok := h.1
      have hpw := h.2.2
      have hzz := h.2.1
      rw [hz] at hok hpw hzz
      have hq := (hok (π, z.2.1) (by simp)).1
      have hzN : z.2.1 < N := hq.1
      by_cases hm : md = 0
      · rw [if_pos hm] at hB
        refine aL_rOk wf (fun q hq => (hok q ?_).1) (pw_sub hpw) ?_ B hB
        · rcases List.mem_append.mp hq with hq | hq
          · simp [hq]
          · have hq' : q ∈ z.2.2 := hq
            simp [hq']
        · rw [aZ_app] at hzz ⊢
          simp only [aZ] at hzz
          show aZ P z.1 + aZ P z.2.2 ≤ 24
          omega
      · rw [if_neg hm] at hB
        have hk2 := hkd (π, z.2.1) (by rw [hz]; simp) rfl hm
        obtain ⟨⟨t4, ht4, et4⟩, -, -, hmk⟩ := wf.2.2 z.2.1 hq.1
        obtain ⟨⟨w8, hw8, ew8⟩, a4, ea1, eZ, hparts⟩ := hmk hk2
        have ewh : tn wh = tn (P 5 z.2.1) := by rw [← cond.1]
        refine aL_rOk wf (fun q hq' => ?_) ?_ ?_ B hB
        · rcases List.mem_append.mp hq' with hq' | hq'
          · exact (hok q (by simp [hq'])).1
          · rcases List.mem_append.mp hq' with hq' | hq'
            · obtain ⟨i, hi, rfl⟩ := List.mem_map.mp hq'
              obtain ⟨v, hv, e6, e4v, ev⟩ := hparts i (List.mem_range.mp hi)
              have e6' : tn (P 6 (4 * z.2.1 + i)) = v := by rw [e6]; exact tnI (by omega)
              refine ⟨?_, ?_, ?_⟩
              · show tn (P 6 (4 * z.2.1 + i)) < N
                rw [e6']
                omega
              · show π ++ [4 * tn wh + i] = pos (tn (P 6 (4 * z.2.1 + i)))
                rw [e6', ev, ewh]
                have : π = pos z.2.1 := hq.2.1
                rw [← this]
              · show P 4 (tn (P 6 (4 * z.2.1 + i))) = nI (tyP P t0 (π ++ [4 * tn wh + i]))
                have hty : P 4 z.2.1 = nI (tyP P t0 π) := hq.2.2
                have ety : tn (P 4 z.2.1) = t4 := by rw [et4]; exact tnI (by omega)
                have ety2 : tyP P t0 π = t4 := by
                  by_cases big : tyP P t0 π < 2 ^ 31
                  · have := congrArg tn hty
                    rw [ety, tnI big] at this
                    exact this.symm
                  · exfalso
                    have ne : π ≠ [] := fun z0 => by
                      rw [z0] at big
                      exact big (Nat.lt_trans ht0 (by decide))
                    obtain ⟨π', e, rfl⟩ : ∃ π' e, π = π' ++ [e] := ⟨π.dropLast, π.getLast ne, (List.dropLast_concat_getLast ne).symm⟩
                    rw [tyP_app] at big
                    unfold tn at big
                    have := Int32.toInt_lt (P 2 (32 * tyP P t0 π' + e))
                    omega
                rw [e6', e4v, tyP_app, ety2, ewh, ety]
                obtain ⟨t', ht', et'⟩ := wf.2.1 (32 * t4 + (4 * tn (P 5 z.2.1) + i)) (by
                  have hi2 := List.mem_range.mp hi
                  have : tn (P 5 z.2.1) = w8 := by rw [ew8]; exact tnI (by omega)
                  omega)
                rw [et', tnI (by omega)]
            · exact (hok q (by simp [hq'])).1
        · obtain ⟨h1, h2, h3⟩ := List.pairwise_append.mp hpw
          obtain ⟨h4, h5⟩ := List.pairwise_cons.mp h2
          refine List.pairwise_append.mpr ⟨h1, List.pairwise_append.mpr ⟨ks_pw _, h5, fun x hx y hy => ?_⟩, fun x hx y hy => ?_⟩
          · obtain ⟨i, hi, rfl⟩ := List.mem_map.mp hx
            have := h4 y hy
            have q := pre_app (e := 4 * tn wh + i) this.2 this.1
            exact ⟨q.2, q.1⟩
          · rcases List.mem_append.mp hy with hy | hy
            · obtain ⟨i, hi, rfl⟩ := List.mem_map.mp hy
              have := h3 x hx (π, z.2.1) List.mem_cons_self
              exact pre_app (e := 4 * tn wh + i) this.1 this.2
            · exact h3 x hx y (List.mem_cons_of_mem _ hy)
        · rw [aZ_app] at hzz ⊢
          simp only [aZ] at hzz
          rw [aZ_app, aKs_Z (g' := fun _ => ())]
          omega
    · rw [if_neg cond] at hB
      cases hB
theorem aAns_ok (wf : wfA P N pos) (ht0 : t0 < 16) {md wh is : Int32} {π : List Nat} : ∀ (L : List pRow), (∀ A ∈ L, rOk P N pos t0 A) → (∀ A ∈ L, ∀ q ∈ A.2.1, q.1 = π → ¬ md = 0 → P 3 q.2 = 2) → ∀ B ∈ aAns P π md wh is L, rOk P N pos t0 B
  | [], _, _, B, h => by cases h
  | A :: r, h, hk, B, hB => by
    rcases List.mem_append.mp hB with hB | hB
    · exact aAns1_ok wf ht0 (h A List.mem_cons_self) (hk A List.mem_cons_self) B hB
    · exact aAns_ok wf ht0 r (fun A hA => h A (List.mem_cons_of_mem _ hA)) (fun A hA => hk A (List.mem_cons_of_mem _ hA)) B hB
end BE
