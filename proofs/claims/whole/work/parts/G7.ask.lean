/-! Calls, one by one: first those that only tell -/
section NO
variable {E : gE} {a k n n' sl sl' D : Nat} {G G' : gS} {c c' : cS} {u u' : uS} {s s' : mS} {fo : Nat → Int64} {YM : gY} {aM : List Value}
/-- the reference's call behind the class's, and what the law compares -/
abbrev Ev (E : gE) (a D : Nat) (YM : gY) (aM : List Value) (J : gS → Prop) : Int32 → gS → Prop := fun k G1 => (∃ fs, G1.1 (a + 24) = some (.inr (13, fs))) ∧ GM E YM D aM G1 (fun o G2 => ∃ v : Int32, o = .inl (some (.int v)) ∧ sE E D (a + 24) (a + 65) k v G2 ∧ J G2)
theorem ev (hl : lI E a G c u n sl s fo) {kk : Int32} (R : GM E YM D aM (mW E G (a + 24) (a + 25) s) (fun o G2 => ∃ v s', o = .inl (some (.int v)) ∧ G2 = mW E G (a + 24) (a + 25) s' ∧ s'.1 0 = kk ∧ (kk = 0 → fo 0 = v.toInt64) ∧ RI E a k c u n sl s')) : Ev E a D YM aM (LI E a k) kk G := by
  refine ⟨⟨mFs (a + 25) s.1, by rw [← hl.2.1]; exact mw_f⟩, ?_⟩
  have e := hl.2.1
  generalize hG : G = G1 at R ⊢
  rw [hG] at e
  rw [e] at R
  refine R.mono (fun o G2 h => ?_)
  obtain ⟨v, s', rfl, rfl, hc, hv, hR⟩ := h
  subst hG
  refine ⟨v, rfl, ⟨⟨mFs (a + 25) s'.1, mw_f⟩, ?_, fo, ?_, hv⟩, Or.inr ⟨c, u, n, sl, s', fo, lI_ref hl, hR⟩⟩
  · have K := m_W_thrown (E := E) (d := D) (G := G) (m := a + 24) (n := a + 25) (s := s') (by omega)
    rw [hc] at K
    exact K
  · rw [mw_o (by omega) (by omega)]
    exact hl.2.2.1
theorem ev_r (hl : lI E a G c u n sl s fo) {kk v : Int32} (R : GM E YM D aM (mW E G (a + 24) (a + 25) s) (rIs (some (.int v)) (mW E G (a + 24) (a + 25) s'))) (hc : s'.1 0 = kk) (hv : kk = 0 → fo 0 = v.toInt64) (hR : RI E a k c u n sl s') : Ev E a D YM aM (LI E a k) kk G :=
  ev hl (R.mono (fun o G2 h => ⟨v, s', h.1, h.2, hc, hv, hR⟩))
theorem up_0 {v : Int32} : vp_updL fo 0 v.toInt64 0 = v.toInt64 := by simp [vp_updL]
/-- a call that throws nothing -/
theorem ev_d (hl : lI E a G c u n sl s fo) {v : Int32} (R : GM E YM D aM (mW E G (a + 24) (a + 25) s) (rIs (some (.int v)) (mW E G (a + 24) (a + 25) s'))) (hR : RI E a k c u n sl s') : (∃ fs, G.1 (a + 24) = some (.inr (13, fs))) ∧ GM E YM D aM G (fun o G2 => o = .inl (some (.int v)) ∧ LI E a k G2) := by
  refine ⟨⟨mFs (a + 25) s.1, by rw [← hl.2.1]; exact mw_f⟩, ?_⟩
  have e := hl.2.1
  generalize hG : G = G1 at R ⊢
  rw [hG] at e
  rw [e] at R
  refine R.mono (fun o G2 h => ?_)
  obtain ⟨rfl, rfl⟩ := h
  subst hG
  exact ⟨rfl, Or.inr ⟨c, u, n, sl, s', fo, lI_ref hl, hR⟩⟩
theorem lI_a (h : lI E a G c u n sl s fo) : ∃ fs, G.1 a = some (.inr (12, fs)) := ⟨_, by rw [← h.1]; exact x_at (k := 0) (by decide) rfl⟩
theorem thr {C K : String} (hl : lI E a G c u n sl s fo) (hq : tIs C G (.inr K) G') : K = C ∧ lI E a G' c u G'.2.1 G'.2.2 s fo ∧ n ≤ G'.2.1 ∧ G'.2.1 ≤ n + 1 ∧ G'.2.2 = sl + 6 := by
  obtain ⟨h1, h2, h3, h4, h5⟩ := hq
  have hn := lI_n hl
  rw [hn.1] at h3 h4
  rw [hn.2] at h5
  exact ⟨by cases h1; rfl, lI_th hl h2 h3, h3, h4, h5⟩
theorem RI_hp (h : RI E a k c u n sl s) : ∃ ks sp ps qs ms, hpOk E a (E.1.heap.size + 66 + 4 * k) (2698980 + 40 * k) c u n sl ks sp ps qs ms := by
  obtain ⟨-, -, -, P, N, t0, rt, rl, T, V, tm, ob, pp, vv, cc, h⟩ := h
  obtain ⟨-, -, -, -, -, -, ks, sp, ps, qs, ms, hp, -⟩ := h
  exact ⟨ks, sp, ps, qs, ms, hp⟩
theorem RI_fit (h : RI E a k c u n sl s) : gFit E (yW E G a c u n sl) 1000 1000 ∧ n + 900 ≤ E.1.heap.size + room_1.cells ∧ sl + 50000 ≤ room_1.slots ∧ uOk u a n := by
  obtain ⟨ks, sp, ps, qs, ms, hp⟩ := RI_hp h
  have := hp_room hp
  exact ⟨hp_fit hp, this.1, this.2, hpOk_un hp⟩
theorem RI_f6 (hl : lI E a G c u n sl s fo) (h : RI E a k c u n sl s) : gFit E G 1 6 ∧ gFit E (yW E G a c u n sl) 1 6 := by
  have F := (RI_fit (G := G) h).1
  have F6 : gFit E (yW E G a c u n sl) 1 6 := ⟨by have := F.1; omega, by have := F.2; omega⟩
  refine ⟨?_, F6⟩
  rw [hl.1] at F6
  exact F6
/-- nothing has changed but the reference's code, its scratch -/
theorem RI_q (h : RI E a k c u n sl s) (hk : k < 512) (hf : kFr (fun _ => False) u u' n) (ho : uOk u' a n') (hz : ∀ q, q < a + 66 → u'.1 q = 0) (hn : n ≤ n') (hn2 : n' ≤ n + 4) (hsl : sl' ≤ sl + 40) (h1 : ∀ j, j ≠ 0 → j ≠ 58 → s'.1 j = s.1 j) (h2 : ∀ j, j ≠ 36 → j ≠ 39 → s'.2 j = s.2 j) : RI E a (k + 1) c u' n' sl' s' := by
  obtain ⟨r1, r2, r3, P, N, t0, rt, rl, T, V, tm, ob, pp, vv, cc, h⟩ := h
  exact ⟨r1, hz, by omega, P, N, t0, rt, rl, T, V, tm, ob, pp, vv, cc, rI_q h hk hf ho hn hn2 hsl h1 h2⟩
theorem RI_0 (h : RI E a k c u n sl s) (hk : k < 512) (hn : n ≤ n') (hn2 : n' ≤ n + 4) (hsl : sl' ≤ sl + 40) {x : Int32} : RI E a (k + 1) c u n' sl' (wF s 0 x) := by
  have F := (RI_fit (G := (fun _ => none, 0, 0)) h).2.2.2
  exact RI_q h hk kFr_rf (fun q hq => ⟨(F q hq).1, by have := (F q hq).2; omega⟩) h.2.1 hn hn2 hsl (fun j hj _ => if_neg hj) (fun _ _ _ => rfl)
/-- a call that both refuse -/
theorem refu {C K : String} (hl : lI E a G c u n sl s fo) (h : RI E a k c u n sl s) (hk : k < 512) (hq : tIs C G (.inr K) G') {kk v : Int32} (R : GM E YM D aM (mW E G' (a + 24) (a + 25) s) (rIs (some (.int v)) (mW E G' (a + 24) (a + 25) (wF s 0 kk)))) (hz : ¬ kk = 0) : K = C ∧ Ev E a D YM aM (LI E a (k + 1)) kk G' := by
  obtain ⟨e, l1, n1, n2, n3⟩ := thr hl hq
  exact ⟨e, ev_r l1 R rfl (fun z => absurd z hz) (RI_0 h hk n1 (by omega) (by omega))⟩
theorem LI_mono : ∀ (a k : Nat) (G : gS), LI E a k G → LI E a (k + 1) G := by
  intro a k G h
  rcases h with h | ⟨c, u, n, sl, s, fo, hl, hR⟩
  · exact Or.inl (by omega)
  · by_cases hk : k < 512
    · refine Or.inr ⟨c, u, n, sl, s, fo, hl, ?_⟩
      have F := (RI_fit (G := G) hR).2.2.2
      exact RI_q hR hk kFr_rf F hR.2.1 (Nat.le_refl _) (by omega) (by omega) (fun _ _ _ => rfl) (fun _ _ _ => rfl)
    · exact Or.inl (by omega)
theorem k_asked (hl : lI E a G c u n sl s fo) (h : RI E a k c u n sl s) (hk : k < 512) : s_asked E (D + 41) a (a + 24) (a + 65) G (LI E a (k + 1)) := by
  intro p0
  have hR := RI_0 h hk (Nat.le_refl n) (by omega) (show sl ≤ sl + 40 by omega) (x := 0)
  obtain ⟨-, -, -, P, N, t0, rt, rl, T, V, tm, ob, pp, vv, cc, hr⟩ := h
  obtain ⟨-, -, -, -, -, ⟨l, y1, y2, y3, y4, -⟩, -⟩ := hr
  have K := m_X_asked (E := E) (d := D + 40) (G := zW E G u n sl) (a := a) (c := c) (by rw [y2]; exact (le_hi (nI_hi (by omega)) (show (60 : Int32).toInt = ((60 : Nat) : Int) by decide)).mpr y1) p0
  replace K : GM E Y_Mill_asked (D + 41) [.ref a, .int p0] (yW E G a c u n sl) (rIs (some (.int (kAt (c.1 21) (c.2.1 6) p0))) (yW E G a c u n sl)) := K
  rw [hl.1] at K
  refine K.mono (fun o G1 hq => ?_)
  obtain ⟨rfl, rfl⟩ := hq
  have R := m_W_asked (E := E) (d := D + 41) (G := G1) (m := a + 24) (n := a + 25) (s := s) (by omega) (by rw [y3]; exact (le_hi (nI_hi (by omega)) (show (520 : Int32).toInt = ((520 : Nat) : Int) by decide)).mpr (by omega)) p0
  have e : (if ¬ p0 < 0 ∧ ¬ s.1 54 ≤ p0 then s.2 37 (tn p0) else -1) = kAt (c.1 21) (c.2.1 6) p0 := by
    unfold kAt
    rw [y2, y3]
    split
    · rename_i z
      refine (y4 _ ?_).symm
      exact tn_lt z.1 z.2 (nI_hi (by omega))
    · rfl
  rw [e] at R
  exact ⟨_, rfl, ev_d hl R hR⟩
end NO
