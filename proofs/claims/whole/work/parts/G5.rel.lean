/-! What holds between calls: the world, and the class against the reference -/
section NK
variable {E : gE} {a n n' sl sl' : Nat} {G G' : gS} {c c' : cS} {u u' : uS} {s s' : mS} {fo fo' : Nat → Int64}
/-- the class and its objects, the reference behind it, the law's array -/
def lI (E : gE) (a : Nat) (G : gS) (c : cS) (u : uS) (n sl : Nat) (s : mS) (fo : Nat → Int64) : Prop := yW E G a c u n sl = G ∧ mW E G (a + 24) (a + 25) s = G ∧ G.1 (a + 65) = some (gAJ E 1 fo) ∧ (∀ q, q < a + 66 → u.1 q = 0) ∧ a + 66 ≤ n
theorem lI_n (h : lI E a G c u n sl s fo) : G.2.1 = n ∧ G.2.2 = sl := by
  rw [← h.1]
  exact ⟨rfl, rfl⟩
theorem lI_cl (h : lI E a G c u n sl s fo) (hu : ∀ q, q < a + 66 → u'.1 q = 0) (hn : a + 66 ≤ n') : lI E a (yW E G a c' u' n' sl') c' u' n' sl' s fo := by
  have o : ∀ q, a + 24 ≤ q → q < a + 66 → (yW E G a c' u' n' sl').1 q = G.1 q := fun q h1 h2 => by
    rw [xw_o (Or.inr h1)]
    exact if_pos (hu q h2)
  refine ⟨?_, ?_, ?_, hu, hn⟩
  · refine Prod.ext (funext fun q => ?_) rfl
    by_cases hq : a ≤ q ∧ q < a + 24
    · simp only [yW, xW, if_pos hq]
    · simp only [yW, xW, if_neg hq, zW]
      split
      · rfl
      · rfl
  · refine mw_self (by omega) ?_ (fun j hj => ?_)
    · rw [o _ (by omega) (by omega), ← h.2.1]
      exact mw_f
    · rw [o _ (by omega) (by omega), ← h.2.1]
      exact mw_a (by omega) hj
  · rw [o _ (by omega) (by omega)]
    exact h.2.2.1
theorem lI_th (h : lI E a G c u n sl s fo) (e : G'.1 = G.1) (hn : n ≤ G'.2.1) : lI E a G' c u G'.2.1 G'.2.2 s fo := by
  refine ⟨?_, mw_c h.2.1 e, by rw [e]; exact h.2.2.1, h.2.2.2.1, by have := h.2.2.2.2; omega⟩
  refine Prod.ext ?_ rfl
  have h1 : (yW E G a c u n sl).1 = G.1 := congrArg Prod.fst h.1
  have h2 : (yW E G' a c u G'.2.1 G'.2.2).1 = (yW E G a c u n sl).1 := by
    simp only [yW, xW, zW]
    rw [e]
  rw [h2, h1, e]
theorem lI_out (h : lI E a G c u n sl s fo) : lI E a (gUp G (a + 65) (gAJ E 1 fo')) c u n sl s fo' := by
  refine ⟨?_, mw_gup h.2.1 (by omega) (by omega), gUp_at h.2.2.1, h.2.2.2.1, h.2.2.2.2⟩
  have h2 := lI_n h
  refine Prod.ext (funext fun q => ?_) (Prod.ext h2.1.symm h2.2.symm)
  have h1 : (yW E G a c u n sl).1 q = G.1 q := congrFun (congrArg Prod.fst h.1) q
  simp only [yW, xW, zW, gUp, va_up] at h1 ⊢
  by_cases e : q = a + 65
  · subst e
    rw [if_neg (by omega), if_pos (h.2.2.2.1 _ (by omega))]
  · rw [if_neg e]
    exact h1
theorem lI_ref (h : lI E a G c u n sl s fo) : lI E a (mW E G (a + 24) (a + 25) s') c u n sl s' fo := by
  refine ⟨?_, mw_mw, by rw [mw_o (by omega) (by omega)]; exact h.2.2.1, h.2.2.2.1, h.2.2.2.2⟩
  have h2 := lI_n h
  refine Prod.ext (funext fun q => ?_) (Prod.ext h2.1.symm h2.2.symm)
  have h1 : (yW E G a c u n sl).1 q = G.1 q := congrFun (congrArg Prod.fst h.1) q
  simp only [yW, xW, zW, mW] at h1 ⊢
  by_cases e : a + 24 ≤ q ∧ q < a + 66
  · rw [if_neg (by omega), if_pos (h.2.2.2.1 _ e.2)]
  · by_cases e1 : q = a + 24
    · omega
    · have e2 : ¬ (a + 25 ≤ q ∧ q < a + 25 + 40) := by omega
      simp only [if_neg e1, if_neg e2]
      exact h1
end NK
section NL
/-- types -/
def tyR (P : Nat → Nat → Int32) (c : cS) : Prop := tyO P ∧ (∀ t, t < 16 → c.2.1 0 t = P 0 t - 1) ∧ ∀ t w, t < 16 → w < 8 → (P 0 t = 0 → c.2.1 1 (8 * t + w) = 0) ∧ (¬ P 0 t = 0 → c.2.1 1 (8 * t + w) = P 1 (8 * t + w) ∧ ∀ i, i < tn (P 1 (8 * t + w)) → c.2.1 2 (32 * t + 4 * w + i) = P 2 (32 * t + 4 * w + i))
/-- piles and cases -/
def piR (P : Nat → Nat → Int32) (t0 : Nat) (rt : Nat → Nat) (rl : Nat → List Nat) (T V : Nat → Prop) (tm : Nat → Nat) (pp vv cc : List Nat) (c : cS) (s : mS) : Prop :=
  pil c 1 4 (pp.map tm) ∧ pil c 2 5 (vv.map tm) ∧ s.1 14 = nI pp.length ∧ s.1 15 = nI vv.length ∧ (∀ i x, pp[i]? = some x → P 9 i = nI x) ∧ (∀ i x, vv[i]? = some x → P 10 i = nI x) ∧
  (∀ x ∈ pp, T x ∧ ¬ V x ∧ rt x = x ∧ rl x = [] ∧ tn (P 7 x) ≤ 24) ∧ (∀ x ∈ vv, V x ∧ rt x = x ∧ rl x = []) ∧ (pp ++ (vv ++ cc)).Nodup ∧
  s.1 16 = nI cc.length ∧ c.1 3 = nI cc.length ∧ cc.length ≤ 20 ∧ t0 < 16 ∧
  ∀ i x, cc[i]? = some x → P 11 i = nI x ∧ c.2.2.1 0 i = some (tm x) ∧ c.2.1 3 i = P 12 i ∧ (P 12 i = 0 ∨ P 12 i = 1) ∧ T x ∧ rt x = x ∧ rl x = [] ∧ tn (P 7 x) ≤ 24 ∧ P 4 x = nI t0
/-- what the latest match left -/
def pgR (V : Nat → Prop) (tm : Nat → Nat) (c : cS) (s : mS) : Prop := ∃ l, l ≤ 60 ∧ c.1 21 = nI l ∧ s.1 54 = nI l ∧ (∀ i, i < l → c.2.1 6 i = s.2 37 i) ∧ ∀ k, k < 8 → (c.2.2.1 3 k = none ∧ s.2 38 k = -1) ∨ ∃ v, V v ∧ c.2.2.1 3 k = some (tm v) ∧ s.2 38 k = nI v
def cpF (cc : List Nat) : Nat → Nat := fun i => cc.getD i 0
/-- the terms of the cases -/
def tCs (T : Nat → Prop) (rt : Nat → Nat) (cc : List Nat) : Nat → Prop := fun k => T k ∧ rt k ∈ cc
/-- the tree -/
def hbR (E : gE) (a k : Nat) (P : Nat → Nat → Int32) (N t0 : Nat) (rt : Nat → Nat) (rl : Nat → List Nat) (T : Nat → Prop) (tm : Nat → Nat) (ob : Nat → Int32) (cc : List Nat) (c : cS) (u : uS) (n sl : Nat) (s : mS) : Prop := ∃ ks sp ps qs ms, hpOk E a (E.1.heap.size + 66 + 4 * k) (2698980 + 40 * k) c u n sl ks sp ps qs ms ∧
  ((c.1 1 = 0 ∧ s.1 19 = 0 ∧ (¬ c.1 2 = 0 → ¬ cc = [] ∧ aTree P t0 (cpF cc) cc.length = none)) ∨
   (¬ c.1 1 = 0 ∧ c.1 2 = 0 ∧ ¬ s.1 19 = 0 ∧ ¬ cc = [] ∧ ∃ st nk Z pl X, aTree P t0 (cpF cc) cc.length = some st ∧ clT E a (E.1.heap.size + 66 + 4 * k) (2698980 + 40 * k) P N t0 tm ob (tCs T rt cc) cc.length (cpF cc) c u n sl ks [] sp ps qs ms nk Z st ∧ eSt P N t0 (posF rt rl cc) pl X an0 st s))
def rI (E : gE) (a k : Nat) (P : Nat → Nat → Int32) (N t0 : Nat) (rt : Nat → Nat) (rl : Nat → List Nat) (T V : Nat → Prop) (tm : Nat → Nat) (ob : Nat → Int32) (pp vv cc : List Nat) (c : cS) (u : uS) (n sl : Nat) (s : mS) : Prop :=
  sPA s P ∧ tyR P c ∧ (s.1 5 = nI N ∧ N + cc.length ≤ k ∧ k ≤ 512 ∧ (s.1 4 = 0 → N = 0) ∧ (c.1 0 = 0 ↔ s.1 4 = 0) ∧ (∀ j, j < N → ndO P rt rl j) ∧ rtO N rt) ∧ tmR P N T V tm ob a n u ∧ piR P t0 rt rl T V tm pp vv cc c s ∧ pgR V tm c s ∧ hbR E a k P N t0 rt rl T tm ob cc c u n sl s
/-- after k calls -/
def RI (E : gE) (a k : Nat) (c : cS) (u : uS) (n sl : Nat) (s : mS) : Prop := a = E.1.heap.size ∧ (∀ q, q < a + 66 → u.1 q = 0) ∧ a + 66 ≤ n ∧ ∃ P N t0 rt rl T V tm ob pp vv cc, rI E a k P N t0 rt rl T V tm ob pp vv cc c u n sl s
def LI (E : gE) (a k : Nat) (G : gS) : Prop := 512 < k ∨ ∃ c u n sl s fo, lI E a G c u n sl s fo ∧ RI E a k c u n sl s
variable {E : gE} {a k N t0 n sl n' sl' : Nat} {P P' : Nat → Nat → Int32} {rt : Nat → Nat} {rl : Nat → List Nat} {T V : Nat → Prop} {tm : Nat → Nat} {ob : Nat → Int32} {pp vv cc : List Nat} {c c' : cS} {u u' : uS} {s s' : mS}
theorem cpF_at {i x : Nat} (h : cc[i]? = some x) : cpF cc i = x := by
  unfold cpF
  rw [List.getD_eq_getElem?_getD, h]
  rfl
theorem cpF_ex {i : Nat} (h : i < cc.length) : cc[i]? = some (cpF cc i) := by
  unfold cpF
  rw [List.getD_eq_getElem?_getD, List.getElem?_eq_getElem h]
  rfl
theorem rm_all : 600000 ≤ room_1.cells ∧ 7290000 ≤ room_1.slots := ⟨by decide, by decide⟩
/-- what the tree's contracts ask -/
theorem rI_wf (h : rI E a k P N t0 rt rl T V tm ob pp vv cc c u n sl s) : wfA P N (posF rt rl cc) ∧ wfB P N ∧ wfK P N ∧ wfC P N (posF rt rl cc) t0 cc.length (cpF cc) ∧ (∀ π, tyP P t0 π < 16) ∧ N ≤ 512 ∧ t0 < 16 ∧ cc.length ≤ 20 := by
  obtain ⟨-, ⟨ty, -⟩, ⟨-, hN, hk, -, -, hnd, -⟩, tr, ⟨-, -, -, -, -, -, -, -, -, -, -, c20, ht0, hcc⟩, -⟩ := h
  refine ⟨nd_wfA ty (by omega) hnd, nd_wfB (by omega) hnd, nd_wfK hnd, fun i hi => ?_, fun π => tyP_lt ty.2.2 π t0 ht0, by omega, ht0, c20⟩
  obtain ⟨x1, x2, x3, x4, x5, x6, x7, x8, x9⟩ := hcc i _ (cpF_ex hi)
  refine ⟨x1, (tr.1 _ x5).1, x8, x9, ?_⟩
  unfold posF
  rw [x6, if_pos (List.mem_of_getElem? (cpF_ex hi)), x7]
  rfl
theorem bse_rt (hN : N ≤ 512) (h : ∀ j, j < N → ndO P rt rl j) : ∀ (f k : Nat), k < N → rt (bse P f k) = rt k
  | 0, _, _ => rfl
  | f + 1, k, hk => by
    simp only [bse]
    by_cases h4 : P 3 k = 4
    · obtain ⟨w, v, -, -, hv, e6, -, -, -, -, r1, -⟩ := (h k hk).2.2.2.2.2.1 h4
      rw [if_pos h4, e6, tnI (by omega), bse_rt hN h f v (by omega), r1]
    · rw [if_neg h4]
theorem tCs_P (hN : N ≤ 512) (h : ∀ j, j < N → ndO P rt rl j) (tp : tmP P N tm ob T) : tmP P N tm ob (tCs T rt cc) := by
  intro k hk
  obtain ⟨p1, p2, p3, p4, p5, p6⟩ := tp k hk.1
  have wf := nd_wfN hN h
  have hb := bse_ok wf 512 k (by omega) p1
  have er := bse_rt hN h 512 k p1
  refine ⟨p1, p2, p3, p4, fun q => ?_, fun q i hi => ?_⟩
  · obtain ⟨v, v', hv, e6, hv', e6', -, -, -, -, -, r1, -, r1', -⟩ := (h _ hb.1).2.2.2.2.2.2.1 q
    have := p5 q
    rw [e6, e6', tnI (by omega), tnI (by omega)] at this ⊢
    exact ⟨⟨this.1, by rw [r1, er]; exact hk.2⟩, ⟨this.2, by rw [r1', er]; exact hk.2⟩⟩
  · obtain ⟨T', w, -, -, -, -, -, -, hp, -⟩ := (h _ hb.1).2.2.2.2.2.2.2 q
    obtain ⟨v, hv, e6, -, r1, -⟩ := hp i hi
    have := p6 q i hi
    rw [e6, tnI (by omega)] at this ⊢
    exact ⟨this, by rw [r1, er]; exact hk.2⟩
theorem tmW_sub {T' : Nat → Prop} (h : tmW P u a tm ob T) (hT : ∀ k, T' k → T k) : tmW P u a tm ob T' := fun k hk => h k (hT k hk)
theorem rI_cK (ty : tyR P c) (h : piR P t0 rt rl T V tm pp vv cc c s) : cK P cc.length (cpF cc) tm c := by
  obtain ⟨-, -, -, -, -, -, -, -, -, -, c3, c20, ht0, hcc⟩ := h
  refine ⟨c3, fun k hk => ?_, ty.2.1, fun t w ht hw => ?_⟩
  · obtain ⟨x1, x2, x3, -⟩ := hcc k _ (cpF_ex hk)
    exact ⟨x3, x2⟩
  · obtain ⟨v, hv, e⟩ := ty.1.1 t
    rw [e, tnI (by omega)] at hw
    refine ((ty.2.2 t w ht (by omega)).2 (fun z => ?_)).1
    rw [e] at z
    have := nI_inj (b := v) (b' := 0) (by omega) (by omega) z
    omega
end NL
