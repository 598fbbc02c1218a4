/-! The class's lists as lists -/
section AN
variable {E : gE} {d : Nat} {G G0 : gS} {a : Nat} {c c' : cS} {u u' : uS} {n n' sl sl' : Nat} {k im is D kb B : Nat} {bs : List Nat}
/-- all objects lie behind the class, below n -/
def uOk (u : uS) (a n : Nat) : Prop := ∀ q, u.1 q ≠ 0 → a + 24 ≤ q ∧ q < n
/-- how long a list's array is -/
def lCap (E : gE) (c : cS) (u : uS) (D : Nat) : Nat := if c.2.2.2 D = gDef E then 0 else u.2.1 (c.2.2.2 D)
/-- the list holds bs, objects of kind kb; B bounds what it has held -/
def lOk (E : gE) (c : cS) (u : uS) (a n is D kb B : Nat) (bs : List Nat) : Prop :=
  c.1 is = nI bs.length ∧ ((bs = [] ∧ c.2.2.2 D = gDef E) ∨ (zIs u a (c.2.2.2 D) (9 + D) ∧ c.2.2.2 D < n ∧ 10 ≤ u.2.1 (c.2.2.2 D) ∧ bs.length ≤ u.2.1 (c.2.2.2 D) ∧ u.2.1 (c.2.2.2 D) ≤ 10 + 2 * B ∧ ∀ i b, bs[i]? = some b → u.2.2.2 (c.2.2.2 D) i = some b)) ∧ bs.length ≤ B ∧ ∀ b ∈ bs, zIs u a b kb ∧ b < n
/-- below n nothing of the objects has changed but at q0 -/
def uFr (u u' : uS) (n q0 : Nat) : Prop := (∀ q, q < n → u'.1 q = u.1 q) ∧ ∀ q, q < n → q ≠ q0 → u'.2.1 q = u.2.1 q ∧ u'.2.2.1 q = u.2.2.1 q ∧ u'.2.2.2 q = u.2.2.2 q
/-- of the class nothing has changed but that list -/
def cFr (c c' : cS) (im is D : Nat) : Prop := (∀ j, j ≠ im → j ≠ is → c'.1 j = c.1 j) ∧ c'.2.1 = c.2.1 ∧ c'.2.2.1 = c.2.2.1 ∧ ∀ j, j ≠ D → c'.2.2.2 j = c.2.2.2 j
theorem zIs_fr {q0 q kq : Nat} (h : uFr u u' n q0) (hz : zIs u a q kq) (hq : q < n) : zIs u' a q kq := ⟨(h.1 q hq).trans hz.1, hz.2⟩
theorem lOk_get (h : lOk E c u a n is D kb B bs) {i b : Nat} (hi : bs[i]? = some b) : zIs u a (c.2.2.2 D) (9 + D) ∧ i < u.2.1 (c.2.2.2 D) ∧ u.2.2.2 (c.2.2.2 D) i = some b ∧ i < bs.length ∧ zIs u a b kb ∧ b < n := by
  have hlt : i < bs.length := (List.getElem?_eq_some_iff.mp hi).1
  obtain ⟨h1, h2, h3, h4⟩ := h
  rcases h2 with ⟨rfl, -⟩ | ⟨g1, g2, g3, g4, g5, g6⟩
  · simp at hlt
  · have := h4 b (List.mem_of_getElem? hi)
    exact ⟨g1, by omega, g6 i b hi, hlt, this.1, this.2⟩
theorem m_K_get (hL : lK k im is D) (h : lOk E c u a n is D kb B bs) (hB : B ≤ 6000) {i b : Nat} (hi : bs[i]? = some b) : GM E Y_ArrayList_get (d + 2) [.ref (a + k), .int (nI i)] (yW E G a c u n sl) (rIs (some (.ref b)) (yW E G a c u n sl)) := by
  obtain ⟨g1, g2, g3, g4, -, -⟩ := lOk_get h hi
  have hb := h.2.2.1
  exact m_L_get hL g1 (nI_hi (by omega)) g2 g3 (by rw [h.1, Int32.lt_iff_toInt_lt, nI_hi (by omega), nI_hi (by omega)]; omega)
/-- what stays of a list whose own things stay -/
theorem lOk_fr {q0 : Nat} (h : lOk E c u a n is D kb B bs) (hu : uFr u u' n q0) (hn : n ≤ n') (hc1 : c'.1 is = c.1 is) (hc2 : c'.2.2.2 D = c.2.2.2 D) (hq : c.2.2.2 D ≠ q0) : lOk E c' u' a n' is D kb B bs := by
  obtain ⟨h1, h2, h3, h4⟩ := h
  refine ⟨hc1.trans h1, ?_, h3, fun b hb => ⟨zIs_fr hu (h4 b hb).1 (h4 b hb).2, by have := (h4 b hb).2; omega⟩⟩
  rw [hc2]
  rcases h2 with g | ⟨g1, g2, g3, g4, g5, g6⟩
  · exact Or.inl g
  · have e := hu.2 _ g2 hq
    refine Or.inr ⟨zIs_fr hu g1 g2, by omega, ?_, ?_, ?_, ?_⟩
    · rw [e.1]; exact g3
    · rw [e.1]; exact g4
    · rw [e.1]; exact g5
    · rw [e.2.2]; exact g6
theorem lCap_fr {q0 : Nat} (h : lOk E c u a n is D kb B bs) (hu : uFr u u' n q0) (hc2 : c'.2.2.2 D = c.2.2.2 D) (hq : c.2.2.2 D ≠ q0) : lCap E c' u' D = lCap E c u D := by
  obtain ⟨h1, h2, h3, h4⟩ := h
  unfold lCap
  rw [hc2]
  rcases h2 with ⟨-, g⟩ | ⟨g1, g2, -⟩
  · rw [if_pos g, if_pos g]
  · rw [(hu.2 _ g2 hq).1]
/-- what an object gets at the end of a list -/
def aQ (E : gE) (G : gS) (a im is D kb B : Nat) (bs : List Nat) (c : cS) (u : uS) (n sl b : Nat) : gO → gS → Prop := fun o G' =>
  o = .inl (some (.int 1)) ∧ ∃ c' u' n' sl', G' = yW E G a c' u' n' sl' ∧ lOk E c' u' a n' is D kb B (bs ++ [b]) ∧ cFr c c' im is D ∧ uFr u u' n (c.2.2.2 D) ∧ uOk u' a n' ∧ n ≤ n' ∧ n' + lCap E c u D ≤ n + lCap E c' u' D ∧ sl' + 4 * lCap E c u D ≤ sl + 4 * lCap E c' u' D ∧ sl ≤ sl'
theorem cFr_1 (hL : lK k im is D) {x y : Int32} : cFr c (cF (cF c im x) is y) im is D ∧ (cF (cF c im x) is y).1 is = y := by
  refine ⟨⟨fun j h1 h2 => ?_, rfl, rfl, fun j _ => rfl⟩, up_at⟩
  show upd (upd c.1 im x) is y j = _
  rw [up_ne h2, up_ne h1]
theorem cFr_2 (hL : lK k im is D) {x y : Int32} {z : Nat} : cFr c (cF (cD (cF c im x) D z) is y) im is D ∧ (cF (cD (cF c im x) D z) is y).1 is = y ∧ (cF (cD (cF c im x) D z) is y).2.2.2 D = z := by
  refine ⟨⟨fun j h1 h2 => ?_, rfl, rfl, fun j h => upN_ne h⟩, up_at, upN_at⟩
  show upd (upd c.1 im x) is y j = _
  rw [up_ne h2, up_ne h1]
theorem app_get {b : Nat} {i x : Nat} (h : (bs ++ [b])[i]? = some x) : (i < bs.length ∧ bs[i]? = some x) ∨ (i = bs.length ∧ x = b) := by
  rcases Nat.lt_or_ge i bs.length with hlt | hge
  · rw [List.getElem?_append_left hlt] at h
    exact Or.inl ⟨hlt, h⟩
  · rw [List.getElem?_append_right hge] at h
    have hl := (List.getElem?_eq_some_iff.mp h).1
    simp at hl
    have e : i - bs.length = 0 := by omega
    rw [e] at h
    exact Or.inr ⟨by omega, (Option.some.inj h).symm⟩
theorem m_K_add (hL : lK k im is D) (hg : gDef E < a) (hu : uOk u a n) (ha : a + 24 ≤ n) (h : lOk E c u a n is D kb B bs) (hk : kb = 1 ∨ kb = 5 ∨ kb = 6 ∨ kb = 7) (hB : B ≤ 6000) (hl : bs.length < B) {b : Nat} (hb : zIs u a b kb) (hbn : b < n) (hc : n + 1 ≤ E.1.heap.size + room_1.cells) (hs : sl + 20000 ≤ room_1.slots) : GM E Y_ArrayList_add (d + 6) [.ref (a + k), .ref b] (yW E G a c u n sl) (aQ E G a im is D kb B bs c u n sl b) := by
  obtain ⟨h1, h2, h3, h4⟩ := id h
  have hmem : ∀ (w : uS) (m : Nat), (∀ x ∈ bs, zIs w a x kb ∧ x < m) → zIs w a b kb → b < m → ∀ x ∈ bs ++ [b], zIs w a x kb ∧ x < m := fun w m g1 g2 g3 x hx => by
    rcases List.mem_append.mp hx with hx | hx
    · exact g1 x hx
    · rcases List.mem_singleton.mp hx with rfl
      exact ⟨g2, g3⟩
  have hlen : (bs ++ [b]).length = bs.length + 1 := by simp
  rcases h2 with ⟨rfl, hD⟩ | ⟨g1, g2, g3, g4, g5, g6⟩
  · -- the first of all
    have K := m_L_add1 (E := E) (d := d) (G := G) (a := a) (c := c) (u := u) (n := n) (sl := sl) hL hD h1 ha hc (by omega) hb hbn hk
    refine K.mono (fun o G' q => ?_)
    obtain ⟨rfl, rfl⟩ := q
    obtain ⟨f1, f2, f3⟩ := cFr_2 (c := c) hL (x := c.1 im + 1) (y := nI (0 + 1)) (z := n)
    have hdn : n ≠ gDef E := by omega
    have uf : uFr u (uT (uN u n (9 + D) 10 (fun _ => 0) (fun _ => none)) n 0 (some b)) n (c.2.2.2 D) := by
      refine ⟨fun q hq => upN_ne (by omega), fun q hq _ => ⟨upN_ne (by omega), upA_ne (by omega), ?_⟩⟩
      rw [up_T (by omega)]
      exact upT_ne (by omega)
    have eL : (uT (uN u n (9 + D) 10 (fun _ => 0) (fun _ => none)) n 0 (some b)).2.1 n = 10 := upN_at
    have ecap0 : lCap E c u D = 0 := if_pos hD
    have ecap1 : lCap E (cF (cD (cF c im (c.1 im + 1)) D n) is (nI (0 + 1))) (uT (uN u n (9 + D) 10 (fun _ => 0) (fun _ => none)) n 0 (some b)) D = 10 := by
      unfold lCap
      rw [f3, if_neg hdn, eL]
    refine ⟨rfl, _, _, _, _, rfl, ⟨f2, Or.inr ?_, by simp; omega, ?_⟩, f1, uf, fun q hq => ?_, by omega, by omega, by omega, by omega⟩
    · rw [f3, eL]
      refine ⟨⟨upN_at, ha⟩, by omega, by omega, by simp, by omega, fun i x hx => ?_⟩
      rw [at_T]
      rcases app_get hx with ⟨e, -⟩ | ⟨e, rfl⟩
      · simp at e
      · rw [show i = 0 from e]
        simp [va_up]
    · refine hmem _ _ (fun x hx => by cases hx) ?_ (by omega)
      exact zIs_fr uf hb hbn
    · by_cases e : q = n
      · subst e
        exact ⟨ha, by omega⟩
      · have hq' : upN u.1 n (9 + D) q ≠ 0 := hq
        rw [upN_ne e] at hq'
        have := hu q hq'
        exact ⟨this.1, by omega⟩
  · by_cases hfull : bs.length < u.2.1 (c.2.2.2 D)
    · have K := m_L_add0 (E := E) (d := d + 5) (G := G) (a := a) (c := c) (u := u) (n := n) (sl := sl) (j := bs.length) hL g1 rfl (by omega) hfull hb hk h1
      refine K.mono (fun o G' q => ?_)
      obtain ⟨rfl, rfl⟩ := q
      obtain ⟨f1, f2⟩ := cFr_1 (c := c) hL (x := c.1 im + 1) (y := nI (bs.length + 1))
      have ecap : lCap E (cF (cF c im (c.1 im + 1)) is (nI (bs.length + 1))) (uT u (c.2.2.2 D) bs.length (some b)) D = lCap E c u D := rfl
      refine ⟨rfl, _, _, _, _, rfl, ⟨by rw [hlen]; exact f2, Or.inr ⟨g1, g2, g3, by rw [hlen]; exact hfull, g5, fun i x hx => ?_⟩, by omega, hmem _ _ h4 hb hbn⟩, f1, ⟨fun _ _ => rfl, fun q _ hq => ⟨rfl, rfl, up_T hq⟩⟩, hu, Nat.le_refl _, by omega, by omega, by omega⟩
      show (uT u (c.2.2.2 D) bs.length (some b)).2.2.2 (c.2.2.2 D) i = some x
      rw [at_T]
      rcases app_get hx with ⟨e, hx'⟩ | ⟨e, rfl⟩
      · simp only [va_up]
        rw [if_neg (by omega)]
        exact g6 i x hx'
      · simp [va_up, e]
    · have eM : u.2.1 (c.2.2.2 D) = bs.length := by omega
      have K := m_L_add2 (E := E) (d := d) (G := G) (a := a) (c := c) (u := u) (n := n) (sl := sl) (M := bs.length) hL g1 g2 ha eM (by omega) (by omega) hk (fun i hi y hy => by
        have hx : bs[i]? = some bs[i] := List.getElem?_eq_getElem hi
        have := g6 i _ hx
        rw [this] at hy
        cases hy
        exact h4 _ (List.getElem_mem hi)) hc (by omega) h1 hb hbn
      refine K.mono (fun o G' q => ?_)
      obtain ⟨rfl, rfl⟩ := q
      obtain ⟨f1, f2, f3⟩ := cFr_2 (c := c) hL (x := c.1 im + 1) (y := nI (bs.length + 1)) (z := n)
      have hdn : n ≠ gDef E := by omega
      have hdo : c.2.2.2 D ≠ gDef E := by have := g1.2; omega
      have uf : uFr u (uT (uG u n (c.2.2.2 D) (9 + D) (bs.length + bs.length / 2) bs.length) n bs.length (some b)) n (c.2.2.2 D) := by
        refine ⟨fun q hq => upN_ne (by omega), fun q hq _ => ⟨upN_ne (by omega), upA_ne (by omega), ?_⟩⟩
        rw [up_T (by omega)]
        show upT (upT u.2.2.2 n (fun _ => none)) n _ q = _
        rw [upT_ne (by omega), upT_ne (by omega)]
      have eL : (uT (uG u n (c.2.2.2 D) (9 + D) (bs.length + bs.length / 2) bs.length) n bs.length (some b)).2.1 n = bs.length + bs.length / 2 := upN_at
      have eT : (uT (uG u n (c.2.2.2 D) (9 + D) (bs.length + bs.length / 2) bs.length) n bs.length (some b)).2.2.2 n = va_up (va_cpy (u.2.2.2 (c.2.2.2 D)) (fun _ => none) 0 0 bs.length) bs.length (some b) := by
        rw [at_T]
        show va_up (upT (upT u.2.2.2 n (fun _ => none)) n _ n) _ _ = _
        rw [upT_at]
      have ecap0 : lCap E c u D = bs.length := by unfold lCap; rw [if_neg hdo, eM]
      have ecap1 : lCap E (cF (cD (cF c im (c.1 im + 1)) D n) is (nI (bs.length + 1))) (uT (uG u n (c.2.2.2 D) (9 + D) (bs.length + bs.length / 2) bs.length) n bs.length (some b)) D = bs.length + bs.length / 2 := by
        unfold lCap
        rw [f3, if_neg hdn, eL]
      refine ⟨rfl, _, _, _, _, rfl, ⟨by rw [hlen]; exact f2, Or.inr ?_, by omega, ?_⟩, f1, uf, fun q hq => ?_, by omega, by omega, by omega, by omega⟩
      · rw [f3, eL, eT]
        refine ⟨⟨upN_at, ha⟩, by omega, by omega, by omega, by omega, fun i x hx => ?_⟩
        rcases app_get hx with ⟨e, hx'⟩ | ⟨e, rfl⟩
        · simp only [va_up]
          rw [if_neg (by omega)]
          simp only [va_cpy]
          rw [if_pos (by omega), Nat.sub_zero, Nat.zero_add]
          exact g6 i x hx'
        · simp [va_up, e]
      · refine hmem _ _ (fun x hx => ⟨zIs_fr uf (h4 x hx).1 (h4 x hx).2, by have := (h4 x hx).2; omega⟩) (zIs_fr uf hb hbn) (by omega)
      · by_cases e : q = n
        · subst e
          exact ⟨ha, by omega⟩
        · have hq' : upN u.1 n (9 + D) q ≠ 0 := hq
          rw [upN_ne e] at hq'
          have := hu q hq'
          exact ⟨this.1, by omega⟩
/-- a place's element is another one -/
theorem m_K_set (hL : lK k im is D) (h : lOk E c u a n is D kb B bs) (hk : kb = 1 ∨ kb = 5 ∨ kb = 6 ∨ kb = 7) (hB : B ≤ 6000) {i b x : Nat} (hi : bs[i]? = some b) (hx : zIs u a x kb) (hxn : x < n) : GM E Y_ArrayList_set (d + 2) [.ref (a + k), .int (nI i), .ref x] (yW E G a c u n sl) (rPost (some (.ref b)) (fun G' => ∃ u', G' = yW E G a c u' n sl ∧ lOk E c u' a n is D kb B (bs.set i x) ∧ uFr u u' n (c.2.2.2 D) ∧ (∀ q, u'.1 q = u.1 q) ∧ ∀ q, u'.2.1 q = u.2.1 q)) := by
  obtain ⟨g1, g2, g3, g4, -, -⟩ := lOk_get h hi
  obtain ⟨h1, h2, h3, h4⟩ := id h
  have K := m_L_set (E := E) (d := d) (G := G) (a := a) (c := c) (u := u) (n := n) (sl := sl) hL g1 (nI_hi (n := i) (by omega)) g2 g3 (by rw [h1, Int32.lt_iff_toInt_lt, nI_hi (by omega), nI_hi (by omega)]; omega) hx hk
  refine K.mono (fun o G' q => ?_)
  obtain ⟨rfl, rfl⟩ := q
  refine ⟨rfl, _, rfl, ⟨by rw [List.length_set]; exact h1, ?_, by rw [List.length_set]; exact h3, fun y hy => ?_⟩, ⟨fun _ _ => rfl, fun q _ hq => ⟨rfl, rfl, up_T hq⟩⟩, fun _ => rfl, fun _ => rfl⟩
  · rcases h2 with ⟨rfl, -⟩ | ⟨e1, e2, e3, e4, e5, e6⟩
    · simp at g4
    · refine Or.inr ⟨e1, e2, e3, by rw [List.length_set]; exact e4, e5, fun j y hy => ?_⟩
      rw [at_T]
      simp only [va_up]
      by_cases e : j = i
      · subst e
        rw [List.getElem?_set_self g4] at hy
        rw [if_pos rfl]
        exact hy
      · rw [List.getElem?_set_ne (by omega)] at hy
        rw [if_neg e]
        exact e6 j y hy
  · rcases List.mem_or_eq_of_mem_set hy with hy | rfl
    · exact h4 y hy
    · exact ⟨hx, hxn⟩
/-- a list without one of its elements -/
theorem m_K_remove (hL : lK k im is D) {l r : List Nat} {x : Nat} (h : lOk E c u a n is D kb B (l ++ x :: r)) (hk : kb = 1 ∨ kb = 5 ∨ kb = 6 ∨ kb = 7) (hB : B ≤ 6000) : GM E Y_ArrayList_remove (d + 2) [.ref (a + k), .int (nI l.length)] (yW E G a c u n sl) (rPost (some (.ref x)) (fun G' => ∃ c' u', G' = yW E G a c' u' n sl ∧ lOk E c' u' a n is D kb B (l ++ r) ∧ cFr c c' im is D ∧ c'.2.2.2 D = c.2.2.2 D ∧ uFr u u' n (c.2.2.2 D) ∧ (∀ q, u'.1 q = u.1 q) ∧ (∀ q, u'.2.1 q = u.2.1 q) ∧ c.2.2.2 D < n ∧ l.length + r.length < u.2.1 (c.2.2.2 D))) := by
  have hlen : (l ++ x :: r).length = l.length + r.length + 1 := by simp; omega
  have hlen2 : (l ++ r).length = l.length + r.length := by simp
  obtain ⟨g1, g2, g3, g4, -, -⟩ := lOk_get h (mid_at (l := l) (r := r) (x := x))
  obtain ⟨h1, h2, h3, h4⟩ := id h
  rcases h2 with ⟨e, -⟩ | ⟨e1, e2, e3, e4, e5, e6⟩
  · simp at e
  have K := m_L_remove (E := E) (d := d) (G := G) (a := a) (c := c) (u := u) (n := n) (sl := sl) (j := l.length) (L := l.length + r.length) (kb := kb) hL g1 rfl (by omega) (by rw [h1, hlen]) (by omega) (by omega) hk (fun i hi y hy => by
    obtain ⟨z, hz⟩ : ∃ z, (l ++ x :: r)[i]? = some z := ⟨_, List.getElem?_eq_getElem (by omega)⟩
    have := e6 i z hz
    rw [this] at hy
    rw [← Option.some.inj hy]
    exact (h4 z (List.mem_of_getElem? hz)).1) g3
  refine K.mono (fun o G' q => ?_)
  obtain ⟨rfl, rfl⟩ := q
  obtain ⟨f1, f2⟩ := cFr_1 (c := c) hL (x := c.1 im + 1) (y := nI (l.length + r.length))
  refine ⟨rfl, _, _, rfl, ⟨by rw [hlen2]; exact f2, Or.inr ⟨e1, e2, e3, by show (l ++ r).length ≤ u.2.1 (c.2.2.2 D); omega, e5, fun i y hy => ?_⟩, by omega, fun y hy => h4 y ?_⟩, f1, rfl, ⟨fun _ _ => rfl, fun q _ hq => ⟨rfl, rfl, upT_ne hq⟩⟩, fun _ => rfl, fun _ => rfl, e2, by omega⟩
  · have hi : i < (l ++ r).length := (List.getElem?_eq_some_iff.mp hy).1
    show upT u.2.2.2 (c.2.2.2 D) (rmF _ _ _) (c.2.2.2 D) i = some y
    rw [upT_at]
    simp only [rmF, va_up]
    rw [if_neg (by omega)]
    rcases del_get (x := x) hy with ⟨hlt, hy'⟩ | ⟨hge, hy'⟩
    · by_cases e : l.length < l.length + r.length
      · rw [if_pos e]
        simp only [va_cpy]
        rw [if_neg (by omega)]
        exact e6 i y hy'
      · rw [if_neg e]
        exact e6 i y hy'
    · rw [if_pos (by omega)]
      simp only [va_cpy]
      rw [if_pos (by omega), show l.length + 1 + (i - l.length) = i + 1 by omega]
      exact e6 (i + 1) y hy'
  · rcases List.mem_append.mp hy with hy | hy
    · exact List.mem_append_left _ hy
    · exact List.mem_append_right _ (List.mem_cons_of_mem _ hy)
theorem ins_get {l r : List Nat} {x y i : Nat} (h : (l ++ x :: r)[i]? = some y) : (i < l.length ∧ (l ++ r)[i]? = some y) ∨ (i = l.length ∧ y = x) ∨ (l.length < i ∧ (l ++ r)[i - 1]? = some y) := by
  rcases Nat.lt_trichotomy i l.length with e | e | e
  · rw [List.getElem?_append_left e] at h
    exact Or.inl ⟨e, by rw [List.getElem?_append_left e]; exact h⟩
  · subst e
    rw [mid_at] at h
    exact Or.inr (Or.inl ⟨rfl, (Option.some.inj h).symm⟩)
  · rw [List.getElem?_append_right (by omega), show i - l.length = (i - 1 - l.length) + 1 by omega] at h
    exact Or.inr (Or.inr ⟨e, by rw [List.getElem?_append_right (by omega)]; exact h⟩)
theorem m_K_insert (hL : lK k im is D) {l r : List Nat} {x : Nat} (h : lOk E c u a n is D kb B (l ++ r)) (hk : kb = 1 ∨ kb = 5 ∨ kb = 6 ∨ kb = 7) (hB : B ≤ 6000) (hlB : l.length + r.length < B) (hD : zIs u a (c.2.2.2 D) (9 + D)) (hcap : l.length + r.length < u.2.1 (c.2.2.2 D)) (hu : uOk u a n) (hcb : u.2.1 (c.2.2.2 D) ≤ 10 + 2 * B) (hx : zIs u a x kb) (hxn : x < n) (h10 : 10 ≤ u.2.1 (c.2.2.2 D)) (hg : gDef E < a) : GM E Y_ArrayList_add3 (d + 1) [.ref (a + k), .int (nI l.length), .ref x] (yW E G a c u n sl) (rPost none (fun G' => ∃ c' u', G' = yW E G a c' u' n sl ∧ lOk E c' u' a n is D kb B (l ++ x :: r) ∧ cFr c c' im is D ∧ c'.2.2.2 D = c.2.2.2 D ∧ uFr u u' n (c.2.2.2 D) ∧ (∀ q, u'.1 q = u.1 q) ∧ (∀ q, u'.2.1 q = u.2.1 q))) := by
  have hlen : (l ++ x :: r).length = l.length + r.length + 1 := by simp; omega
  have hlen2 : (l ++ r).length = l.length + r.length := by simp
  obtain ⟨h1, h2, h3, h4⟩ := id h
  have e6 : ∀ i b, (l ++ r)[i]? = some b → u.2.2.2 (c.2.2.2 D) i = some b := by
    rcases h2 with ⟨e, -⟩ | ⟨e1, e2, e3, e4, e5, e6⟩
    · intro i b hb
      rw [e] at hb
      simp at hb
    · exact e6
  have hDn : c.2.2.2 D < n := (hu _ (by rw [hD.1]; exact hL.2.2.1.1)).2
  have K := m_L_insert (E := E) (d := d) (G := G) (a := a) (c := c) (u := u) (n := n) (sl := sl) (j := l.length) (L := l.length + r.length) (kb := kb) hL hD rfl (by omega) (by rw [h1, hlen2]) (by omega) hcap hx hk (fun i hi y hy => by
    obtain ⟨z, hz⟩ : ∃ z, (l ++ r)[i]? = some z := ⟨_, List.getElem?_eq_getElem (by omega)⟩
    have := e6 i z hz
    rw [this] at hy
    rw [← Option.some.inj hy]
    exact (h4 z (List.mem_of_getElem? hz)).1)
  refine K.mono (fun o G' q => ?_)
  obtain ⟨rfl, rfl⟩ := q
  obtain ⟨f1, f2⟩ := cFr_1 (c := c) hL (x := c.1 im + 1) (y := nI (l.length + r.length + 1))
  refine ⟨rfl, _, _, rfl, ⟨by rw [hlen]; exact f2, Or.inr ⟨hD, hDn, h10, by show (l ++ x :: r).length ≤ u.2.1 (c.2.2.2 D); omega, hcb, fun i y hy => ?_⟩, by omega, fun y hy => ?_⟩, f1, rfl, ⟨fun _ _ => rfl, fun q _ hq => ⟨rfl, rfl, upT_ne hq⟩⟩, fun _ => rfl, fun _ => rfl⟩
  · have hi : i < (l ++ x :: r).length := (List.getElem?_eq_some_iff.mp hy).1
    show upT u.2.2.2 (c.2.2.2 D) (inF _ _ _ _) (c.2.2.2 D) i = some y
    rw [upT_at]
    simp only [inF, va_up]
    rcases ins_get hy with ⟨e, hy'⟩ | ⟨e, rfl⟩ | ⟨e, hy'⟩
    · rw [if_neg (by omega)]
      simp only [va_cpy]
      rw [if_neg (by omega)]
      exact e6 i y hy'
    · rw [if_pos e]
    · rw [if_neg (by omega)]
      simp only [va_cpy]
      rw [if_pos (by omega), show l.length + (i - (l.length + 1)) = i - 1 by omega]
      exact e6 (i - 1) y hy'
  · rcases List.mem_append.mp hy with hy | hy
    · exact h4 y (List.mem_append_left _ hy)
    · rcases List.mem_cons.mp hy with rfl | hy
      · exact ⟨hx, hxn⟩
      · exact h4 y (List.mem_append_right _ hy)
end AN
