/-! Row's moveWishes, open -/
section AP
variable {E : gE} {d : Nat} {G G0 : gS} {a n sl : Nat} {c : cS} {u : uS} {b b2 : Nat} {x x0 : xS} {Q : gO → gS → Prop}
theorem z_tlen {Y : gY} {pc q : Nat} {lv : List (Nat × Value)} {rest : List Value} {v : Int32} (h : zIs u a q 8) (hv : Int32.ofNat (u.2.1 q) = v) (hdg : decode Y.2.1 pc = .ok (.arraylength, 1)) (kk : GT E Y d G0 (pc + 1) lv (.int v :: rest) (yW E G a c u n sl) Q) : GT E Y d G0 pc lv (.ref q :: rest) (yW E G a c u n sl) Q :=
  g_tlen (n := u.2.1 q) (f := u.2.2.2 q) (z_at h (by decide)) hv hdg kk
theorem nI_s1 {k : Nat} (h : k + 1 < 2 ^ 31) : nI (k + 1) - 1 = nI k := i_nI (by
  have := sub_hi (nI_hi h) i1 (by omega)
  rw [Nat.add_sub_cancel] at this
  exact this)
/-- moved to the left by one, from k + 1 on, as far as m -/
def sL {α : Type} (f : Nat → α) (k m : Nat) : Nat → α := fun j => if k ≤ j ∧ j < m then f (j + 1) else f j
theorem sL_s {f : Nat → Int32} {k m : Nat} (h : k ≤ m) : upd (sL f k m) m (sL f k m (m + 1)) = sL f k (m + 1) := by
  funext j
  unfold upd sL
  by_cases e : j = m
  · subst e
    rw [if_pos rfl, if_neg (by omega), if_pos (by omega)]
  · rw [if_neg e]
    by_cases e2 : k ≤ j ∧ j < m
    · rw [if_pos e2, if_pos (by omega)]
    · rw [if_neg e2, if_neg (by omega)]
theorem sL_t {f : Nat → Option Nat} {k m : Nat} (h : k ≤ m) : va_up (sL f k m) m (f (m + 1)) = sL f k (m + 1) := by
  funext j
  unfold va_up sL
  by_cases e : j = m
  · subst e
    rw [if_pos rfl, if_pos (by omega)]
  · rw [if_neg e]
    by_cases e2 : k ≤ j ∧ j < m
    · rw [if_pos e2, if_pos (by omega)]
    · rw [if_neg e2, if_neg (by omega)]
theorem sL_0 {α : Type} {f : Nat → α} {k : Nat} : sL f k k = f := by
  funext j
  unfold sL
  rw [if_neg (by omega)]
def mvL (x : xS) (k m : Nat) : xS := (x.1, sL x.2.1 k m, sL x.2.2.1 k m, x.2.2.2)
theorem mvL_s {k m t : Nat} (h : k ≤ m) (ht : x.2.2.1 (m + 1) = some t) : xT (xP (mvL x k m) m ((mvL x k m).2.1 (m + 1))) m (some t) = mvL x k (m + 1) := by
  refine Prod.ext rfl (Prod.ext (sL_s h) (Prod.ext ?_ rfl))
  show va_up (sL x.2.2.1 k m) m (some t) = sL x.2.2.1 k (m + 1)
  rw [← ht]
  exact sL_t h
theorem mvL_0 {k : Nat} : mvL x k k = x := by
  unfold mvL
  rw [sL_0, sL_0]
/-- moved to the right by D, from m on, of W -/
def sRt {α : Type} (f : Nat → α) (D m W : Nat) : Nat → α := fun j => if m + D ≤ j ∧ j < W + D then f (j - D) else f j
def mvR (x : xS) (D m W : Nat) : xS := (x.1, sRt x.2.1 D m W, sRt x.2.2.1 D m W, x.2.2.2)
theorem mvR_s {D m W t : Nat} (h : m < W) (hD : 1 ≤ D) (ht : x.2.2.1 m = some t) : xT (xP (mvR x D (m + 1) W) (m + D) ((mvR x D (m + 1) W).2.1 m)) (m + D) (some t) = mvR x D m W := by
  refine Prod.ext rfl (Prod.ext (funext fun j => ?_) (Prod.ext (funext fun j => ?_) rfl))
  · show upd (sRt x.2.1 D (m + 1) W) (m + D) (sRt x.2.1 D (m + 1) W m) j = sRt x.2.1 D m W j
    unfold upd sRt
    by_cases e : j = m + D
    · subst e
      rw [if_pos rfl, if_neg (by omega), if_pos (by omega), Nat.add_sub_cancel]
    · rw [if_neg e]
      by_cases e2 : m + 1 + D ≤ j ∧ j < W + D
      · rw [if_pos e2, if_pos (by omega)]
      · rw [if_neg e2, if_neg (by omega)]
  · show va_up (sRt x.2.2.1 D (m + 1) W) (m + D) (some t) j = sRt x.2.2.1 D m W j
    unfold va_up sRt
    by_cases e : j = m + D
    · subst e
      rw [if_pos rfl, if_pos (by omega), Nat.add_sub_cancel]
      exact ht.symm
    · rw [if_neg e]
      by_cases e2 : m + 1 + D ≤ j ∧ j < W + D
      · rw [if_pos e2, if_pos (by omega)]
      · rw [if_neg e2, if_neg (by omega)]
theorem mvR_0 {D W : Nat} : mvR x D W W = x := by
  refine Prod.ext rfl (Prod.ext (funext fun j => ?_) (Prod.ext (funext fun j => ?_) rfl))
  · exact if_neg (by omega)
  · exact if_neg (by omega)
theorem sR_lo {α : Type} {f : Nat → α} {D m W k : Nat} (h : k < m + D) : sRt f D m W k = f k := if_neg (by omega)
/-- a row with a gap of A behind l -/
def hG (x : xS) (ow : Nat) (l : List (Nat × Nat)) (A : Nat) (r : List (Nat × Nat)) (bd : Nat → Option Nat) : Prop := x.1 3 = nI ow ∧ x.1 4 = nI (l.length + A + r.length) ∧ (∀ k q, l[k]? = some q → x.2.1 k = nI q.1 ∧ x.2.2.1 k = some q.2) ∧ (∀ k q, r[k]? = some q → x.2.1 (l.length + A + k) = nI q.1 ∧ x.2.2.1 (l.length + A + k) = some q.2) ∧ ∀ k, k < 8 → x.2.2.2 k = bI (bd k)
theorem hG_X {ow : Nat} {l r : List (Nat × Nat)} {bd : Nat → Option Nat} (h : hG x ow l 0 r bd) : hX x ow (l ++ r) bd := by
  obtain ⟨h1, h2, h3, h4, h5⟩ := h
  refine ⟨h1, by rw [h2, List.length_append]; rfl, fun k q hk => ?_, h5⟩
  rcases Nat.lt_or_ge k l.length with hlt | hge
  · rw [List.getElem?_append_left hlt] at hk
    exact h3 k q hk
  · rw [List.getElem?_append_right hge] at hk
    have := h4 _ q hk
    rw [Nat.add_zero, show l.length + (k - l.length) = k by omega] at this
    exact this
theorem gl {l r : List (Nat × Nat)} {y q : Nat × Nat} {k : Nat} (h : l[k]? = some q) : (l ++ y :: r)[k]? = some q := by
  rw [List.getElem?_append_left (List.getElem?_eq_some_iff.mp h).1]
  exact h
theorem gr {l r : List (Nat × Nat)} {y q : Nat × Nat} {k : Nat} (h : r[k]? = some q) : (l ++ y :: r)[l.length + 1 + k]? = some q := by
  rw [List.getElem?_append_right (by omega), show l.length + 1 + k - l.length = k + 1 by omega]
  exact h
set_option maxHeartbeats 400000 in
set_option maxRecDepth 100000 in
theorem m_R_mvl (hw : rowW u a b) {ow : Nat} {l r : List (Nat × Nat)} {q : Nat × Nat} {bd : Nat → Option Nat} (hx : hX x ow (l ++ q :: r) bd) (hl : (l ++ q :: r).length ≤ 24) (ht : ∀ y ∈ l ++ q :: r, zIs u a y.2 7) : ∀ (f m : Nat), l.length + r.length < m + f → l.length ≤ m → m ≤ l.length + r.length → GT E Y_Row_moveWishes d G0 59 [(0, .ref b), (1, .int (nI (l.length + 1))), (2, .int (-1)), (3, .int (nI (m + 1)))] [] (yW E G a c (uR u b (mvL x l.length m)) n sl) (rPost none (fun G' => ∃ x', G' = yW E G a c (uR u b x') n sl ∧ hG x' ow l 0 r bd)) := by
  have hlen : (l ++ q :: r).length = l.length + r.length + 1 := by simp; omega
  intro f
  induction f with
  | zero => intro m h1 h2; omega
  | succ f ih =>
    intro m h1 hm h2
    have hm1 : (nI (m + 1) + (-1)).toInt = (m : Int) := by
      rw [nI_m (by omega) (by omega)]
      exact nI_hi (by omega)
    by_cases hi : m < l.length + r.length
    · obtain ⟨y, hy⟩ : ∃ y, (l ++ q :: r)[m + 1]? = some y := ⟨_, List.getElem?_eq_getElem (by omega)⟩
      have hy2 := hx.2.2.1 (m + 1) y hy
      refine g_iload_n d_Row_moveWishes_59 rfl ?_
      refine g_aload_n d_Row_moveWishes_60 rfl ?_
      refine r_getF (j := 4) fl_Row_34 hw (by decide) d_Row_moveWishes_61 ?_
      rw [show (mvL x l.length m).1 4 = x.1 4 from rfl, hx.2.1]
      refine g_icmp_ge (tgt := 101) d_Row_moveWishes_64 (by decide) (fun c_64 => ?_) (fun c_64 => ?_)
      · exact absurd c_64 (ige (by omega) (by omega) (by omega))
      refine g_aload_n d_Row_moveWishes_67 rfl ?_
      refine r_getA (j := 0) fl_Row_9 hw (by decide) d_Row_moveWishes_68 ?_
      refine g_iload_n d_Row_moveWishes_71 rfl ?_
      refine g_iload_n d_Row_moveWishes_72 rfl ?_
      refine g_iadd d_Row_moveWishes_73 ?_
      refine g_aload_n d_Row_moveWishes_74 rfl ?_
      refine r_getA (j := 0) fl_Row_9 hw (by decide) d_Row_moveWishes_75 ?_
      refine g_iload_n d_Row_moveWishes_78 rfl ?_
      refine r_ald1 (j := m + 1) hw (nI_hi (by omega)) (by omega) d_Row_moveWishes_79 ?_
      refine r_ast1 (j := m) (v := (mvL x l.length m).2.1 (m + 1)) hw hm1 (by omega) d_Row_moveWishes_80 ?_
      refine g_aload_n d_Row_moveWishes_81 rfl ?_
      refine r_getA (j := 1) fl_Row_17 hw (by decide) d_Row_moveWishes_82 ?_
      refine g_iload_n d_Row_moveWishes_85 rfl ?_
      refine g_iload_n d_Row_moveWishes_86 rfl ?_
      refine g_iadd d_Row_moveWishes_87 ?_
      refine g_aload_n d_Row_moveWishes_88 rfl ?_
      refine r_getA (j := 1) fl_Row_17 hw (by decide) d_Row_moveWishes_89 ?_
      refine g_iload_n d_Row_moveWishes_92 rfl ?_
      refine r_tald (j := m + 1) hw (nI_hi (by omega)) (by omega) (by show sL x.2.2.1 l.length m (m + 1) = some y.2; rw [sL, if_neg (by omega)]; exact hy2.2) d_Row_moveWishes_93 ?_
      refine r_tast (j := m) hw hm1 (by omega) (ht y (List.mem_of_getElem? hy)) d_Row_moveWishes_94 ?_
      rw [mvL_s hm hy2.2]
      have e1 : nI (m + 1) + Int32.ofInt 1 = nI (m + 1 + 1) := nI_1 (m + 1)
      refine g_iinc (v := nI (m + 1 + 1)) d_Row_moveWishes_95 rfl e1 (by decide) rfl ?_
      refine g_goto (tgt := 59) d_Row_moveWishes_98 (by decide) ?_
      exact ih (m + 1) (by omega) (by omega) (by omega)
    · refine g_iload_n d_Row_moveWishes_59 rfl ?_
      refine g_aload_n d_Row_moveWishes_60 rfl ?_
      refine r_getF (j := 4) fl_Row_34 hw (by decide) d_Row_moveWishes_61 ?_
      rw [show (mvL x l.length m).1 4 = x.1 4 from rfl, hx.2.1]
      refine g_icmp_ge (tgt := 101) d_Row_moveWishes_64 (by decide) (fun c_64 => ?_) (fun c_64 => ?_)
      rotate_left
      · exact absurd c_64 (ilt (by omega) (by omega) (by omega))
      refine g_aload_n d_Row_moveWishes_101 rfl ?_
      refine g_dup d_Row_moveWishes_102 rfl ?_
      refine r_getF (j := 4) fl_Row_34 hw (by decide) d_Row_moveWishes_103 ?_
      rw [show (mvL x l.length m).1 4 = x.1 4 from rfl, hx.2.1]
      refine g_iload_n d_Row_moveWishes_106 rfl ?_
      refine g_iadd d_Row_moveWishes_107 ?_
      refine r_putF (j := 4) (v := (nI (l ++ q :: r).length) + ((-1))) fl_Row_34 hw (by decide) d_Row_moveWishes_108 ?_
      refine g_vret rfl d_Row_moveWishes_111 ?_
      have em : m = l.length + r.length := by omega
      subst em
      refine ⟨rfl, _, rfl, hx.1, ?_, fun k y hk => ?_, fun k y hk => ?_, hx.2.2.2⟩
      · show nI (l ++ q :: r).length + (-1) = nI (l.length + 0 + r.length)
        rw [hlen, nI_m (by omega) (by omega)]
        rfl
      · have e := hx.2.2.1 k y (gl hk)
        have hk' : k < l.length := (List.getElem?_eq_some_iff.mp hk).1
        show sL x.2.1 l.length _ k = _ ∧ sL x.2.2.1 l.length _ k = _
        rw [sL, sL, if_neg (by omega), if_neg (by omega)]
        exact e
      · have e := hx.2.2.1 _ y (gr (y := q) (l := l) hk)
        have hk' : k < r.length := (List.getElem?_eq_some_iff.mp hk).1
        show sL x.2.1 l.length _ (l.length + 0 + k) = _ ∧ sL x.2.2.1 l.length _ (l.length + 0 + k) = _
        rw [sL, sL, if_pos (by omega), if_pos (by omega), show l.length + 0 + k + 1 = l.length + 1 + k by omega]
        exact e
set_option maxHeartbeats 400000 in
set_option maxRecDepth 100000 in
theorem m_R_moveL (hw : rowW u a b) {ow : Nat} {l r : List (Nat × Nat)} {q : Nat × Nat} {bd : Nat → Option Nat} (hx : hX x ow (l ++ q :: r) bd) (hl : (l ++ q :: r).length ≤ 24) (ht : ∀ y ∈ l ++ q :: r, zIs u a y.2 7) : GM E Y_Row_moveWishes d [.ref b, .int (nI (l.length + 1)), .int (-1)] (yW E G a c (uR u b x) n sl) (rPost none (fun G' => ∃ x', G' = yW E G a c (uR u b x') n sl ∧ hG x' ow l 0 r bd)) := by
  refine g_entry (by decide) (by simp [Value.category]) (Nat.le_of_ble_eq_true rfl) ?_
  have hlen : (l ++ q :: r).length = l.length + r.length + 1 := by simp; omega
  refine g_iload_n d_Row_moveWishes_0 rfl ?_
  refine g_if_le (tgt := 53) d_Row_moveWishes_1 (by decide) (fun c_1 => ?_) (fun c_1 => absurd c_1 (by decide))
  refine g_iload_n d_Row_moveWishes_53 rfl ?_
  refine g_if_ge (tgt := 101) d_Row_moveWishes_54 (by decide) (fun c_54 => absurd c_54 (by decide)) (fun c_54 => ?_)
  refine g_iload_n d_Row_moveWishes_57 rfl ?_
  refine g_istore_n d_Row_moveWishes_58 (by decide) rfl ?_
  have K := m_R_mvl (E := E) (d := d) (G := G) (G0 := yW E G a c (uR u b x) n sl) (c := c) (n := n) (sl := sl) hw hx hl ht (r.length + 1) l.length (by omega) (by omega) (by omega)
  rw [mvL_0] at K
  exact K
set_option maxHeartbeats 400000 in
set_option maxRecDepth 100000 in
theorem m_R_move0 (hw : rowW u a b) {ow : Nat} {l r : List (Nat × Nat)} {q : Nat × Nat} {bd : Nat → Option Nat} (hx : hX x ow (l ++ q :: r) bd) (hl : (l ++ q :: r).length ≤ 24) (ht : ∀ y ∈ l ++ q :: r, zIs u a y.2 7) : GM E Y_Row_moveWishes d [.ref b, .int (nI (l.length + 1)), .int 0] (yW E G a c (uR u b x) n sl) (rPost none (fun G' => ∃ x', G' = yW E G a c (uR u b x') n sl ∧ hG x' ow l 1 r bd)) := by
  refine g_entry (by decide) (by simp [Value.category]) (Nat.le_of_ble_eq_true rfl) ?_
  have hlen : (l ++ q :: r).length = l.length + r.length + 1 := by simp; omega
  refine g_iload_n d_Row_moveWishes_0 rfl ?_
  refine g_if_le (tgt := 53) d_Row_moveWishes_1 (by decide) (fun c_1 => ?_) (fun c_1 => absurd c_1 (by decide))
  refine g_iload_n d_Row_moveWishes_53 rfl ?_
  refine g_if_ge (tgt := 101) d_Row_moveWishes_54 (by decide) (fun c_54 => ?_) (fun c_54 => absurd c_54 (by decide))
  refine g_aload_n d_Row_moveWishes_101 rfl ?_
  refine g_dup d_Row_moveWishes_102 rfl ?_
  refine r_getF (j := 4) fl_Row_34 hw (by decide) d_Row_moveWishes_103 ?_
  rw [hx.2.1]
  refine g_iload_n d_Row_moveWishes_106 rfl ?_
  refine g_iadd d_Row_moveWishes_107 ?_
  refine r_putF (j := 4) (v := (nI (l ++ q :: r).length) + (0)) fl_Row_34 hw (by decide) d_Row_moveWishes_108 ?_
  refine g_vret rfl d_Row_moveWishes_111 ?_
  refine ⟨rfl, _, rfl, hx.1, ?_, fun k y hk => hx.2.2.1 k y (gl hk), fun k y hk => hx.2.2.1 _ y (gr (y := q) (l := l) hk), hx.2.2.2⟩
  show nI (l ++ q :: r).length + 0 = nI (l.length + 1 + r.length)
  rw [hlen, show l.length + 1 + r.length = l.length + r.length + 1 by omega]
  exact Int32.add_zero _
set_option maxHeartbeats 400000 in
set_option maxRecDepth 100000 in
theorem m_R_mvr (hw : rowW u a b) {ow : Nat} {l r : List (Nat × Nat)} {q : Nat × Nat} {bd : Nat → Option Nat} (hx : hX x ow (l ++ q :: r) bd) (hl : (l ++ q :: r).length ≤ 24) (ht : ∀ y ∈ l ++ q :: r, zIs u a y.2 7) {D : Nat} (hD : 1 ≤ D) (hD2 : l.length + r.length + 1 + D ≤ 24) : ∀ (f m : Nat), m < l.length + f → l.length ≤ m → m ≤ l.length + r.length → GT E Y_Row_moveWishes d G0 11 [(0, .ref b), (1, .int (nI (l.length + 1))), (2, .int (nI D)), (3, .int (nI m))] [] (yW E G a c (uR u b (mvR x D (m + 1) (l.length + r.length + 1))) n sl) (rPost none (fun G' => ∃ x', G' = yW E G a c (uR u b x') n sl ∧ hG x' ow l (D + 1) r bd)) := by
  have hlen : (l ++ q :: r).length = l.length + r.length + 1 := by simp; omega
  intro f
  induction f with
  | zero => intro m h1 h2; omega
  | succ f ih =>
    intro m h1 hm h2
    by_cases hi : l.length < m
    · obtain ⟨y, hy⟩ : ∃ y, (l ++ q :: r)[m]? = some y := ⟨_, List.getElem?_eq_getElem (by omega)⟩
      have hy2 := hx.2.2.1 m y hy
      refine g_iload_n d_Row_moveWishes_11 rfl ?_
      refine g_iload_n d_Row_moveWishes_12 rfl ?_
      refine g_icmp_lt (tgt := 50) d_Row_moveWishes_13 (by decide) (fun c_13 => ?_) (fun c_13 => ?_)
      · exact absurd c_13 (fun q => by have := (lt_hi (nI_hi (by omega)) (nI_hi (by omega))).mp q; omega)
      refine g_aload_n d_Row_moveWishes_16 rfl ?_
      refine r_getA (j := 0) fl_Row_9 hw (by decide) d_Row_moveWishes_17 ?_
      refine g_iload_n d_Row_moveWishes_20 rfl ?_
      refine g_iload_n d_Row_moveWishes_21 rfl ?_
      refine g_iadd d_Row_moveWishes_22 ?_
      refine g_aload_n d_Row_moveWishes_23 rfl ?_
      refine r_getA (j := 0) fl_Row_9 hw (by decide) d_Row_moveWishes_24 ?_
      refine g_iload_n d_Row_moveWishes_27 rfl ?_
      refine r_ald1 (j := m) hw (nI_hi (by omega)) (by omega) d_Row_moveWishes_28 ?_
      refine r_ast1 (j := m + D) (v := (mvR x D (m + 1) (l.length + r.length + 1)).2.1 m) hw (add_hi (nI_hi (by omega)) (nI_hi (by omega)) (by omega)) (by omega) d_Row_moveWishes_29 ?_
      refine g_aload_n d_Row_moveWishes_30 rfl ?_
      refine r_getA (j := 1) fl_Row_17 hw (by decide) d_Row_moveWishes_31 ?_
      refine g_iload_n d_Row_moveWishes_34 rfl ?_
      refine g_iload_n d_Row_moveWishes_35 rfl ?_
      refine g_iadd d_Row_moveWishes_36 ?_
      refine g_aload_n d_Row_moveWishes_37 rfl ?_
      refine r_getA (j := 1) fl_Row_17 hw (by decide) d_Row_moveWishes_38 ?_
      refine g_iload_n d_Row_moveWishes_41 rfl ?_
      refine r_tald (j := m) hw (nI_hi (by omega)) (by omega) (by show sRt x.2.2.1 D (m + 1) _ m = some y.2; rw [sR_lo (by omega)]; exact hy2.2) d_Row_moveWishes_42 ?_
      refine r_tast (j := m + D) hw (add_hi (nI_hi (by omega)) (nI_hi (by omega)) (by omega)) (by omega) (ht y (List.mem_of_getElem? hy)) d_Row_moveWishes_43 ?_
      rw [mvR_s (by omega) hD hy2.2]
      obtain ⟨k, rfl⟩ : ∃ k, m = k + 1 := ⟨m - 1, by omega⟩
      have e1 : nI (k + 1) + Int32.ofInt (-1) = nI k := nI_m (by omega) (by omega)
      refine g_iinc (v := nI k) d_Row_moveWishes_44 rfl e1 (by decide) rfl ?_
      refine g_goto (tgt := 11) d_Row_moveWishes_47 (by decide) ?_
      exact ih k (by omega) (by omega) (by omega)
    · refine g_iload_n d_Row_moveWishes_11 rfl ?_
      refine g_iload_n d_Row_moveWishes_12 rfl ?_
      refine g_icmp_lt (tgt := 50) d_Row_moveWishes_13 (by decide) (fun c_13 => ?_) (fun c_13 => ?_)
      rotate_left
      · exact absurd c_13 (fun q => q ((lt_hi (nI_hi (by omega)) (nI_hi (by omega))).mpr (by omega)))
      refine g_goto (tgt := 101) d_Row_moveWishes_50 (by decide) ?_
      refine g_aload_n d_Row_moveWishes_101 rfl ?_
      refine g_dup d_Row_moveWishes_102 rfl ?_
      refine r_getF (j := 4) fl_Row_34 hw (by decide) d_Row_moveWishes_103 ?_
      rw [show (mvR x D (m + 1) (l.length + r.length + 1)).1 4 = x.1 4 from rfl, hx.2.1]
      refine g_iload_n d_Row_moveWishes_106 rfl ?_
      refine g_iadd d_Row_moveWishes_107 ?_
      refine r_putF (j := 4) (v := (nI (l ++ q :: r).length) + (nI D)) fl_Row_34 hw (by decide) d_Row_moveWishes_108 ?_
      refine g_vret rfl d_Row_moveWishes_111 ?_
      have em : m = l.length := by omega
      subst em
      refine ⟨rfl, _, rfl, hx.1, ?_, fun k y hk => ?_, fun k y hk => ?_, hx.2.2.2⟩
      · show nI (l ++ q :: r).length + nI D = nI (l.length + (D + 1) + r.length)
        rw [hlen, show l.length + (D + 1) + r.length = l.length + r.length + 1 + D by omega]
        exact i_nI (add_hi (nI_hi (by omega)) (nI_hi (by omega)) (by omega))
      · have e := hx.2.2.1 k y (gl hk)
        have hk' : k < l.length := (List.getElem?_eq_some_iff.mp hk).1
        show sRt x.2.1 D _ _ k = _ ∧ sRt x.2.2.1 D _ _ k = _
        rw [sR_lo (by omega), sR_lo (by omega)]
        exact e
      · have e := hx.2.2.1 _ y (gr (y := q) (l := l) hk)
        have hk' : k < r.length := (List.getElem?_eq_some_iff.mp hk).1
        show sRt x.2.1 D _ _ (l.length + (D + 1) + k) = _ ∧ sRt x.2.2.1 D _ _ (l.length + (D + 1) + k) = _
        rw [sRt, sRt, if_pos (by omega), if_pos (by omega), show l.length + (D + 1) + k - D = l.length + 1 + k by omega]
        exact e
set_option maxHeartbeats 400000 in
set_option maxRecDepth 100000 in
theorem m_R_moveR (hw : rowW u a b) {ow : Nat} {l r : List (Nat × Nat)} {q : Nat × Nat} {bd : Nat → Option Nat} (hx : hX x ow (l ++ q :: r) bd) (hl : (l ++ q :: r).length ≤ 24) (ht : ∀ y ∈ l ++ q :: r, zIs u a y.2 7) {D : Nat} (hD : 1 ≤ D) (hD2 : l.length + r.length + 1 + D ≤ 24)  : GM E Y_Row_moveWishes d [.ref b, .int (nI (l.length + 1)), .int (nI D)] (yW E G a c (uR u b x) n sl) (rPost none (fun G' => ∃ x', G' = yW E G a c (uR u b x') n sl ∧ hG x' ow l (D + 1) r bd)) := by
  refine g_entry (by decide) (by simp [Value.category]) (Nat.le_of_ble_eq_true rfl) ?_
  have hlen : (l ++ q :: r).length = l.length + r.length + 1 := by simp; omega
  refine g_iload_n d_Row_moveWishes_0 rfl ?_
  refine g_if_le (tgt := 53) d_Row_moveWishes_1 (by decide) (fun c_1 => ?_) (fun c_1 => ?_)
  · exact absurd c_1 (fun q => by have := (le_hi (nI_hi (by omega)) (show (0 : Int32).toInt = ((0 : Nat) : Int) by decide)).mp q; omega)
  refine g_aload_n d_Row_moveWishes_4 rfl ?_
  refine r_getF (j := 4) fl_Row_34 hw (by decide) d_Row_moveWishes_5 ?_
  rw [hx.2.1]
  refine g_iconst (v := 1) d_Row_moveWishes_8 (by decide) ?_
  refine g_isub d_Row_moveWishes_9 ?_
  refine g_top (nI (l.length + r.length)) (by rw [hlen]; exact nI_s1 (by omega)) ?_
  refine g_istore_n d_Row_moveWishes_10 (by decide) rfl ?_
  have K := m_R_mvr (E := E) (d := d) (G := G) (G0 := yW E G a c (uR u b x) n sl) (c := c) (n := n) (sl := sl) hw hx hl ht hD hD2 (r.length + 1) (l.length + r.length) (by omega) (by omega) (by omega)
  rw [mvR_0] at K
  exact K
theorem hG_w {ow A p t : Nat} {l r : List (Nat × Nat)} {bd : Nat → Option Nat} {v : Int32} (h : hG x ow l (A + 1) r bd) (hv : v = nI p) : hG (xT (xP x l.length v) l.length (some t)) ow (l ++ [(p, t)]) A r bd := by
  obtain ⟨h1, h2, h3, h4, h5⟩ := h
  have ll : (l ++ [(p, t)]).length = l.length + 1 := by simp
  refine ⟨h1, ?_, fun k q hk => ?_, fun k q hk => ?_, h5⟩
  · show x.1 4 = _
    rw [h2, ll, show l.length + (A + 1) + r.length = l.length + 1 + A + r.length by omega]
  · rcases Nat.lt_or_ge k l.length with hlt | hge
    · rw [List.getElem?_append_left hlt] at hk
      have e := h3 k q hk
      refine ⟨?_, ?_⟩
      · show upd x.2.1 l.length v k = _
        rw [up_ne (by omega)]
        exact e.1
      · show va_up x.2.2.1 l.length _ k = _
        rw [va_up, if_neg (by omega)]
        exact e.2
    · have hk1 : k < (l ++ [(p, t)]).length := (List.getElem?_eq_some_iff.mp hk).1
      have ek : k = l.length := by omega
      subst ek
      rw [List.getElem?_append_right hge, Nat.sub_self] at hk
      cases hk
      refine ⟨?_, ?_⟩
      · show upd x.2.1 l.length v l.length = _
        rw [up_at]
        exact hv
      · show va_up x.2.2.1 l.length _ l.length = _
        exact if_pos rfl
  · have e := h4 k q hk
    rw [ll, show l.length + 1 + A + k = l.length + (A + 1) + k by omega]
    refine ⟨?_, ?_⟩
    · show upd x.2.1 l.length v (l.length + (A + 1) + k) = _
      rw [up_ne (by omega)]
      exact e.1
    · show va_up x.2.2.1 l.length _ (l.length + (A + 1) + k) = _
      rw [va_up, if_neg (by omega)]
      exact e.2
/-- parts as wishes from the place f on -/
def pW (f : Nat) : List Nat → List (Nat × Nat)
  | [] => []
  | t :: r => (f, t) :: pW (f + 1) r
theorem pW_len : ∀ (ps : List Nat) (f : Nat), (pW f ps).length = ps.length
  | [], _ => rfl
  | t :: r, f => by simp [pW, pW_len r]
set_option maxHeartbeats 400000 in
set_option maxRecDepth 100000 in
theorem m_R_opn {ow t fp w K : Nat} {r : List (Nat × Nat)} {bd : Nat → Option Nat} {all : List Nat} (hw : rowW u a b) (hz : zIs u a (t + 1) 8) (hL : u.2.1 (t + 1) = K) (hps : ∀ i s, all[i]? = some s → u.2.2.2 (t + 1) i = some s ∧ zIs u a s 7) (hK : all.length = K) (hK4 : K ≤ 4) (hfp : fp < 10000) (hdt : t + 1 < b ∨ b + 4 ≤ t + 1) : ∀ (ps : List Nat) (l : List (Nat × Nat)) (j : Nat) (x : xS), all = all.take j ++ ps → l.length = w + j → j + ps.length = K → l.length + ps.length + r.length ≤ 24 → hG x ow l ps.length r bd → GT E Y_Row_open d G0 39 [(0, .ref b), (1, .int (nI w)), (2, .int (nI fp)), (3, .ref (t + 1)), (4, .int (nI j))] [] (yW E G a c (uR u b x) n sl) (rPost none (fun G' => ∃ x', G' = yW E G a c (uR u b x') n sl ∧ hX x' ow (l ++ pW (fp + j) ps ++ r) bd)) := by
  intro ps
  induction ps with
  | nil =>
    intro l j x hall hj hjK hb24 hg
    simp at hjK
    refine g_iload d_Row_open_39 rfl ?_
    refine g_aload_n d_Row_open_41 rfl ?_
    refine z_tlen (u := uR u b x) hz (by show Int32.ofNat (u.2.1 (t + 1)) = _; rw [hL]) d_Row_open_42 ?_
    refine g_icmp_ge (tgt := 78) d_Row_open_43 (by decide) (fun c_43 => ?_) (fun c_43 => ?_)
    rotate_left
    · exact absurd c_43 (ilt (by omega) (by omega) (by omega))
    refine g_vret rfl d_Row_open_78 ?_
    refine ⟨rfl, x, rfl, ?_⟩
    have := hG_X hg
    simp [pW]
    exact this
  | cons s rest ih =>
    intro l j x hall hj hjK hb24 hg
    simp only [List.length_cons] at hjK hb24 hg
    have hs : all[j]? = some s := by
      rw [hall, List.getElem?_append_right (by rw [List.length_take]; omega), List.length_take, show j - min j all.length = 0 by omega]
      rfl
    have hij : (nI w + nI j).toInt = (l.length : Int) := by
      rw [hj]
      exact add_hi (nI_hi (by omega)) (nI_hi (by omega)) (by omega)
    show GT E Y_Row_open d G0 39 [(0, .ref b), (1, .int (nI w)), (2, .int (nI fp)), (3, .ref (t + 1)), (4, .int (nI j))] [] (yW E G a c (uR u b x) n sl) (rPost none (fun G' => ∃ x', G' = yW E G a c (uR u b x') n sl ∧ hX x' ow (l ++ ((fp + j, s) :: pW (fp + j + 1) rest) ++ r) bd))
    refine g_iload d_Row_open_39 rfl ?_
    refine g_aload_n d_Row_open_41 rfl ?_
    refine z_tlen (u := uR u b x) hz (by show Int32.ofNat (u.2.1 (t + 1)) = _; rw [hL]) d_Row_open_42 ?_
    refine g_icmp_ge (tgt := 78) d_Row_open_43 (by decide) (fun c_43 => ?_) (fun c_43 => ?_)
    · exact absurd c_43 (ige (by omega) (by omega) (by omega))
    refine g_aload_n d_Row_open_46 rfl ?_
    refine r_getA (j := 0) fl_Row_9 hw (by decide) d_Row_open_47 ?_
    refine g_iload_n d_Row_open_50 rfl ?_
    refine g_iload d_Row_open_51 rfl ?_
    refine g_iadd d_Row_open_53 ?_
    refine g_iload_n d_Row_open_54 rfl ?_
    refine g_iload d_Row_open_55 rfl ?_
    refine g_iadd d_Row_open_57 ?_
    refine r_ast1 (j := l.length) (v := (nI fp) + (nI j)) hw hij (by omega) d_Row_open_58 ?_
    refine g_aload_n d_Row_open_59 rfl ?_
    refine r_getA (j := 1) fl_Row_17 hw (by decide) d_Row_open_60 ?_
    refine g_iload_n d_Row_open_63 rfl ?_
    refine g_iload d_Row_open_64 rfl ?_
    refine g_iadd d_Row_open_66 ?_
    refine g_aload_n d_Row_open_67 rfl ?_
    refine g_iload d_Row_open_68 rfl ?_
    refine z_tald (k := 8) (j := j) hz (by decide) rfl (nI_hi (by omega)) (by show j < u.2.1 (t + 1); omega) (by rw [(uRo hdt).2]; exact (hps j s hs).1) d_Row_open_70 ?_
    refine r_tast (j := l.length) hw hij (by omega) (hps j s hs).2 d_Row_open_71 ?_
    have e1 : nI j + Int32.ofInt 1 = nI (j + 1) := nI_1 j
    refine g_iinc (v := nI (j + 1)) d_Row_open_72 rfl e1 (by decide) rfl ?_
    refine g_goto (tgt := 39) d_Row_open_75 (by decide) ?_
    have e2 : nI fp + nI j = nI (fp + j) := i_nI (add_hi (nI_hi (by omega)) (nI_hi (by omega)) (by omega))
    rw [show l ++ ((fp + j, s) :: pW (fp + j + 1) rest) ++ r = (l ++ [(fp + j, s)]) ++ pW (fp + (j + 1)) rest ++ r by simp [Nat.add_assoc]]
    exact ih (l ++ [(fp + j, s)]) (j + 1) _ (by rw [List.take_succ, hs, Option.toList_some, List.append_assoc]; exact hall) (by simp; omega) (by omega) (by simp; omega) (hG_w hg e2)
set_option maxHeartbeats 400000 in
set_option maxRecDepth 100000 in
theorem m_R_open (hw : rowW u a b) {ow t fp K : Nat} {l r : List (Nat × Nat)} {p : Nat} {bd : Nat → Option Nat} {all : List Nat} (hx : hX x ow (l ++ (p, t) :: r) bd) (hl : (l ++ (p, t) :: r).length ≤ 24) (ht : ∀ y ∈ l ++ (p, t) :: r, zIs u a y.2 7) (hz : zIs u a (t + 1) 8) (hL : u.2.1 (t + 1) = K) (hps : ∀ i s, all[i]? = some s → u.2.2.2 (t + 1) i = some s ∧ zIs u a s 7) (hK : all.length = K) (hK4 : K ≤ 4) (hfp : fp < 10000) (hdt : t + 1 < b ∨ b + 4 ≤ t + 1) (h24 : l.length + K + r.length ≤ 24) : GM E Y_Row_open (d + 1) [.ref b, .int (nI l.length), .int (nI fp)] (yW E G a c (uR u b x) n sl) (rPost none (fun G' => ∃ x', G' = yW E G a c (uR u b x') n sl ∧ hX x' ow (l ++ pW (fp + 0) all ++ r) bd)) := by
  refine g_entry (by decide) (by simp [Value.category]) (Nat.le_of_ble_eq_true rfl) ?_
  have hlen : (l ++ (p, t) :: r).length = l.length + r.length + 1 := by simp; omega
  have e19 : nI (l.length + r.length + 1) + Int32.ofNat K - 1 = nI (l.length + K + r.length) := i_nI (by
    have h1 : (nI (l.length + r.length + 1) + Int32.ofNat K).toInt = ((l.length + r.length + 1 + K : Nat) : Int) := add_hi (nI_hi (by omega)) (nI_hi (n := K) (by omega)) (by omega)
    have := sub_hi h1 i1 (by omega)
    rw [show l.length + r.length + 1 + K - 1 = l.length + K + r.length by omega] at this
    exact this)
  rcases (show K = 0 ∨ K = 1 ∨ 2 ≤ K by omega) with e | e | e
  · subst e
    have eby : Int32.ofNat 0 - 1 = -1 := by decide
    refine g_aload_n d_Row_open_0 rfl ?_
    refine r_getA (j := 1) fl_Row_17 hw (by decide) d_Row_open_1 ?_
    refine g_iload_n d_Row_open_4 rfl ?_
    refine r_tald (j := l.length) hw (nI_hi (by omega)) (by omega) (hx.2.2.1 _ _ (mid_at (l := l) (r := r) (x := (p, t)))).2 d_Row_open_5 ?_
    refine z_get (k := 7) (j := 3) (v := .ref (t + 1)) kc_Term fl_Row_50 (by decide) (ht (p, t) (by simp)) (by decide) rfl rfl d_Row_open_6 ?_
    refine g_astore_n d_Row_open_9 (by decide) rfl ?_
    refine g_aload_n d_Row_open_10 rfl ?_
    refine r_getF (j := 4) fl_Row_34 hw (by decide) d_Row_open_11 ?_
    rw [hx.2.1]
    refine g_aload_n d_Row_open_14 rfl ?_
    refine z_tlen (u := uR u b x) hz (by show Int32.ofNat (u.2.1 (t + 1)) = _; rw [hL]) d_Row_open_15 ?_
    refine g_iadd d_Row_open_16 ?_
    refine g_iconst (v := 1) d_Row_open_17 (by decide) ?_
    refine g_isub d_Row_open_18 ?_
    refine g_top (nI (l.length + 0 + r.length)) (by rw [hlen]; exact e19) ?_
    refine g_bipush (v := 24) d_Row_open_19 (by decide) ?_
    refine g_icmp_le (tgt := 25) d_Row_open_21 (by decide) (fun c_21 => ?_) (fun c_21 => ?_)
    rotate_left
    · exact absurd c_21 (fun q => q ((le_hi (nI_hi (by omega)) (show (24 : Int32).toInt = ((24 : Nat) : Int) by decide)).mpr h24))
    refine g_aload_n d_Row_open_25 rfl ?_
    refine g_iload_n d_Row_open_26 rfl ?_
    refine g_iconst (v := 1) d_Row_open_27 (by decide) ?_
    refine g_iadd d_Row_open_28 ?_
    refine g_top (nI (l.length + 1)) (nI_1 _) ?_
    refine g_aload_n d_Row_open_29 rfl ?_
    refine z_tlen (u := uR u b x) hz (by show Int32.ofNat (u.2.1 (t + 1)) = _; rw [hL]) d_Row_open_30 ?_
    refine g_iconst (v := 1) d_Row_open_31 (by decide) ?_
    refine g_isub d_Row_open_32 ?_
    refine g_top ((-1)) eby ?_
    refine c_Vx (as := [.int (nI (l.length + 1)), .int ((-1))]) kv_Row_moveWishes ml_Row_47 rfl (z_at (u := uR u b x) hw.1 (by decide)) (m_R_moveL hw hx hl ht) rfl (Nat.le_of_ble_eq_true rfl) rfl d_Row_open_33 rfl (fun G_33 h_33 => ?_)
    obtain ⟨x', rfl, hg⟩ := h_33
    refine g_iconst (v := 0) d_Row_open_36 (by decide) ?_
    refine g_istore d_Row_open_37 (by decide) rfl ?_
    have K2 := m_R_opn (E := E) (d := d + 1) (G := G) (G0 := yW E G a c (uR u b x) n sl) (c := c) (n := n) (sl := sl) (ow := ow) (r := r) (bd := bd) (fp := fp) (w := l.length) hw hz hL hps hK hK4 hfp hdt all l 0 x' (by simp) (by omega) (by omega) (by omega) (by rw [hK]; exact hg)
    exact K2
  · subst e
    have eby : Int32.ofNat 1 - 1 = 0 := by decide
    refine g_aload_n d_Row_open_0 rfl ?_
    refine r_getA (j := 1) fl_Row_17 hw (by decide) d_Row_open_1 ?_
    refine g_iload_n d_Row_open_4 rfl ?_
    refine r_tald (j := l.length) hw (nI_hi (by omega)) (by omega) (hx.2.2.1 _ _ (mid_at (l := l) (r := r) (x := (p, t)))).2 d_Row_open_5 ?_
    refine z_get (k := 7) (j := 3) (v := .ref (t + 1)) kc_Term fl_Row_50 (by decide) (ht (p, t) (by simp)) (by decide) rfl rfl d_Row_open_6 ?_
    refine g_astore_n d_Row_open_9 (by decide) rfl ?_
    refine g_aload_n d_Row_open_10 rfl ?_
    refine r_getF (j := 4) fl_Row_34 hw (by decide) d_Row_open_11 ?_
    rw [hx.2.1]
    refine g_aload_n d_Row_open_14 rfl ?_
    refine z_tlen (u := uR u b x) hz (by show Int32.ofNat (u.2.1 (t + 1)) = _; rw [hL]) d_Row_open_15 ?_
    refine g_iadd d_Row_open_16 ?_
    refine g_iconst (v := 1) d_Row_open_17 (by decide) ?_
    refine g_isub d_Row_open_18 ?_
    refine g_top (nI (l.length + 1 + r.length)) (by rw [hlen]; exact e19) ?_
    refine g_bipush (v := 24) d_Row_open_19 (by decide) ?_
    refine g_icmp_le (tgt := 25) d_Row_open_21 (by decide) (fun c_21 => ?_) (fun c_21 => ?_)
    rotate_left
    · exact absurd c_21 (fun q => q ((le_hi (nI_hi (by omega)) (show (24 : Int32).toInt = ((24 : Nat) : Int) by decide)).mpr h24))
    refine g_aload_n d_Row_open_25 rfl ?_
    refine g_iload_n d_Row_open_26 rfl ?_
    refine g_iconst (v := 1) d_Row_open_27 (by decide) ?_
    refine g_iadd d_Row_open_28 ?_
    refine g_top (nI (l.length + 1)) (nI_1 _) ?_
    refine g_aload_n d_Row_open_29 rfl ?_
    refine z_tlen (u := uR u b x) hz (by show Int32.ofNat (u.2.1 (t + 1)) = _; rw [hL]) d_Row_open_30 ?_
    refine g_iconst (v := 1) d_Row_open_31 (by decide) ?_
    refine g_isub d_Row_open_32 ?_
    refine g_top (0) eby ?_
    refine c_Vx (as := [.int (nI (l.length + 1)), .int (0)]) kv_Row_moveWishes ml_Row_47 rfl (z_at (u := uR u b x) hw.1 (by decide)) (m_R_move0 hw hx hl ht) rfl (Nat.le_of_ble_eq_true rfl) rfl d_Row_open_33 rfl (fun G_33 h_33 => ?_)
    obtain ⟨x', rfl, hg⟩ := h_33
    refine g_iconst (v := 0) d_Row_open_36 (by decide) ?_
    refine g_istore d_Row_open_37 (by decide) rfl ?_
    have K2 := m_R_opn (E := E) (d := d + 1) (G := G) (G0 := yW E G a c (uR u b x) n sl) (c := c) (n := n) (sl := sl) (ow := ow) (r := r) (bd := bd) (fp := fp) (w := l.length) hw hz hL hps hK hK4 hfp hdt all l 0 x' (by simp) (by omega) (by omega) (by omega) (by rw [hK]; exact hg)
    exact K2
  · obtain ⟨D, rfl⟩ : ∃ D, K = D + 1 := ⟨K - 1, by omega⟩
    have hD : 1 ≤ D := by omega
    have eby : Int32.ofNat (D + 1) - 1 = nI D := nI_s1 (by omega)
    refine g_aload_n d_Row_open_0 rfl ?_
    refine r_getA (j := 1) fl_Row_17 hw (by decide) d_Row_open_1 ?_
    refine g_iload_n d_Row_open_4 rfl ?_
    refine r_tald (j := l.length) hw (nI_hi (by omega)) (by omega) (hx.2.2.1 _ _ (mid_at (l := l) (r := r) (x := (p, t)))).2 d_Row_open_5 ?_
    refine z_get (k := 7) (j := 3) (v := .ref (t + 1)) kc_Term fl_Row_50 (by decide) (ht (p, t) (by simp)) (by decide) rfl rfl d_Row_open_6 ?_
    refine g_astore_n d_Row_open_9 (by decide) rfl ?_
    refine g_aload_n d_Row_open_10 rfl ?_
    refine r_getF (j := 4) fl_Row_34 hw (by decide) d_Row_open_11 ?_
    rw [hx.2.1]
    refine g_aload_n d_Row_open_14 rfl ?_
    refine z_tlen (u := uR u b x) hz (by show Int32.ofNat (u.2.1 (t + 1)) = _; rw [hL]) d_Row_open_15 ?_
    refine g_iadd d_Row_open_16 ?_
    refine g_iconst (v := 1) d_Row_open_17 (by decide) ?_
    refine g_isub d_Row_open_18 ?_
    refine g_top (nI (l.length + (D + 1) + r.length)) (by rw [hlen]; exact e19) ?_
    refine g_bipush (v := 24) d_Row_open_19 (by decide) ?_
    refine g_icmp_le (tgt := 25) d_Row_open_21 (by decide) (fun c_21 => ?_) (fun c_21 => ?_)
    rotate_left
    · exact absurd c_21 (fun q => q ((le_hi (nI_hi (by omega)) (show (24 : Int32).toInt = ((24 : Nat) : Int) by decide)).mpr h24))
    refine g_aload_n d_Row_open_25 rfl ?_
    refine g_iload_n d_Row_open_26 rfl ?_
    refine g_iconst (v := 1) d_Row_open_27 (by decide) ?_
    refine g_iadd d_Row_open_28 ?_
    refine g_top (nI (l.length + 1)) (nI_1 _) ?_
    refine g_aload_n d_Row_open_29 rfl ?_
    refine z_tlen (u := uR u b x) hz (by show Int32.ofNat (u.2.1 (t + 1)) = _; rw [hL]) d_Row_open_30 ?_
    refine g_iconst (v := 1) d_Row_open_31 (by decide) ?_
    refine g_isub d_Row_open_32 ?_
    refine g_top (nI D) eby ?_
    refine c_Vx (as := [.int (nI (l.length + 1)), .int (nI D)]) kv_Row_moveWishes ml_Row_47 rfl (z_at (u := uR u b x) hw.1 (by decide)) (m_R_moveR hw hx hl ht hD (by omega)) rfl (Nat.le_of_ble_eq_true rfl) rfl d_Row_open_33 rfl (fun G_33 h_33 => ?_)
    obtain ⟨x', rfl, hg⟩ := h_33
    refine g_iconst (v := 0) d_Row_open_36 (by decide) ?_
    refine g_istore d_Row_open_37 (by decide) rfl ?_
    have K2 := m_R_opn (E := E) (d := d + 1) (G := G) (G0 := yW E G a c (uR u b x) n sl) (c := c) (n := n) (sl := sl) (ow := ow) (r := r) (bd := bd) (fp := fp) (w := l.length) hw hz hL hps hK hK4 hfp hdt all l 0 x' (by simp) (by omega) (by omega) (by omega) (by rw [hK]; exact hg)
    exact K2
end AP
