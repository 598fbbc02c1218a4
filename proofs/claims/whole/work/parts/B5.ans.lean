/-! Rows.putAnswer -/
section CA
variable {E : gE} {d : Nat} {G G0 : gS} {a : Nat} {c c' c0 : cS} {u u' u0 : uS} {n n' n0 sl sl' : Nat} {Q : gO → gS → Prop} {Nb Sb : Nat} {P : Nat → Nat → Int32} {N : Nat} {tm : Nat → Nat} {ob : Nat → Int32} {T : Nat → Prop} {b : Nat} {x : xS} {pos : Nat → List Nat}
/-- the first wish for a place -/
def fndC (p : Nat) : List (Nat × Nat) → Option (List (Nat × Nat) × Nat × List (Nat × Nat))
  | [] => none
  | q :: r => if q.1 = p then some ([], q.2, r) else match fndC p r with
    | none => none
    | some z => some (q :: z.1, z.2.1, z.2.2)
theorem fndC_none {p : Nat} : ∀ {l : List (Nat × Nat)}, fndC p l = none → ∀ q ∈ l, q.1 ≠ p
  | [], _, q, hq => by cases hq
  | y :: r, h, q, hq => by
    simp only [fndC] at h
    split at h
    · cases h
    · rename_i hne
      rcases List.mem_cons.mp hq with rfl | hq
      · exact hne
      · cases hz : fndC p r with
        | none => exact fndC_none hz q hq
        | some z => rw [hz] at h; cases h
theorem fndC_some {p : Nat} : ∀ {l : List (Nat × Nat)} {z : List (Nat × Nat) × Nat × List (Nat × Nat)}, fndC p l = some z → l = z.1 ++ (p, z.2.1) :: z.2.2 ∧ ∀ q ∈ z.1, q.1 ≠ p
  | [], z, h => by cases h
  | y :: r, z, h => by
    simp only [fndC] at h
    split at h
    · rename_i he
      cases h
      refine ⟨?_, fun q hq => by cases hq⟩
      rw [← he]
      rfl
    · rename_i hne
      cases hz : fndC p r with
      | none => rw [hz] at h; cases h
      | some z' =>
        rw [hz] at h
        cases h
        obtain ⟨h1, h2⟩ := fndC_some hz
        refine ⟨by rw [h1]; rfl, fun q hq => ?_⟩
        rcases List.mem_cons.mp hq with rfl | hq
        · exact hne
        · exact h2 q hq
def arC (P : Nat → Nat → Int32) (k : Nat) : Nat := if P 3 k = 2 then aAr P k else 0
/-- the rows behind an answer -/
def ansC1 (P : Nat → Nat → Int32) (p fp : Nat) (wh : Int32) (A : rC) : List rC := match fndC p A.2.1 with
  | none => [A]
  | some z => if P 5 z.2.1 = wh then aC A.1 (aL P (z.1 ++ (aKs P (fun i => fp + i) z.2.1 (arC P z.2.1) ++ z.2.2)) A.2.2) else []
def ansC (P : Nat → Nat → Int32) (p fp : Nat) (wh : Int32) (R : List rC) : List rC := R.flatMap (ansC1 P p fp wh)
theorem ansC_app {p fp : Nat} {wh : Int32} {R R' : List rC} : ansC P p fp wh (R ++ R') = ansC P p fp wh R ++ ansC P p fp wh R' := List.flatMap_append
theorem bse_self {k : Nat} (h : ¬ P 3 k = 4) : bse P 512 k = k := by
  rw [show (512 : Nat) = 511 + 1 from rfl, bse, if_neg h]
theorem bse_ty (wf : wfA P N pos) : ∀ (f k : Nat), k < f → k < N → P 4 (bse P f k) = P 4 k
  | 0, k, h, _ => by omega
  | f + 1, k, h, hN => by
    simp only [bse]
    by_cases h4 : P 3 k = 4
    · rw [if_pos h4]
      obtain ⟨w, v, -, -, hv, ev, e7⟩ := (wf.1.2 k hN).2.1 h4
      have := wf.1.1
      have ht := ((wf.2.2 k hN).2.1 h4).1
      rw [ev, tnI (by omega)] at ht ⊢
      rw [bse_ty wf f v (by omega) (by omega)]
      exact ht
    · rw [if_neg h4]
theorem okI_b {bd : Nat → Option Nat} {q : Nat × Nat} (h : okI P ob T bd q) (hk : aK P q.2) : ∃ k0, T k0 ∧ bse P 512 k0 = q.2 := by
  rcases h with z | ⟨-, z, -⟩
  · exact ⟨q.2, z, bse_self hk.2.1⟩
  · exact z
/-- a settled row of which a wish is opened -/
theorem tI_open (wf : wfA P N pos) (wb : wfB P N) (wk : wfK P N) (tp : tmP P N tm ob T) {l r : List (Nat × Nat)} {p k : Nat} {g : Nat → Nat} {bd : Nat → Option Nat} (h : tI P N ob T (l ++ (p, k) :: r) bd) (hk : aK P k) : tI P N ob T (l ++ (aKs P g k (arC P k) ++ r)) bd ∧ arC P k ≤ 4 ∧ ∀ i, i < arC P k → T (tn (P 6 (4 * k + i))) := by
  obtain ⟨hN, hok⟩ := h.1 (p, k) (by simp)
  obtain ⟨k0, hT, hbk⟩ := okI_b hok hk
  obtain ⟨-, -, -, -, -, t6⟩ := tp k0 hT
  rw [hbk] at t6
  unfold arC
  by_cases h2 : P 3 k = 2
  · rw [if_pos h2]
    obtain ⟨-, w2, -, w4, w5⟩ := (wf.2.2 k hN).2.2.2 h2
    obtain ⟨b1, b2⟩ := (wb k hN).2.2 h2
    have hTi := t6 h2
    have b512 := wf.1.1
    refine ⟨tI_sub h (fun y hy => ?_) (fun y hy => ?_) ?_ ?_ (fun w _ => Or.inl rfl), w2, hTi⟩
    · obtain ⟨i, hi, rfl⟩ := List.mem_map.mp hy
      exact ⟨(tp _ (hTi i (List.mem_range.mp hi))).1, Or.inl (hTi i (List.mem_range.mp hi))⟩
    · obtain ⟨i, hi, rfl⟩ := List.mem_map.mp hy
      exact b1 i (List.mem_range.mp hi)
    · refine List.pairwise_map.mpr ?_
      refine List.Pairwise.imp_of_mem (fun {i j} hi hj hlt => ?_) (List.pairwise_lt_range (n := aAr P k))
      exact b2 i j hlt (List.mem_range.mp hj)
    · rw [aKs_Z (g' := fun _ => ())]
      show _ ≤ tn (P 7 k)
      omega
  · rw [if_neg h2]
    exact ⟨tI_sub h (fun y hy => by cases hy) (fun y hy => by cases hy) List.Pairwise.nil (Nat.zero_le _) (fun w _ => Or.inl rfl), by omega, fun i hi => by omega⟩
theorem pW_ks {fp k : Nat} : ∀ (m s : Nat), pW (fp + s) ((List.range' s m).map (fun i => tm (tn (P 6 (4 * k + i))))) = ((List.range' s m).map (fun i => (fp + i, tn (P 6 (4 * k + i))))).map (tmQ tm)
  | 0, _ => rfl
  | m + 1, s => by
    have := pW_ks (fp := fp) (k := k) m (s + 1)
    simp only [List.range'_succ, List.map_cons, pW] at this ⊢
    rw [← this]
    rfl
theorem pW_aKs {fp k m : Nat} : pW (fp + 0) ((List.range m).map (fun i => tm (tn (P 6 (4 * k + i))))) = (aKs P (fun i => fp + i) k m).map (tmQ tm) := by
  unfold aKs
  rw [List.range_eq_range']
  exact pW_ks m 0
/-- a settled wish's term -/
theorem tW_settled (wf : wfA P N pos) (wk : wfK P N) (tp : tmP P N tm ob T) (tw : tmW P u a tm ob T) {bd : Nat → Option Nat} {q : Nat × Nat} (h : okI P ob T bd q) (hk : aK P q.2) : zIs u a (tm q.2) 7 ∧ zIs u a (tm q.2 + 1) 8 ∧ u.2.2.1 (tm q.2) 0 = P 4 q.2 ∧ u.2.2.1 (tm q.2) 1 = kdC (P 3 q.2) ∧ u.2.2.1 (tm q.2) 2 = P 5 q.2 ∧ u.2.1 (tm q.2 + 1) = arC P q.2 ∧ ∀ i, i < arC P q.2 → u.2.2.2 (tm q.2 + 1) i = some (tm (tn (P 6 (4 * q.2 + i)))) := by
  obtain ⟨k0, hT, hb⟩ := okI_b h hk
  obtain ⟨hN, -, -, t4, -⟩ := tp k0 hT
  have b512 := wf.1.1
  have ht := bse_ty wf 512 k0 (by omega) hN
  have hN2 := (bse_ok wf.1 512 k0 (by omega) hN).1
  obtain ⟨w1, w2, w3, w4, w5, -, -, w7, w8⟩ := tw k0 hT
  rw [hb] at t4 w4 w5 w7 w8 ht hN2
  rw [t4]
  refine ⟨w1, w2, w3.trans ht.symm, w4, w5 hk, ?_⟩
  unfold arC
  by_cases h2 : P 3 q.2 = 2
  · rw [if_pos h2]
    exact w7 h2
  · rw [if_neg h2]
    refine ⟨w8 ?_, fun i hi => by omega⟩
    rcases (wk q.2 hN2).1 with z | z | z | z | z
    · exact absurd z hk.1
    · exact z
    · exact absurd z h2
    · exact absurd z hk.2.2
    · exact absurd z hk.2.1

theorem m_T_open (wf : wfA P N pos) (wb : wfB P N) (wk : wfK P N) (tp : tmP P N tm ob T) (tw : tmW P u a tm ob T) (hw : rowW u a b) {l r : List (Nat × Nat)} {p k fp ow : Nat} {bd : Nat → Option Nat} (hI : tI P N ob T (l ++ (p, k) :: r) bd) (hk : aK P k) (hx : hX (xOf u b) ow ((l ++ (p, k) :: r).map (tmQ tm)) bd) (hfp : fp < 10000) : GM E Y_Row_open (d + 1) [.ref b, .int (nI l.length), .int (nI fp)] (yW E G a c u n sl) (rPost none (fun G' => ∃ x', G' = yW E G a c (uR u b x') n sl ∧ hX x' ow ((l ++ (aKs P (fun i => fp + i) k (arC P k) ++ r)).map (tmQ tm)) bd)) := by
  have hz := tI_z tp tw hI.1
  have hlen : ((l ++ (p, k) :: r).map (tmQ tm)).length ≤ 24 := by
    rw [List.length_map]
    exact Nat.le_trans (tI_len wf.1 (fun q hq => (hI.1 q hq).1)) hI.2.2.2
  obtain ⟨hI2, h4, hTi⟩ := tI_open (g := fun i => fp + i) wf wb wk tp hI hk
  obtain ⟨w1, w2, -, -, -, w6, w7⟩ := tW_settled wf wk tp tw (q := (p, k)) (hI.1 (p, k) (by simp)).2 hk
  have hl2 := Nat.le_trans (tI_len wf.1 (fun q hq => (hI2.1 q hq).1)) hI2.2.2.2
  rw [List.map_append, List.map_cons] at hx hz hlen
  have K := m_R_open (E := E) (d := d) (G := G) (c := c) (n := n) (sl := sl) (x := xOf u b) (fp := fp) (K := arC P k) (all := (List.range (arC P k)).map (fun i => tm (tn (P 6 (4 * k + i))))) hw hx hlen hz w2 w6 (fun i t hi => by
    rw [List.getElem?_map] at hi
    obtain ⟨j, hj, rfl⟩ := Option.map_eq_some_iff.mp hi
    have hj2 := List.getElem?_eq_some_iff.mp hj
    obtain ⟨hj3, hj4⟩ := hj2
    simp at hj3 hj4
    subst hj4
    exact ⟨w7 i hj3, (tw _ (hTi i hj3)).1⟩) (by simp) h4 hfp (row_out hw w2.1 (Or.inl (by decide))) (by simp only [List.length_append, List.length_map, aKs, List.length_range] at hl2 ⊢; omega)
  rw [uR_self, List.length_map] at K
  refine K.mono (fun o G' hq => ?_)
  obtain ⟨ho, x', hG, hX'⟩ := hq
  refine ⟨ho, x', hG, ?_⟩
  rw [pW_aKs, List.append_assoc] at hX'
  rw [List.map_append, List.map_append]
  exact hX'
theorem m_T_wishNone (hw : rowW u a b) {ow p : Nat} {ws : List (Nat × Nat)} {bd : Nat → Option Nat} (hx : hX (xOf u b) ow (ws.map (tmQ tm)) bd) (hl : ws.length ≤ 24) (hb : ∀ q ∈ ws, q.1 < 10000) (hp : p < 10000) (hn : ∀ q ∈ ws, q.1 ≠ p) : GM E Y_Row_wishFor d [.ref b, .int (nI p)] (yW E G a c u n sl) (rIs (some (.int (-1))) (yW E G a c u n sl)) := by
  have K := m_R_wishNone (E := E) (d := d) (G := G) (c := c) (n := n) (sl := sl) (x := xOf u b) (p := p) hw hx (by rw [List.length_map]; exact hl) (fun q hq => by
    obtain ⟨y, hy, rfl⟩ := List.mem_map.mp hq
    have := hb y hy
    show y.1 < _
    omega) (by omega) (fun q hq => by
    obtain ⟨y, hy, rfl⟩ := List.mem_map.mp hq
    exact hn y hy)
  rw [uR_self] at K
  exact K
theorem m_T_wishSome (hw : rowW u a b) {ow p k : Nat} {l r : List (Nat × Nat)} {bd : Nat → Option Nat} (hx : hX (xOf u b) ow ((l ++ (p, k) :: r).map (tmQ tm)) bd) (hl : (l ++ (p, k) :: r).length ≤ 24) (hb : ∀ q ∈ l ++ (p, k) :: r, q.1 < 10000) (hn : ∀ q ∈ l, q.1 ≠ p) : GM E Y_Row_wishFor d [.ref b, .int (nI p)] (yW E G a c u n sl) (rIs (some (.int (nI l.length))) (yW E G a c u n sl)) := by
  have hp := hb (p, k) (by simp)
  have hl' : ((l ++ (p, k) :: r).map (tmQ tm)).length ≤ 24 := by rw [List.length_map]; exact hl
  have hb' : ∀ q ∈ (l ++ (p, k) :: r).map (tmQ tm), q.1 < 2 ^ 31 := fun q hq => by
    obtain ⟨y, hy, rfl⟩ := List.mem_map.mp hq
    have := hb y hy
    show y.1 < _
    omega
  rw [List.map_append, List.map_cons] at hx hl' hb'
  have K := m_R_wishSome (E := E) (d := d) (G := G) (c := c) (n := n) (sl := sl) (x := xOf u b) (p := p) hw hx hl' hb' (by show p < _; simp only at hp; omega) (fun q hq => by
    obtain ⟨y, hy, rfl⟩ := List.mem_map.mp hq
    exact hn y hy)
  rw [uR_self, List.length_map] at K
  exact K
theorem pB_q {l0 ks sp : List Nat} {fr q0 : Nat} (h : pB E a Nb Sb c0 u0 n0 l0 fr c u n sl sp ks) (ho : uOk u0 a n0) (hq : zIs u0 a q0 6) : zIs u a q0 6 ∧ u.2.2.1 q0 = u0.2.2.1 q0 := by
  have hn := (ho q0 (by rw [hq.1]; decide)).2
  exact ⟨⟨(h.2.2.1.1 q0 hn).trans hq.1, hq.2⟩, (h.2.2.1.2 q0 hn (by rw [hq.1]; decide) (by rw [hq.1]; decide)).2.1⟩
set_option maxHeartbeats 400000 in
set_option maxRecDepth 100000 in
theorem m_S_pa78 {l0 : List Nat} {q0 ow j : Nat} {wh en wi : Int32} {ws : List (Nat × Nat)} {bd : Nat → Option Nat} (wf : wfN P N) (tp : tmP P N tm ob T) (tw0 : tmW P u0 a tm ob T) (ho0 : uOk u0 a n0) {ks sp : List Nat} (hl0 : l0.length ≤ 800) (hB : pB E a Nb Sb c0 u0 n0 l0 l0.length c u n sl sp ks) (hbm : b ∈ l0) (hI : tI P N ob T ws bd) (hx : hX (xOf u b) ow (ws.map (tmQ tm)) bd)
    (kk : ∀ b2 c1 u1 n1 sl1 sp1, pB E a Nb Sb c0 u0 n0 l0 l0.length c1 u1 n1 sl1 sp1 (ks ++ [b2]) → (∀ y ∈ ks, xOf u1 y = xOf u y) → hX (xOf u1 b2) ow (ws.map (tmQ tm)) bd → GT E Y_Rows_putAnswer (d + 9) G0 107 [(0, .ref (a + 13)), (1, .ref q0), (2, .int wh), (3, .int (nI l0.length)), (4, .int en), (5, .int (nI j)), (6, .ref b), (7, .int wi), (8, .int (nI (l0 ++ ks).length)), (9, .ref b2)] [] (yW E G a c1 u1 n1 sl1) Q)
    (kz : ks.length = 80 → Q (.inl (some (.int 0))) (yW E G a c u n sl)) : GT E Y_Rows_putAnswer (d + 9) G0 78 [(0, .ref (a + 13)), (1, .ref q0), (2, .int wh), (3, .int (nI l0.length)), (4, .int en), (5, .int (nI j)), (6, .ref b), (7, .int wi)] [] (yW E G a c u n sl) Q := by
  have h13 := hB.1.2.2.2.2.2.2.1
  have hcnt := hB.2.2.2.2.2
  have hll : (l0 ++ ks).length = l0.length + ks.length := List.length_append
  by_cases hfull : l0.length + ks.length = l0.length + 80
  · refine g_aload_n d_Rows_putAnswer_78 rfl ?_
    refine x_get (k := 13) (j := 1) (v := .int (c.1 13)) kc_Rows fl_Rows_18 (by decide) (by decide) rfl rfl d_Rows_putAnswer_79 ?_
    rw [h13]
    refine g_istore d_Rows_putAnswer_82 (by decide) rfl ?_
    refine g_aload_n d_Rows_putAnswer_84 rfl ?_
    refine g_iload_n d_Rows_putAnswer_85 rfl ?_
    refine g_iload d_Rows_putAnswer_86 rfl ?_
    refine c_Vr (as := [.int (nI l0.length), .int (nI (l0 ++ ks).length)]) kv_Rows_insert ml_Rows_40 rfl (x_at (k := 13) (by decide) rfl) (m_S_insNull (K := (l0 ++ ks).length) h13 (by omega) (by omega)) rfl (Nat.le_of_ble_eq_true rfl) rfl d_Rows_putAnswer_88 rfl ?_
    refine g_astoreN d_Rows_putAnswer_91 (by decide) rfl ?_
    refine g_aloadN d_Rows_putAnswer_93 rfl ?_
    refine g_ifnonnullN d_Rows_putAnswer_95 ?_
    refine g_iconst (v := 0) d_Rows_putAnswer_98 (by decide) ?_
    refine g_zret rfl rfl d_Rows_putAnswer_99 ?_
    exact kz (by omega)
  · refine g_aload_n d_Rows_putAnswer_78 rfl ?_
    refine x_get (k := 13) (j := 1) (v := .int (c.1 13)) kc_Rows fl_Rows_18 (by decide) (by decide) rfl rfl d_Rows_putAnswer_79 ?_
    rw [h13]
    refine g_istore d_Rows_putAnswer_82 (by decide) rfl ?_
    refine g_aload_n d_Rows_putAnswer_84 rfl ?_
    refine g_iload_n d_Rows_putAnswer_85 rfl ?_
    refine g_iload d_Rows_putAnswer_86 rfl ?_
    refine c_V (as := [.int (nI l0.length), .int (nI (l0 ++ ks).length)]) kv_Rows_insert ml_Rows_40 rfl (x_at (k := 13) (by decide) rfl) (m_S_insert (d := d + 1) (l := l0 ++ ks) (m := []) (by rw [List.append_nil]; exact hB.1) (by simp only [List.length_nil]; omega) (by simp only [List.length_nil]; omega) (by simp only [List.length_nil]; omega)) rfl (Nat.le_of_ble_eq_true rfl) rfl d_Rows_putAnswer_88 (fun v_88 G_88 h_88 => ?_) (fun D_88 G_88 h_88 => by obtain ⟨_, _, _, _, _, _, h, _⟩ := h_88; cases h)
    obtain ⟨b2, c1, u1, n1', sl1, sp1, ho1, rfl, rw1, fc1, fr1, nn1, kx1⟩ := h_88
    cases ho1
    obtain ⟨B1, kx⟩ := pB_in hB rw1 fc1 fr1 nn1 kx1 hfull
    have w2 : rowW u1 a b2 := pB_row B1 (by simp)
    have w1 : rowW u1 a b := (B1.1.2.2.2.2.2.1 b (by simp [hbm])).1
    have hne : b2 ≠ b := fun e => (nd_mid (m := []) B1.1.2.2.2.2.1).1 b hbm e.symm
    have hx1 : hX (xOf u1 b) ow (ws.map (tmQ tm)) bd := by rw [kx1 b (by simp [hbm])]; exact hx
    have tw1 : tmW P u1 a tm ob T := tmW_fr tw0 ho0 B1.2.2.1
    have hlen : (ws.map (tmQ tm)).length ≤ 24 := by
      rw [List.length_map]
      exact Nat.le_trans (tI_len wf (fun q hq => (hI.1 q hq).1)) hI.2.2.2
    refine g_astore d_Rows_putAnswer_91 (by decide) rfl ?_
    refine g_aload d_Rows_putAnswer_93 rfl ?_
    refine g_ifnonnull (tgt := 100) d_Rows_putAnswer_95 (by decide) ?_
    refine g_aload d_Rows_putAnswer_100 rfl ?_
    refine g_aload d_Rows_putAnswer_102 rfl ?_
    refine c_Vx (as := [.ref (b)]) kv_Row_become ml_Rows_79 rfl (z_at w2.1 (by decide)) (m_T_become w2 w1 hne hx1 hlen (tI_z tp tw1 hI.1)) rfl (Nat.le_of_ble_eq_true rfl) rfl d_Rows_putAnswer_104 rfl (fun G_104 h_104 => ?_)
    obtain ⟨x2, rfl, hx2⟩ := h_104
    have B2 := pB_uR (x := x2) B1
    refine kk b2 c1 _ n1' sl1 sp1 B2 (fun y hy => ?_) (by rw [xOf_at]; exact hx2)
    rw [pB_x B1 (by simp) (by simp [hy]) ((nd_mid (m := []) B1.1.2.2.2.2.1).2.1 y hy)]
    exact kx y hy
set_option maxHeartbeats 1000000 in
set_option maxRecDepth 100000 in
theorem m_S_pa22 (wf : wfA P N pos) (wb : wfB P N) (wk : wfK P N) (tp : tmP P N tm ob T) (tw0 : tmW P u0 a tm ob T) (ho0 : uOk u0 a n0) {l0 lA lB : List Nat} {q0 p fp : Nat} {wh : Int32} {R : List rC} (hl0 : l0.length ≤ 800) (hR : ∀ A ∈ R, tI P N ob T A.2.1 A.2.2 ∧ ∀ q ∈ A.2.1, aK P q.2 ∧ q.1 < 10000) (hp : p < 10000) (hfp : fp < 10000) (hq6 : zIs u0 a q0 6) (f2 : u0.2.2.1 q0 2 = nI p) (f4 : u0.2.2.1 q0 4 = nI fp) : ∀ (q2 : List Nat) (R2 : List rC) (q1 : List Nat) (R1 : List rC) (ks : List Nat) (c : cS) (u : uS) (n sl : Nat) (sp : List Nat), l0 = lA ++ ((q1 ++ q2) ++ lB) → R = R1 ++ R2 → rcs u0 tm q2 R2 → pB E a Nb Sb c0 u0 n0 l0 l0.length c u n sl sp ks → rcs u tm ks (ansC P p fp wh R1) →
    GT E Y_Rows_putAnswer (d + 9) G0 22 [(0, .ref (a + 13)), (1, .ref q0), (2, .int wh), (3, .int (nI l0.length)), (4, .int (nI (lA.length + (q1 ++ q2).length))), (5, .int (nI (lA.length + q1.length)))] [] (yW E G a c u n sl) (prQ E G a Nb Sb tm c0 u0 n0 l0 l0.length (ansC P p fp wh R)) := by
  intro q2
  induction q2 with
  | nil =>
    intro R2 q1 R1 ks c u n sl sp hl hRR hr hB hc
    cases R2 with
    | cons A R2 => exact hr.elim
    | nil =>
      rw [List.append_nil] at hRR
      subst hRR
      refine g_iload d_Rows_putAnswer_22 rfl ?_
      refine g_iload d_Rows_putAnswer_24 rfl ?_
      refine g_icmp_ge (tgt := 142) d_Rows_putAnswer_26 (by decide) (fun c_26 => ?_) (fun c_26 => ?_)
      rotate_left
      · exact absurd c_26 (fun q => q (by rw [List.append_nil]; exact Int32.le_refl _))
      refine g_iconst (v := 1) d_Rows_putAnswer_142 (by decide) ?_
      refine g_zret rfl rfl d_Rows_putAnswer_143 ?_
      exact Or.inl ⟨rfl, c, u, n, sl, sp, ks, rfl, hB, hc⟩
  | cons b q2 ih =>
    intro R2 q1 R1 ks c u n sl sp hl hRR hr hB hc
    cases R2 with
    | nil => exact hr.elim
    | cons A R2 =>
      obtain ⟨ow, ws, bd⟩ := A
      obtain ⟨hI, hws⟩ := hR (ow, ws, bd) (by rw [hRR]; simp)
      have hbm : b ∈ l0 := by rw [hl]; simp
      have tw := tmW_fr tw0 ho0 hB.2.2.1
      have hw := (hB.1.2.2.2.2.2.1 b (by simp [hbm])).1
      obtain ⟨hqu, eq0⟩ := pB_q hB ho0 hq6
      have hx : hX (xOf u b) ow (ws.map (tmQ tm)) bd := by rw [hB.2.2.2.2.1 b hbm]; exact hr.1
      have hlo := hB.1.2.2.2.1
      have hl24 : ws.length ≤ 24 := Nat.le_trans (tI_len wf.1 (fun q hq => (hI.1 q hq).1)) hI.2.2.2
      have hlen := congrArg List.length hl
      simp only [List.length_append, List.length_cons] at hlen
      have hi : ((l0 ++ ks) ++ sp)[lA.length + q1.length]? = some b := by
        have e : (l0 ++ ks) ++ sp = (lA ++ q1) ++ b :: (q2 ++ lB ++ ks ++ sp) := by rw [hl]; simp
        rw [e, show lA.length + q1.length = (lA ++ q1).length by simp]
        exact mid_at
      have hll : lA.length + (q1 ++ b :: q2).length = lA.length + q1.length + (q2.length + 1) := by simp; omega
      have nxt : ∀ (w : List Nat) (c' : cS) (u' : uS) (n' sl' : Nat) (sp' : List Nat), pB E a Nb Sb c0 u0 n0 l0 l0.length c' u' n' sl' sp' w → rcs u' tm w (ansC P p fp wh (R1 ++ [(ow, ws, bd)])) → GT E Y_Rows_putAnswer (d + 9) G0 136 [(0, .ref (a + 13)), (1, .ref q0), (2, .int wh), (3, .int (nI l0.length)), (4, .int (nI (lA.length + (q1 ++ b :: q2).length))), (5, .int (nI (lA.length + q1.length)))] [] (yW E G a c' u' n' sl') (prQ E G a Nb Sb tm c0 u0 n0 l0 l0.length (ansC P p fp wh R)) := fun w c' u' n' sl' sp' hB' hc' => by
        have K := ih R2 (q1 ++ [b]) (R1 ++ [(ow, ws, bd)]) w c' u' n' sl' sp' (by rw [hl]; simp) (by rw [hRR]; simp) hr.2 hB' hc'
        rw [show (q1 ++ [b]) ++ q2 = q1 ++ b :: q2 by simp] at K
        refine g_iinc (v := nI (lA.length + (q1 ++ [b]).length)) d_Rows_putAnswer_136 rfl (by rw [List.length_append]; exact nI_1 _) (by decide) rfl ?_
        refine g_goto (tgt := 22) d_Rows_putAnswer_139 (by decide) ?_
        exact K
      have hone : ∀ w, ansC P p fp wh (R1 ++ [w]) = ansC P p fp wh R1 ++ ansC1 P p fp wh w := fun w => by rw [ansC_app]; simp [ansC]
      have htot : (ansC P p fp wh R).length = (ansC P p fp wh R1).length + ((ansC1 P p fp wh (ow, ws, bd)).length + (ansC P p fp wh R2).length) := by rw [hRR, ansC_app, List.length_append, show ansC P p fp wh ((ow, ws, bd) :: R2) = ansC1 P p fp wh (ow, ws, bd) ++ ansC P p fp wh R2 by simp [ansC], List.length_append]
      have hks := rcs_len hc
      cases hf : fndC p ws with
      | none =>
        have e1 : ansC1 P p fp wh (ow, ws, bd) = [(ow, ws, bd)] := by simp only [ansC1, hf]
        refine g_iload d_Rows_putAnswer_22 rfl ?_
        refine g_iload d_Rows_putAnswer_24 rfl ?_
        refine g_icmp_ge (tgt := 142) d_Rows_putAnswer_26 (by decide) (fun c_26 => ?_) (fun c_26 => ?_)
        · exact absurd c_26 (by rw [hll]; exact ige (by omega) (by omega) (by omega))
        refine g_aload_n d_Rows_putAnswer_29 rfl ?_
        refine x_get (k := 13) (j := 0) (v := .ref (a + 14)) kc_Rows fl_Rows_12 (by decide) (by decide) rfl rfl d_Rows_putAnswer_30 ?_
        refine g_iload d_Rows_putAnswer_33 rfl ?_
        refine c_Vr (as := [.int (nI (lA.length + q1.length))]) kv_ArrayList_get ml_Rows_28 rfl (x_at (k := 14) (by decide) rfl) (m_K_get lk_rows hlo (by omega) hi) rfl (Nat.le_of_ble_eq_true rfl) rfl d_Rows_putAnswer_35 rfl ?_
        refine z_cast (kb := 1) cl_Rows_32 rfl hw.1 (by decide) d_Rows_putAnswer_38 ?_
        refine g_astore d_Rows_putAnswer_41 (by decide) rfl ?_
        refine g_aload d_Rows_putAnswer_43 rfl ?_
        refine g_aload_n d_Rows_putAnswer_45 rfl ?_
        refine z_get (k := 6) (j := 2) (v := .int (u.2.2.1 q0 2)) kc_Question fl_Rows_63 (by decide) hqu (by decide) rfl rfl d_Rows_putAnswer_46 ?_
        rw [eq0, f2]
        refine c_Vr (as := [.int (nI p)]) kv_Row_wishFor ml_Rows_66 rfl (z_at hw.1 (by decide)) (m_T_wishNone hw hx hl24 (fun q hq => (hws q hq).2) hp (fndC_none hf)) rfl (Nat.le_of_ble_eq_true rfl) rfl d_Rows_putAnswer_49 rfl ?_
        refine g_istore d_Rows_putAnswer_52 (by decide) rfl ?_
        refine g_iload d_Rows_putAnswer_54 rfl ?_
        refine g_iconst (v := (-1)) d_Rows_putAnswer_56 (by decide) ?_
        refine g_icmp_eq (tgt := 78) d_Rows_putAnswer_57 (by decide) (fun c_57 => ?_) (fun c_57 => ?_)
        rotate_left
        · exact absurd c_57 (fun q => q rfl)
        refine m_S_pa78 (ow := ow) (ws := ws) (bd := bd) wf.1 tp tw0 ho0 hl0 hB hbm hI hx (fun b2 c1 u1 n1 sl1 sp1 B1 kx1 hx1 => ?_) (fun h => Or.inr ⟨rfl, ?_, c, u, n, sl, sp, ks, rfl, hB⟩)
        · refine g_iload d_Rows_putAnswer_107 rfl ?_
          refine g_iconst (v := (-1)) d_Rows_putAnswer_109 (by decide) ?_
          refine g_icmp_eq (tgt := 136) d_Rows_putAnswer_110 (by decide) (fun c_110 => ?_) (fun c_110 => ?_)
          rotate_left
          · exact absurd c_110 (fun q => q rfl)
          refine g_weak (lv' := [(0, .ref (a + 13)), (1, .ref q0), (2, .int wh), (3, .int (nI l0.length)), (4, .int (nI (lA.length + (q1 ++ b :: q2).length))), (5, .int (nI (lA.length + q1.length)))]) (fun q hq => List.mem_append_left _ hq) (by simp) ?_
          refine nxt (ks ++ [b2]) c1 u1 n1 sl1 sp1 B1 ?_
          rw [hone, e1]
          exact rcs_app (rcs_fr hc kx1) ⟨hx1, trivial⟩
        · rw [htot, e1]
          simp only [List.length_cons, List.length_nil]
          omega
      | some z =>
        obtain ⟨hz, hz1⟩ := fndC_some hf
        obtain ⟨zl, zk, zr⟩ := z
        simp only at hz hz1
        subst hz
        obtain ⟨hak, -⟩ := hws (p, zk) (by simp)
        obtain ⟨y1, y2, -, -, y5, -⟩ := tW_settled wf wk tp tw (q := (p, zk)) (hI.1 (p, zk) (by simp)).2 hak
        have hzl : zl.length < 24 := by simp at hl24; omega
        have hxz : (xOf u b).2.2.1 zl.length = some (tm zk) := by
          have := hx.2.2.1 zl.length (p, tm zk) (by rw [List.map_append, List.map_cons, show zl.length = (zl.map (tmQ tm)).length by simp]; exact mid_at)
          exact this.2
        by_cases hwh : P 5 zk = wh
        · have e1 : ansC1 P p fp wh (ow, zl ++ (p, zk) :: zr, bd) = aC ow (aL P (zl ++ (aKs P (fun i => fp + i) zk (arC P zk) ++ zr)) bd) := by simp only [ansC1, hf]; rw [if_pos hwh]
          obtain ⟨hI2, -⟩ := tI_open (g := fun i => fp + i) wf wb wk tp hI hak
          have hp1 := List.length_pos_iff.mpr (aL_ne wf.1 (bd := bd) (fun q hq => (hI2.1 q hq).1))
          have e1l := congrArg List.length e1
          simp only [aC, List.length_map] at e1l
          refine g_iload d_Rows_putAnswer_22 rfl ?_
          refine g_iload d_Rows_putAnswer_24 rfl ?_
          refine g_icmp_ge (tgt := 142) d_Rows_putAnswer_26 (by decide) (fun c_26 => ?_) (fun c_26 => ?_)
          · exact absurd c_26 (by rw [hll]; exact ige (by omega) (by omega) (by omega))
          refine g_aload_n d_Rows_putAnswer_29 rfl ?_
          refine x_get (k := 13) (j := 0) (v := .ref (a + 14)) kc_Rows fl_Rows_12 (by decide) (by decide) rfl rfl d_Rows_putAnswer_30 ?_
          refine g_iload d_Rows_putAnswer_33 rfl ?_
          refine c_Vr (as := [.int (nI (lA.length + q1.length))]) kv_ArrayList_get ml_Rows_28 rfl (x_at (k := 14) (by decide) rfl) (m_K_get lk_rows hlo (by omega) hi) rfl (Nat.le_of_ble_eq_true rfl) rfl d_Rows_putAnswer_35 rfl ?_
          refine z_cast (kb := 1) cl_Rows_32 rfl hw.1 (by decide) d_Rows_putAnswer_38 ?_
          refine g_astore d_Rows_putAnswer_41 (by decide) rfl ?_
          refine g_aload d_Rows_putAnswer_43 rfl ?_
          refine g_aload_n d_Rows_putAnswer_45 rfl ?_
          refine z_get (k := 6) (j := 2) (v := .int (u.2.2.1 q0 2)) kc_Question fl_Rows_63 (by decide) hqu (by decide) rfl rfl d_Rows_putAnswer_46 ?_
          rw [eq0, f2]
          refine c_Vr (as := [.int (nI p)]) kv_Row_wishFor ml_Rows_66 rfl (z_at hw.1 (by decide)) (m_T_wishSome hw hx hl24 (fun q hq => (hws q hq).2) hz1) rfl (Nat.le_of_ble_eq_true rfl) rfl d_Rows_putAnswer_49 rfl ?_
          refine g_istore d_Rows_putAnswer_52 (by decide) rfl ?_
          refine g_iload d_Rows_putAnswer_54 rfl ?_
          refine g_iconst (v := (-1)) d_Rows_putAnswer_56 (by decide) ?_
          refine g_icmp_eq (tgt := 78) d_Rows_putAnswer_57 (by decide) (fun c_57 => ?_) (fun c_57 => ?_)
          · exact absurd c_57 (fun q => nI_ne1 (by omega) q)
          refine g_aload d_Rows_putAnswer_60 rfl ?_
          refine z_get (k := 1) (j := 1) (v := .ref (b + 2)) kc_Row fl_Rows_70 (by decide) hw.1 (by decide) rfl rfl d_Rows_putAnswer_62 ?_
          refine g_iload d_Rows_putAnswer_65 rfl ?_
          refine z_tald (k := 3) (j := zl.length) hw.2.2.1 (by decide) rfl (nI_hi (by omega)) hzl hxz d_Rows_putAnswer_67 ?_
          refine z_get (k := 7) (j := 2) (v := .int (u.2.2.1 (tm zk) 2)) kc_Term fl_Rows_74 (by decide) y1 (by decide) rfl rfl d_Rows_putAnswer_68 ?_
          rw [y5]
          refine g_iload_n d_Rows_putAnswer_71 rfl ?_
          refine g_icmp_eq (tgt := 78) d_Rows_putAnswer_72 (by decide) (fun c_72 => ?_) (fun c_72 => ?_)
          rotate_left
          · exact absurd c_72 (fun q => q hwh)
          refine m_S_pa78 (ow := ow) (bd := bd) wf.1 tp tw0 ho0 hl0 hB hbm hI hx (fun b2 c1 u1 n1 sl1 sp1 B1 kx1 hx1 => ?_) (fun h => Or.inr ⟨rfl, by omega, c, u, n, sl, sp, ks, rfl, hB⟩)
          obtain ⟨hqu1, eq1⟩ := pB_q B1 ho0 hq6
          have w1 : rowW u1 a b2 := pB_row B1 (by simp)
          have tw1 : tmW P u1 a tm ob T := tmW_fr tw0 ho0 B1.2.2.1
          have hll2 : (l0 ++ ks).length = l0.length + ks.length := List.length_append
          have hcnt := B1.2.2.2.2.2
          rw [List.length_append, List.length_cons, List.length_nil] at hcnt
          refine g_iload d_Rows_putAnswer_107 rfl ?_
          refine g_iconst (v := (-1)) d_Rows_putAnswer_109 (by decide) ?_
          refine g_icmp_eq (tgt := 136) d_Rows_putAnswer_110 (by decide) (fun c_110 => ?_) (fun c_110 => ?_)
          · exact absurd c_110 (fun q => nI_ne1 (by omega) q)
          refine g_aload d_Rows_putAnswer_113 rfl ?_
          refine g_iload d_Rows_putAnswer_115 rfl ?_
          refine g_aload_n d_Rows_putAnswer_117 rfl ?_
          refine z_get (k := 6) (j := 4) (v := .int (u1.2.2.1 q0 4)) kc_Question fl_Rows_83 (by decide) hqu1 (by decide) rfl rfl d_Rows_putAnswer_118 ?_
          rw [eq1, f4]
          refine c_Vx (as := [.int (nI zl.length), .int (nI fp)]) kv_Row_open ml_Rows_86 rfl (z_at w1.1 (by decide)) (m_T_open wf wb wk tp tw1 w1 hI hak hx1 hfp) rfl (Nat.le_of_ble_eq_true rfl) rfl d_Rows_putAnswer_121 rfl (fun G_121 h_121 => ?_)
          obtain ⟨x2, rfl, hx2⟩ := h_121
          have B2 := pB_uR (x := x2) B1
          have hc2 : rcs (uR u1 b2 x2) tm ks (ansC P p fp wh R1) := (pB_rcs (x := x2) B1 (rcs_fr hc kx1) (show rcs u1 tm [] [] from trivial)).1
          have tw2 : tmW P (uR u1 b2 x2) a tm ob T := tmW_fr tw0 ho0 B2.2.2.1
          have rw2 : rwOk E a Nb Sb c1 (uR u1 b2 x2) n1 sl1 ((l0 ++ ks) ++ [b2]) sp1 := by rw [List.append_assoc]; exact B2.1
          have KP := m_S_part (E := E) (d := d) (G := G) (l := l0 ++ ks) (fr := l0.length) (ow := ow) (ws := zl ++ (aKs P (fun i => fp + i) zk (arC P zk) ++ zr)) (bd := bd) wf.1 wb wk tp tw2 rw2 (by omega) hl0 (by omega) hI2 (by unfold rc; rw [xOf_at]; exact hx2)
          refine g_aload_n d_Rows_putAnswer_124 rfl ?_
          refine g_iload_n d_Rows_putAnswer_125 rfl ?_
          refine g_iload d_Rows_putAnswer_126 rfl ?_
          refine c_V (as := [.int (nI l0.length), .int (nI (l0 ++ ks).length)]) kv_Rows_part ml_Rows_52 rfl (x_at (k := 13) (by decide) rfl) (KP) rfl (Nat.le_of_ble_eq_true rfl) rfl d_Rows_putAnswer_128 (fun v_128 G_128 h_128 => ?_) (fun D_128 G_128 h_128 => by rcases h_128 with ⟨h, -⟩ | ⟨h, -⟩ <;> cases h)
          rcases h_128 with ⟨ho, c2, u2, n2, sl2, sp2, bs, rfl, B3, hc3⟩ | ⟨ho, hbad, c2, u2, n2, sl2, sp2, bs, rfl, B3⟩
          · cases ho
            obtain ⟨B4, kx4⟩ := pB_app (ks := ks) (ms := [b2]) B2 B3
            refine g_if_ne (tgt := 136) d_Rows_putAnswer_131 (by decide) (fun c_131 => ?_) (fun c_131 => absurd c_131 (by decide))
            refine g_weak (lv' := [(0, .ref (a + 13)), (1, .ref q0), (2, .int wh), (3, .int (nI l0.length)), (4, .int (nI (lA.length + (q1 ++ b :: q2).length))), (5, .int (nI (lA.length + q1.length)))]) (fun q hq => List.mem_append_left _ hq) (by simp) ?_
            refine nxt (ks ++ bs) c2 u2 n2 sl2 sp2 B4 ?_
            rw [hone, e1]
            exact rcs_app (rcs_fr hc2 kx4) hc3
          · cases ho
            have B4 := pB_bad (ks := ks) (ms := [b2]) B2 B3
            simp only [aC, List.length_map] at hbad
            refine g_if_ne (tgt := 136) d_Rows_putAnswer_131 (by decide) (fun c_131 => absurd c_131 (by decide)) (fun c_131 => ?_)
            refine g_iconst (v := 0) d_Rows_putAnswer_134 (by decide) ?_
            refine g_zret rfl rfl d_Rows_putAnswer_135 ?_
            exact Or.inr ⟨rfl, by omega, c2, u2, n2, sl2, sp2, ks ++ bs, rfl, B4⟩
        · have e1 : ansC1 P p fp wh (ow, zl ++ (p, zk) :: zr, bd) = [] := by simp only [ansC1, hf]; rw [if_neg hwh]
          refine g_iload d_Rows_putAnswer_22 rfl ?_
          refine g_iload d_Rows_putAnswer_24 rfl ?_
          refine g_icmp_ge (tgt := 142) d_Rows_putAnswer_26 (by decide) (fun c_26 => ?_) (fun c_26 => ?_)
          · exact absurd c_26 (by rw [hll]; exact ige (by omega) (by omega) (by omega))
          refine g_aload_n d_Rows_putAnswer_29 rfl ?_
          refine x_get (k := 13) (j := 0) (v := .ref (a + 14)) kc_Rows fl_Rows_12 (by decide) (by decide) rfl rfl d_Rows_putAnswer_30 ?_
          refine g_iload d_Rows_putAnswer_33 rfl ?_
          refine c_Vr (as := [.int (nI (lA.length + q1.length))]) kv_ArrayList_get ml_Rows_28 rfl (x_at (k := 14) (by decide) rfl) (m_K_get lk_rows hlo (by omega) hi) rfl (Nat.le_of_ble_eq_true rfl) rfl d_Rows_putAnswer_35 rfl ?_
          refine z_cast (kb := 1) cl_Rows_32 rfl hw.1 (by decide) d_Rows_putAnswer_38 ?_
          refine g_astore d_Rows_putAnswer_41 (by decide) rfl ?_
          refine g_aload d_Rows_putAnswer_43 rfl ?_
          refine g_aload_n d_Rows_putAnswer_45 rfl ?_
          refine z_get (k := 6) (j := 2) (v := .int (u.2.2.1 q0 2)) kc_Question fl_Rows_63 (by decide) hqu (by decide) rfl rfl d_Rows_putAnswer_46 ?_
          rw [eq0, f2]
          refine c_Vr (as := [.int (nI p)]) kv_Row_wishFor ml_Rows_66 rfl (z_at hw.1 (by decide)) (m_T_wishSome hw hx hl24 (fun q hq => (hws q hq).2) hz1) rfl (Nat.le_of_ble_eq_true rfl) rfl d_Rows_putAnswer_49 rfl ?_
          refine g_istore d_Rows_putAnswer_52 (by decide) rfl ?_
          refine g_iload d_Rows_putAnswer_54 rfl ?_
          refine g_iconst (v := (-1)) d_Rows_putAnswer_56 (by decide) ?_
          refine g_icmp_eq (tgt := 78) d_Rows_putAnswer_57 (by decide) (fun c_57 => ?_) (fun c_57 => ?_)
          · exact absurd c_57 (fun q => nI_ne1 (by omega) q)
          refine g_aload d_Rows_putAnswer_60 rfl ?_
          refine z_get (k := 1) (j := 1) (v := .ref (b + 2)) kc_Row fl_Rows_70 (by decide) hw.1 (by decide) rfl rfl d_Rows_putAnswer_62 ?_
          refine g_iload d_Rows_putAnswer_65 rfl ?_
          refine z_tald (k := 3) (j := zl.length) hw.2.2.1 (by decide) rfl (nI_hi (by omega)) hzl hxz d_Rows_putAnswer_67 ?_
          refine z_get (k := 7) (j := 2) (v := .int (u.2.2.1 (tm zk) 2)) kc_Term fl_Rows_74 (by decide) y1 (by decide) rfl rfl d_Rows_putAnswer_68 ?_
          rw [y5]
          refine g_iload_n d_Rows_putAnswer_71 rfl ?_
          refine g_icmp_eq (tgt := 78) d_Rows_putAnswer_72 (by decide) (fun c_72 => ?_) (fun c_72 => ?_)
          · exact absurd c_72 hwh
          refine g_goto (tgt := 136) d_Rows_putAnswer_75 (by decide) ?_
          refine g_weak (lv' := [(0, .ref (a + 13)), (1, .ref q0), (2, .int wh), (3, .int (nI l0.length)), (4, .int (nI (lA.length + (q1 ++ b :: q2).length))), (5, .int (nI (lA.length + q1.length)))]) (fun q hq => List.mem_append_left _ hq) (by simp) ?_
          refine nxt ks c u n sl sp hB ?_
          rw [hone, e1, List.append_nil]
          exact hc
set_option maxHeartbeats 400000 in
set_option maxRecDepth 100000 in
theorem m_S_putAnswer (wf : wfA P N pos) (wb : wfB P N) (wk : wfK P N) (tp : tmP P N tm ob T) (tw : tmW P u a tm ob T) {lA qs lB sp : List Nat} {q0 p fp : Nat} {wh : Int32} {R : List rC} (hl0 : (lA ++ (qs ++ lB)).length ≤ 800) (h : rwOk E a Nb Sb c u n sl (lA ++ (qs ++ lB)) sp) (hR : ∀ A ∈ R, tI P N ob T A.2.1 A.2.2 ∧ ∀ q ∈ A.2.1, aK P q.2 ∧ q.1 < 10000) (hp : p < 10000) (hfp : fp < 10000) (hq6 : zIs u a q0 6) (f0 : u.2.2.1 q0 0 = nI lA.length) (f1 : u.2.2.1 q0 1 = nI qs.length) (f2 : u.2.2.1 q0 2 = nI p) (f4 : u.2.2.1 q0 4 = nI fp) (hr : rcs u tm qs R) : GM E Y_Rows_putAnswer (d + 9) [.ref (a + 13), .ref q0, .int wh] (yW E G a c u n sl) (prQ E G a Nb Sb tm c u n (lA ++ (qs ++ lB)) (lA ++ (qs ++ lB)).length (ansC P p fp wh R)) := by
  refine g_entry (by decide) (by simp [Value.category]) (Nat.le_of_ble_eq_true rfl) ?_
  have h13 := h.2.2.2.2.2.2.1
  have hl1 := hl0
  simp only [List.length_append] at hl1
  refine g_aload_n d_Rows_putAnswer_0 rfl ?_
  refine x_get (k := 13) (j := 1) (v := .int (c.1 13)) kc_Rows fl_Rows_18 (by decide) (by decide) rfl rfl d_Rows_putAnswer_1 ?_
  rw [h13]
  refine g_istore_n d_Rows_putAnswer_4 (by decide) rfl ?_
  refine g_aload_n d_Rows_putAnswer_5 rfl ?_
  refine z_get (k := 6) (j := 0) (v := .int (u.2.2.1 q0 0)) kc_Question fl_Rows_56 (by decide) hq6 (by decide) rfl rfl d_Rows_putAnswer_6 ?_
  rw [f0]
  refine g_aload_n d_Rows_putAnswer_9 rfl ?_
  refine z_get (k := 6) (j := 1) (v := .int (u.2.2.1 q0 1)) kc_Question fl_Rows_61 (by decide) hq6 (by decide) rfl rfl d_Rows_putAnswer_10 ?_
  rw [f1]
  refine g_iadd d_Rows_putAnswer_13 ?_
  refine g_top (nI (lA.length + ([] ++ qs).length)) (by rw [List.nil_append]; exact i_nI (add_hi (nI_hi (by omega)) (nI_hi (by omega)) (by omega))) ?_
  refine g_istore d_Rows_putAnswer_14 (by decide) rfl ?_
  refine g_aload_n d_Rows_putAnswer_16 rfl ?_
  refine z_get (k := 6) (j := 0) (v := .int (u.2.2.1 q0 0)) kc_Question fl_Rows_56 (by decide) hq6 (by decide) rfl rfl d_Rows_putAnswer_17 ?_
  rw [f0]
  refine g_istore d_Rows_putAnswer_20 (by decide) rfl ?_
  exact m_S_pa22 (lA := lA) (lB := lB) wf wb wk tp tw h.2.2.1 hl0 hR hp hfp hq6 f2 f4 qs R [] [] [] c u n sl sp (by simp) rfl hr ⟨by rw [List.append_nil]; exact h, rFc_rf, rFr_rf, Nat.le_refl _, fun _ _ => rfl, by simp⟩ trivial
end CA
