/-! Places.answer; Tree.nextQuestion -/
section CE
variable {E : gE} {d : Nat} {G G0 : gS} {a : Nat} {c c' c0 : cS} {u u' u2 u0 : uS} {n n' n0 sl sl' : Nat} {Q : gO → gS → Prop} {B S : Nat} {p : Nat} {ks sp ps qs ms : List Nat}
/-- a place that was just added -/
def plN (u : uS) (ps : List Nat) (i : Nat) (x : Int32) : Prop := ∃ y, ps[i]? = some y ∧ u.2.2.1 y 0 = x ∧ u.2.2.1 y 1 = 2 ∧ u.2.2.1 y 2 = 0 ∧ u.2.2.1 y 4 = 0
theorem plN_pa {X i : Nat} {x : Int32} {ps' : List Nat} (h : plN u ps i x) (hp : paP E a B S c u n X ks sp ps qs ms c' u' n' sl' ps') (hi : i < X) : plN u' ps' i x := by
  obtain ⟨y, h1, h2⟩ := h
  obtain ⟨e, h6⟩ := hp.2.2.2.2.2.1
  refine ⟨y, by rw [h6, List.getElem?_append_left (List.getElem?_eq_some_iff.mp h1).1]; exact h1, ?_⟩
  rw [hp.2.2.2.2.2.2 i y hi h1]
  exact h2
set_option maxHeartbeats 400000 in
set_option maxRecDepth 100000 in
theorem m_P_ans50 {X ar pI q0 : Nat} {wh x0 : Int32} (har : ar ≤ 4) (hX3 : X + 4 < 3300) (hpX : pI < X) : ∀ (w k : Nat) (c : cS) (u : uS) (n sl : Nat) (ps : List Nat), k + w = ar → hpOk E a B S c u n sl ks sp ps qs ms → c.1 16 = nI (X + k) → X + k ≤ ps.length → ps[pI]? = some p → u.2.2.1 p 0 = x0 → (∀ c' u' n' sl' ps', paP E a B S c u n (X + k) ks sp ps qs ms c' u' n' sl' ps' → c'.1 16 = nI (X + ar) → X + ar ≤ ps'.length → (∀ j, k ≤ j → j < ar → plN u' ps' (X + j) (x0 + 1)) → Q (.inl none) (yW E G a c' u' n' sl')) →
    GT E Y_Places_answer (d + 8) G0 50 [(0, .ref (a + 15)), (1, .ref q0), (2, .int wh), (3, .int (nI ar)), (4, .ref p), (5, .int (nI k))] [] (yW E G a c u n sl) Q := by
  intro w
  induction w with
  | zero =>
    intro k c u n sl ps hk h hX hl hp hx kk
    obtain rfl : k = ar := by omega
    refine g_iload d_Places_answer_50 rfl ?_
    refine g_iload_n d_Places_answer_52 rfl ?_
    refine g_icmp_ge (tgt := 73) d_Places_answer_53 (by decide) (fun c_53 => ?_) (fun c_53 => ?_)
    rotate_left
    · exact absurd c_53 (fun q => q (Int32.le_refl _))
    refine g_vret rfl d_Places_answer_73 ?_
    exact kk c u n sl ps ⟨h, pFc_rf, kFr_rf, Nat.le_refl _, fun _ _ => rfl, ⟨[], by simp⟩, fun _ _ _ _ => rfl⟩ hX hl (fun j h1 h2 => by omega)
  | succ w ih =>
    intro k c u n sl ps hk h hX hl hp hx kk
    have hz := (lOk_get h.2.1 hp).2.2.2.2.1
    refine g_iload d_Places_answer_50 rfl ?_
    refine g_iload_n d_Places_answer_52 rfl ?_
    refine g_icmp_ge (tgt := 73) d_Places_answer_53 (by decide) (fun c_53 => ?_) (fun c_53 => ?_)
    · exact absurd c_53 (ige (by omega) (by omega) (by omega))
    refine g_aload_n d_Places_answer_56 rfl ?_
    refine g_aload d_Places_answer_57 rfl ?_
    refine z_get (k := 5) (j := 0) (v := .int (u.2.2.1 p 0)) kc_Place fl_Places_32 (by decide) hz (by decide) rfl rfl d_Places_answer_59 ?_
    rw [hx]
    refine g_iconst (v := 1) d_Places_answer_62 (by decide) ?_
    refine g_iadd d_Places_answer_63 ?_
    refine c_Vx (as := [.int ((x0) + (1))]) kv_Places_add ml_Places_22 rfl (x_at (k := 15) (by decide) rfl) (m_P_add (d := d) (X := X + k) (x := x0 + 1) h hX hl (by omega)) rfl (Nat.le_of_ble_eq_true rfl) rfl d_Places_answer_64 rfl (fun G_64 h_64 => ?_)
    obtain ⟨c1, u1, n1, sl1, ps1, rfl, pa1, g4, pn1⟩ := h_64
    have hp1 : ps1[pI]? = some p := by
      obtain ⟨e, he⟩ := pa1.2.2.2.2.2.1
      rw [he, List.getElem?_append_left (List.getElem?_eq_some_iff.mp hp).1]
      exact hp
    have hx1 : u1.2.2.1 p 0 = x0 := by rw [pa1.2.2.2.2.2.2 pI p (by omega) hp]; exact hx
    refine g_iinc (v := nI (k + 1)) d_Places_answer_67 rfl (nI_1 k) (by decide) rfl ?_
    refine g_goto (tgt := 50) d_Places_answer_70 (by decide) ?_
    have pn : plN u1 ps1 (X + k) (x0 + 1) := pn1
    refine ih (k + 1) c1 u1 n1 sl1 ps1 (by omega) pa1.1 g4 ?_ hp1 hx1 (fun c' u' n' sl' ps' t1 t2 t3 t4 => ?_)
    · obtain ⟨y, hy, -⟩ := pn
      have := (List.getElem?_eq_some_iff.mp hy).1
      omega
    · refine kk c' u' n' sl' ps' (paP_tr pa1 (paP_lt t1 (by omega))) t2 t3 (fun j h1 h2 => ?_)
      by_cases e : j = k
      · rw [e]
        exact plN_pa pn t1 (by omega)
      · exact t4 j (by omega) h2
/-- an answer's places -/
def ansP (E : gE) (a B S : Nat) (c : cS) (u : uS) (n X pI ar : Nat) (kd wh : Int32) (p : Nat) (ks sp ps qs ms : List Nat) (c' : cS) (u' : uS) (n' sl' : Nat) (ps' : List Nat) : Prop := hpOk E a B S c' u' n' sl' ks sp ps' qs ms ∧ pFc c c' ∧ kFr k5 u u' n ∧ n ≤ n' ∧ (∀ y ∈ ks ++ sp, xOf u' y = xOf u y) ∧ (∃ e, ps' = ps ++ e) ∧ (∀ i y, i < X → i ≠ pI → ps[i]? = some y → u'.2.2.1 y = u.2.2.1 y) ∧ c'.1 16 = nI (X + ar) ∧ X + ar ≤ ps'.length ∧ (∀ j, j < ar → plN u' ps' (X + j) (u.2.2.1 p 0 + 1)) ∧ u'.2.2.1 p 0 = u.2.2.1 p 0 ∧ u'.2.2.1 p 1 = kd ∧ u'.2.2.1 p 2 = wh ∧ u'.2.2.1 p 3 = nI X ∧ u'.2.2.1 p 4 = nI ar
set_option maxHeartbeats 400000 in
set_option maxRecDepth 100000 in
theorem m_P_answer1 {X ar pI q0 : Nat} {wh : Int32} (h : hpOk E a B S c u n sl ks sp ps qs ms) (har : ar ≤ 4) (hX3 : X + 4 < 3300) (hpX : pI < X) (hl : X ≤ ps.length) (hq6 : zIs u a q0 6) (f2 : u.2.2.1 q0 2 = nI pI) (f4 : u.2.2.1 q0 4 = nI X) (f5 : u.2.2.1 q0 5 = 1) (hp : ps[pI]? = some p) : GM E Y_Places_answer (d + 8) [.ref (a + 15), .ref q0, .int wh, .int (nI ar)] (yW E G a c u n sl) (rPost none (fun G' => ∃ c' u' n' sl' ps', G' = yW E G a c' u' n' sl' ∧ ansP E a B S c u n X pI ar 0 wh p ks sp ps qs ms c' u' n' sl' ps')) := by
  refine g_entry (by decide) (by simp [Value.category]) (Nat.le_of_ble_eq_true rfl) ?_
  have hz := (lOk_get h.2.1 hp).2.2.2.2.1
  refine g_aload_n d_Places_answer_0 rfl ?_
  refine x_get (k := 15) (j := 0) (v := .ref (a + 16)) kc_Places fl_Places_12 (by decide) (by decide) rfl rfl d_Places_answer_1 ?_
  refine g_aload_n d_Places_answer_4 rfl ?_
  refine z_get (k := 6) (j := 2) (v := .int (u.2.2.1 q0 2)) kc_Question fl_Places_35 (by decide) hq6 (by decide) rfl rfl d_Places_answer_5 ?_
  rw [f2]
  refine c_Vr (as := [.int (nI pI)]) kv_ArrayList_get ml_Places_26 rfl (x_at (k := 16) (by decide) rfl) (m_K_get lk_places h.2.1 (by omega) hp) rfl (Nat.le_of_ble_eq_true rfl) rfl d_Places_answer_8 rfl ?_
  refine z_cast (kb := 5) cl_Places_30 rfl hz (by decide) d_Places_answer_11 ?_
  refine g_astore d_Places_answer_14 (by decide) rfl ?_
  refine g_aload d_Places_answer_16 rfl ?_
  refine g_aload_n d_Places_answer_18 rfl ?_
  refine z_get (k := 6) (j := 5) (v := .int (u.2.2.1 q0 5)) kc_Question fl_Places_40 (by decide) hq6 (by decide) rfl rfl d_Places_answer_19 ?_
  rw [f5]
  refine g_if_eq (tgt := 29) d_Places_answer_22 (by decide) (fun c_22 => absurd c_22 (by decide)) (fun c_22 => ?_)
  refine g_iconst (v := 0) d_Places_answer_25 (by decide) ?_
  refine g_goto (tgt := 30) d_Places_answer_26 (by decide) ?_
  refine g_iload_n d_Places_answer_30 rfl ?_
  refine g_aload_n d_Places_answer_31 rfl ?_
  refine z_get (k := 6) (j := 4) (v := .int (u.2.2.1 q0 4)) kc_Question fl_Places_44 (by decide) hq6 (by decide) rfl rfl d_Places_answer_32 ?_
  rw [f4]
  refine g_iload_n d_Places_answer_35 rfl ?_
  refine c_Vr (as := [.int (0), .int (wh), .int (nI X), .int (nI ar)]) kv_Place_answer ml_Places_46 rfl (z_at hz (by decide)) (m_Pl_answer hz) rfl (Nat.le_of_ble_eq_true rfl) rfl d_Places_answer_36 rfl ?_
  have hq6' : zIs (plA u p 0 wh (nI X) (nI ar)) a q0 6 := hq6
  have hz' : zIs (plA u p 0 wh (nI X) (nI ar)) a p 5 := hz
  have eq0 : (plA u p 0 wh (nI X) (nI ar)).2.2.1 q0 = u.2.2.1 q0 := plA_o (fun e => by have := hz.1; rw [← e, hq6.1] at this; exact absurd this (by decide))
  refine g_aload_n d_Places_answer_39 rfl ?_
  refine g_aload_n d_Places_answer_40 rfl ?_
  refine z_get (k := 6) (j := 4) (v := .int ((plA u p 0 wh (nI X) (nI ar)).2.2.1 q0 4)) kc_Question fl_Places_44 (by decide) hq6' (by decide) rfl rfl d_Places_answer_41 ?_
  rw [eq0, f4]
  refine x_put (c' := (cF c 16 (nI X))) (k := 15) (j := 1) kc_Places fl_Places_18 (by decide) (by decide) rfl rfl rfl rfl (Nat.le_of_ble_eq_true rfl) rfl rfl xf_F16 d_Places_answer_44 ?_
  refine g_iconst (v := 0) d_Places_answer_47 (by decide) ?_
  refine g_istore d_Places_answer_48 (by decide) rfl ?_
  obtain ⟨g1, g2, g3, g4, g5⟩ := hp_pl (K := fun _ => False) (c' := cF c 16 (nI X)) h hp (plA_k (n := n) (k := 0) (w := wh) (f := nI X) (m := nI ar) hz.1) (fun _ => rfl) (fun q hq => plA_o hq) (fun j hj => up_ne hj) rfl
  obtain ⟨e0, e1, e2, e3, e4⟩ := plA_f (u := u) (p := p) (k := 0) (w := wh) (f := nI X) (m := nI ar)
  refine m_P_ans50 (X := X) (ar := ar) (pI := pI) (x0 := u.2.2.1 p 0) har hX3 hpX ar 0 _ _ n sl ps (by omega) g1 rfl hl hp e0 (fun c' u' n' sl' ps' t1 t2 t3 t4 => ?_)
  obtain ⟨r1, r2, r3, r4, r5, r6, r7⟩ := t1
  have ep := r7 pI p hpX hp
  refine ⟨rfl, c', u', n', sl', ps', rfl, r1, pFc_tr g2 r2, kFr_tr g3 r3 (Nat.le_refl _), r4, fun y hy => (r5 y hy).trans (g4 y hy), r6, fun i y hi hne hy => (r7 i y hi hy).trans (g5 i y hne hy), t2, t3, fun j hj => t4 j (Nat.zero_le _) hj, ?_⟩
  rw [ep]
  exact ⟨e0, e1, e2, e3, e4⟩
set_option maxHeartbeats 400000 in
set_option maxRecDepth 100000 in
theorem m_P_answer0 {X ar pI q0 : Nat} {wh : Int32} (h : hpOk E a B S c u n sl ks sp ps qs ms) (har : ar ≤ 4) (hX3 : X + 4 < 3300) (hpX : pI < X) (hl : X ≤ ps.length) (hq6 : zIs u a q0 6) (f2 : u.2.2.1 q0 2 = nI pI) (f4 : u.2.2.1 q0 4 = nI X) (f5 : u.2.2.1 q0 5 = 0) (hp : ps[pI]? = some p) : GM E Y_Places_answer (d + 8) [.ref (a + 15), .ref q0, .int wh, .int (nI ar)] (yW E G a c u n sl) (rPost none (fun G' => ∃ c' u' n' sl' ps', G' = yW E G a c' u' n' sl' ∧ ansP E a B S c u n X pI ar 1 wh p ks sp ps qs ms c' u' n' sl' ps')) := by
  refine g_entry (by decide) (by simp [Value.category]) (Nat.le_of_ble_eq_true rfl) ?_
  have hz := (lOk_get h.2.1 hp).2.2.2.2.1
  refine g_aload_n d_Places_answer_0 rfl ?_
  refine x_get (k := 15) (j := 0) (v := .ref (a + 16)) kc_Places fl_Places_12 (by decide) (by decide) rfl rfl d_Places_answer_1 ?_
  refine g_aload_n d_Places_answer_4 rfl ?_
  refine z_get (k := 6) (j := 2) (v := .int (u.2.2.1 q0 2)) kc_Question fl_Places_35 (by decide) hq6 (by decide) rfl rfl d_Places_answer_5 ?_
  rw [f2]
  refine c_Vr (as := [.int (nI pI)]) kv_ArrayList_get ml_Places_26 rfl (x_at (k := 16) (by decide) rfl) (m_K_get lk_places h.2.1 (by omega) hp) rfl (Nat.le_of_ble_eq_true rfl) rfl d_Places_answer_8 rfl ?_
  refine z_cast (kb := 5) cl_Places_30 rfl hz (by decide) d_Places_answer_11 ?_
  refine g_astore d_Places_answer_14 (by decide) rfl ?_
  refine g_aload d_Places_answer_16 rfl ?_
  refine g_aload_n d_Places_answer_18 rfl ?_
  refine z_get (k := 6) (j := 5) (v := .int (u.2.2.1 q0 5)) kc_Question fl_Places_40 (by decide) hq6 (by decide) rfl rfl d_Places_answer_19 ?_
  rw [f5]
  refine g_if_eq (tgt := 29) d_Places_answer_22 (by decide) (fun c_22 => ?_) (fun c_22 => absurd c_22 (by decide))
  refine g_iconst (v := 1) d_Places_answer_29 (by decide) ?_
  refine g_iload_n d_Places_answer_30 rfl ?_
  refine g_aload_n d_Places_answer_31 rfl ?_
  refine z_get (k := 6) (j := 4) (v := .int (u.2.2.1 q0 4)) kc_Question fl_Places_44 (by decide) hq6 (by decide) rfl rfl d_Places_answer_32 ?_
  rw [f4]
  refine g_iload_n d_Places_answer_35 rfl ?_
  refine c_Vr (as := [.int (1), .int (wh), .int (nI X), .int (nI ar)]) kv_Place_answer ml_Places_46 rfl (z_at hz (by decide)) (m_Pl_answer hz) rfl (Nat.le_of_ble_eq_true rfl) rfl d_Places_answer_36 rfl ?_
  have hq6' : zIs (plA u p 1 wh (nI X) (nI ar)) a q0 6 := hq6
  have hz' : zIs (plA u p 1 wh (nI X) (nI ar)) a p 5 := hz
  have eq0 : (plA u p 1 wh (nI X) (nI ar)).2.2.1 q0 = u.2.2.1 q0 := plA_o (fun e => by have := hz.1; rw [← e, hq6.1] at this; exact absurd this (by decide))
  refine g_aload_n d_Places_answer_39 rfl ?_
  refine g_aload_n d_Places_answer_40 rfl ?_
  refine z_get (k := 6) (j := 4) (v := .int ((plA u p 1 wh (nI X) (nI ar)).2.2.1 q0 4)) kc_Question fl_Places_44 (by decide) hq6' (by decide) rfl rfl d_Places_answer_41 ?_
  rw [eq0, f4]
  refine x_put (c' := (cF c 16 (nI X))) (k := 15) (j := 1) kc_Places fl_Places_18 (by decide) (by decide) rfl rfl rfl rfl (Nat.le_of_ble_eq_true rfl) rfl rfl xf_F16 d_Places_answer_44 ?_
  refine g_iconst (v := 0) d_Places_answer_47 (by decide) ?_
  refine g_istore d_Places_answer_48 (by decide) rfl ?_
  obtain ⟨g1, g2, g3, g4, g5⟩ := hp_pl (K := fun _ => False) (c' := cF c 16 (nI X)) h hp (plA_k (n := n) (k := 1) (w := wh) (f := nI X) (m := nI ar) hz.1) (fun _ => rfl) (fun q hq => plA_o hq) (fun j hj => up_ne hj) rfl
  obtain ⟨e0, e1, e2, e3, e4⟩ := plA_f (u := u) (p := p) (k := 1) (w := wh) (f := nI X) (m := nI ar)
  refine m_P_ans50 (X := X) (ar := ar) (pI := pI) (x0 := u.2.2.1 p 0) har hX3 hpX ar 0 _ _ n sl ps (by omega) g1 rfl hl hp e0 (fun c' u' n' sl' ps' t1 t2 t3 t4 => ?_)
  obtain ⟨r1, r2, r3, r4, r5, r6, r7⟩ := t1
  have ep := r7 pI p hpX hp
  refine ⟨rfl, c', u', n', sl', ps', rfl, r1, pFc_tr g2 r2, kFr_tr g3 r3 (Nat.le_refl _), r4, fun y hy => (r5 y hy).trans (g4 y hy), r6, fun i y hi hne hy => (r7 i y hi hy).trans (g5 i y hne hy), t2, t3, fun j hj => t4 j (Nat.zero_le _) hj, ?_⟩
  rw [ep]
  exact ⟨e0, e1, e2, e3, e4⟩
/-- of the class only the questions' number and list have changed -/
def qFc (c c' : cS) : Prop := (∀ j, j ≠ 6 → j ≠ 19 → j ≠ 20 → c'.1 j = c.1 j) ∧ c'.2.1 = c.2.1 ∧ c'.2.2.1 = c.2.2.1 ∧ ∀ j, j ≠ 2 → c'.2.2.2 j = c.2.2.2 j
/-- the next question's object -/
def nxP (E : gE) (a B S : Nat) (c : cS) (u : uS) (n C : Nat) (ks sp ps qs ms : List Nat) (c' : cS) (u' : uS) (n' sl' : Nat) (qs' : List Nat) (q : Nat) : Prop := hpOk E a B S c' u' n' sl' ks sp ps qs' ms ∧ qFc c c' ∧ kFr (fun k => k = 11) u u' n ∧ n ≤ n' ∧ (∀ y ∈ ks ++ sp, xOf u' y = xOf u y) ∧ (∃ e, qs' = qs ++ e) ∧ c'.1 6 = nI (C + 1) ∧ qs'[C]? = some q
set_option maxHeartbeats 400000 in
set_option maxRecDepth 100000 in
theorem m_Tree_nextQuestion_29 {C q : Nat} (h : hpOk E a B S c u n sl ks sp ps qs ms) (hC : c.1 6 = nI C) (hC2 : C < 2000) (hp : qs[C]? = some q) (kk : Q (.inl (some (.ref q))) (yW E G a (cF c 6 (nI (C + 1))) u n sl)) : GT E Y_Tree_nextQuestion (d + 7) G0 29 [(0, .ref (a + 12))] [] (yW E G a c u n sl) Q := by
  have hz := (lOk_get h.2.2.1 hp).2.2.2.2.1
  have hlo : lOk E (cF c 6 (nI (C + 1))) u a n 20 2 6 1001 qs := h.2.2.1
  refine g_aload_n d_Tree_nextQuestion_29 rfl ?_
  refine g_dup d_Tree_nextQuestion_30 rfl ?_
  refine x_get (k := 12) (j := 7) (v := .int (c.1 6)) kc_Tree fl_Tree_47 (by decide) (by decide) rfl rfl d_Tree_nextQuestion_31 ?_
  rw [hC]
  refine g_iconst (v := 1) d_Tree_nextQuestion_34 (by decide) ?_
  refine g_iadd d_Tree_nextQuestion_35 ?_
  refine g_top (nI (C + 1)) (nI_1 C) ?_
  refine x_put (c' := (cF c 6 (nI (C + 1)))) (k := 12) (j := 7) kc_Tree fl_Tree_47 (by decide) (by decide) rfl rfl rfl rfl (Nat.le_of_ble_eq_true rfl) rfl rfl xf_F6 d_Tree_nextQuestion_36 ?_
  refine g_aload_n d_Tree_nextQuestion_39 rfl ?_
  refine x_get (k := 12) (j := 4) (v := .ref (a + 17)) kc_Tree fl_Tree_28 (by decide) (by decide) rfl rfl d_Tree_nextQuestion_40 ?_
  refine g_aload_n d_Tree_nextQuestion_43 rfl ?_
  refine x_get (k := 12) (j := 7) (v := .int (nI (C + 1))) kc_Tree fl_Tree_47 (by decide) (by decide) rfl rfl d_Tree_nextQuestion_44 ?_
  refine g_iconst (v := 1) d_Tree_nextQuestion_47 (by decide) ?_
  refine g_isub d_Tree_nextQuestion_48 ?_
  refine g_top (nI C) (nI_s1 (by omega)) ?_
  refine c_Vr (as := [.int (nI C)]) kv_ArrayList_get ml_Tree_63 rfl (x_at (k := 17) (by decide) rfl) (m_K_get lk_quests hlo (by omega) hp) rfl (Nat.le_of_ble_eq_true rfl) rfl d_Tree_nextQuestion_49 rfl ?_
  refine z_cast (kb := 6) cl_Tree_67 rfl hz (by decide) d_Tree_nextQuestion_52 ?_
  refine g_aret rfl (by first | exact Or.inl ⟨_, rfl⟩ | exact Or.inr ⟨_, rfl⟩) (by first | exact Or.inl rfl | exact Or.inr ⟨_, rfl⟩) d_Tree_nextQuestion_55 ?_
  exact kk
set_option maxHeartbeats 400000 in
set_option maxRecDepth 100000 in
theorem m_T_next {C : Nat} (h : hpOk E a B S c u n sl ks sp ps qs ms) (hC : c.1 6 = nI C) (hl : C ≤ qs.length) (hC3 : C < 1001) : GM E Y_Tree_nextQuestion (d + 7) [.ref (a + 12)] (yW E G a c u n sl) (fun o G' => ∃ c' u' n' sl' qs' q, o = .inl (some (.ref q)) ∧ G' = yW E G a c' u' n' sl' ∧ nxP E a B S c u n C ks sp ps qs ms c' u' n' sl' qs' q) := by
  refine g_entry (by decide) (by simp [Value.category]) (Nat.le_of_ble_eq_true rfl) ?_
  have h20 := h.2.2.1.1
  by_cases hfull : C = qs.length
  · have hlt : qs.length < 1001 := by omega
    refine g_aload_n d_Tree_nextQuestion_0 rfl ?_
    refine x_get (k := 12) (j := 7) (v := .int (c.1 6)) kc_Tree fl_Tree_47 (by decide) (by decide) rfl rfl d_Tree_nextQuestion_1 ?_
    rw [hC]
    refine g_aload_n d_Tree_nextQuestion_4 rfl ?_
    refine x_get (k := 12) (j := 4) (v := .ref (a + 17)) kc_Tree fl_Tree_28 (by decide) (by decide) rfl rfl d_Tree_nextQuestion_5 ?_
    refine c_Vr (as := []) kv_ArrayList_size ml_Tree_227 rfl (x_at (k := 17) (by decide) rfl) (m_L_size lk_quests) rfl (Nat.le_of_ble_eq_true rfl) rfl d_Tree_nextQuestion_8 rfl ?_
    refine g_icmp_ne (tgt := 29) d_Tree_nextQuestion_11 (by decide) (fun c_11 => ?_) (fun c_11 => ?_)
    · exact absurd c_11 (fun q => q (by rw [h20, hfull]))
    refine m_Tree_nextQuestion_14 h hlt (fun c1 u1 n1 sl1 q h1 cf1 kf1 nn1 hz1 hnp1 kx1 => ?_)
    have hp : (qs ++ [q])[C]? = some q := by rw [hfull]; exact mid_at
    refine m_Tree_nextQuestion_29 h1 ((cf1.1 6 (by decide) (by decide)).trans hC) (by omega) hp ?_
    refine ⟨_, u1, n1, sl1, qs ++ [q], q, rfl, rfl, ?_, ⟨fun j h6 h19 h20 => (up_ne h6).trans (cf1.1 j h19 h20), cf1.2.1, cf1.2.2.1, cf1.2.2.2⟩, kf1, nn1, kx1, ⟨[q], rfl⟩, rfl, hp⟩
    exact (hpOk_k (c' := cF c1 6 (nI (C + 1))) (K := fun k => k = 5) h1 kFr_rf (fun k z => Or.inl z) (fun _ => rfl) (fun j hj => up_ne (by omega)) (fun _ => rfl)).1
  · obtain ⟨q, hp⟩ : ∃ q, qs[C]? = some q := ⟨qs[C]'(by omega), List.getElem?_eq_getElem (by omega)⟩
    have hlen := h.2.2.1.2.2.1
    refine g_aload_n d_Tree_nextQuestion_0 rfl ?_
    refine x_get (k := 12) (j := 7) (v := .int (c.1 6)) kc_Tree fl_Tree_47 (by decide) (by decide) rfl rfl d_Tree_nextQuestion_1 ?_
    rw [hC]
    refine g_aload_n d_Tree_nextQuestion_4 rfl ?_
    refine x_get (k := 12) (j := 4) (v := .ref (a + 17)) kc_Tree fl_Tree_28 (by decide) (by decide) rfl rfl d_Tree_nextQuestion_5 ?_
    refine c_Vr (as := []) kv_ArrayList_size ml_Tree_227 rfl (x_at (k := 17) (by decide) rfl) (m_L_size lk_quests) rfl (Nat.le_of_ble_eq_true rfl) rfl d_Tree_nextQuestion_8 rfl ?_
    refine g_icmp_ne (tgt := 29) d_Tree_nextQuestion_11 (by decide) (fun c_11 => ?_) (fun c_11 => ?_)
    rotate_left
    · exact absurd c_11 (fun q => nI_ne hfull (by omega) (by omega) (q.trans h20))
    refine m_Tree_nextQuestion_29 h hC (by omega) hp ?_
    refine ⟨_, u, n, sl, qs, q, rfl, rfl, ?_, ⟨fun j h6 _ _ => up_ne h6, rfl, rfl, fun _ _ => rfl⟩, kFr_rf, Nat.le_refl _, fun _ _ => rfl, ⟨[], by simp⟩, rfl, hp⟩
    exact (hpOk_k (c' := cF c 6 (nI (C + 1))) (K := fun k => k = 5) h kFr_rf (fun k z => Or.inl z) (fun _ => rfl) (fun j hj => up_ne (by omega)) (fun _ => rfl)).1
end CE
