/-! Places: add, begin, answer, leave -/
theorem d_Places_begin_0 : decode Y_Places_begin.2.1 0 = .ok (.aload_n 0, 1) := by decide +kernel
theorem d_Places_begin_1 : decode Y_Places_begin.2.1 1 = .ok (.iconst 0, 1) := by decide +kernel
theorem d_Places_begin_2 : decode Y_Places_begin.2.1 2 = .ok (.putfield 18, 3) := by decide +kernel
theorem d_Places_begin_5 : decode Y_Places_begin.2.1 5 = .ok (.aload_n 0, 1) := by decide +kernel
theorem d_Places_begin_6 : decode Y_Places_begin.2.1 6 = .ok (.iconst 0, 1) := by decide +kernel
theorem d_Places_begin_7 : decode Y_Places_begin.2.1 7 = .ok (.invokevirtual 22, 3) := by decide +kernel
theorem d_Places_begin_10 : decode Y_Places_begin.2.1 10 = .ok (.return_, 1) := by decide +kernel
theorem d_Places_answer_0 : decode Y_Places_answer.2.1 0 = .ok (.aload_n 0, 1) := by decide +kernel
theorem d_Places_answer_1 : decode Y_Places_answer.2.1 1 = .ok (.getfield 12, 3) := by decide +kernel
theorem d_Places_answer_4 : decode Y_Places_answer.2.1 4 = .ok (.aload_n 1, 1) := by decide +kernel
theorem d_Places_answer_5 : decode Y_Places_answer.2.1 5 = .ok (.getfield 35, 3) := by decide +kernel
theorem d_Places_answer_8 : decode Y_Places_answer.2.1 8 = .ok (.invokevirtual 26, 3) := by decide +kernel
theorem d_Places_answer_11 : decode Y_Places_answer.2.1 11 = .ok (.checkcast 30, 3) := by decide +kernel
theorem d_Places_answer_14 : decode Y_Places_answer.2.1 14 = .ok (.astore 4, 2) := by decide +kernel
theorem d_Places_answer_16 : decode Y_Places_answer.2.1 16 = .ok (.aload 4, 2) := by decide +kernel
theorem d_Places_answer_18 : decode Y_Places_answer.2.1 18 = .ok (.aload_n 1, 1) := by decide +kernel
theorem d_Places_answer_19 : decode Y_Places_answer.2.1 19 = .ok (.getfield 40, 3) := by decide +kernel
theorem d_Places_answer_22 : decode Y_Places_answer.2.1 22 = .ok (.ifCond .eq 7, 3) := by decide +kernel
theorem d_Places_answer_25 : decode Y_Places_answer.2.1 25 = .ok (.iconst 0, 1) := by decide +kernel
theorem d_Places_answer_26 : decode Y_Places_answer.2.1 26 = .ok (.goto 4, 3) := by decide +kernel
theorem d_Places_answer_29 : decode Y_Places_answer.2.1 29 = .ok (.iconst 1, 1) := by decide +kernel
theorem d_Places_answer_30 : decode Y_Places_answer.2.1 30 = .ok (.iload_n 2, 1) := by decide +kernel
theorem d_Places_answer_31 : decode Y_Places_answer.2.1 31 = .ok (.aload_n 1, 1) := by decide +kernel
theorem d_Places_answer_32 : decode Y_Places_answer.2.1 32 = .ok (.getfield 44, 3) := by decide +kernel
theorem d_Places_answer_35 : decode Y_Places_answer.2.1 35 = .ok (.iload_n 3, 1) := by decide +kernel
theorem d_Places_answer_36 : decode Y_Places_answer.2.1 36 = .ok (.invokevirtual 46, 3) := by decide +kernel
theorem d_Places_answer_39 : decode Y_Places_answer.2.1 39 = .ok (.aload_n 0, 1) := by decide +kernel
theorem d_Places_answer_40 : decode Y_Places_answer.2.1 40 = .ok (.aload_n 1, 1) := by decide +kernel
theorem d_Places_answer_41 : decode Y_Places_answer.2.1 41 = .ok (.getfield 44, 3) := by decide +kernel
theorem d_Places_answer_44 : decode Y_Places_answer.2.1 44 = .ok (.putfield 18, 3) := by decide +kernel
theorem d_Places_answer_47 : decode Y_Places_answer.2.1 47 = .ok (.iconst 0, 1) := by decide +kernel
theorem d_Places_answer_48 : decode Y_Places_answer.2.1 48 = .ok (.istore 5, 2) := by decide +kernel
theorem d_Places_answer_50 : decode Y_Places_answer.2.1 50 = .ok (.iload 5, 2) := by decide +kernel
theorem d_Places_answer_52 : decode Y_Places_answer.2.1 52 = .ok (.iload_n 3, 1) := by decide +kernel
theorem d_Places_answer_53 : decode Y_Places_answer.2.1 53 = .ok (.if_icmp .ge 20, 3) := by decide +kernel
theorem d_Places_answer_56 : decode Y_Places_answer.2.1 56 = .ok (.aload_n 0, 1) := by decide +kernel
theorem d_Places_answer_57 : decode Y_Places_answer.2.1 57 = .ok (.aload 4, 2) := by decide +kernel
theorem d_Places_answer_59 : decode Y_Places_answer.2.1 59 = .ok (.getfield 32, 3) := by decide +kernel
theorem d_Places_answer_62 : decode Y_Places_answer.2.1 62 = .ok (.iconst 1, 1) := by decide +kernel
theorem d_Places_answer_63 : decode Y_Places_answer.2.1 63 = .ok (.iadd, 1) := by decide +kernel
theorem d_Places_answer_64 : decode Y_Places_answer.2.1 64 = .ok (.invokevirtual 22, 3) := by decide +kernel
theorem d_Places_answer_67 : decode Y_Places_answer.2.1 67 = .ok (.iinc 5 1, 3) := by decide +kernel
theorem d_Places_answer_70 : decode Y_Places_answer.2.1 70 = .ok (.goto (-20), 3) := by decide +kernel
theorem d_Places_answer_73 : decode Y_Places_answer.2.1 73 = .ok (.return_, 1) := by decide +kernel
theorem d_Places_leave_0 : decode Y_Places_leave.2.1 0 = .ok (.aload_n 0, 1) := by decide +kernel
theorem d_Places_leave_1 : decode Y_Places_leave.2.1 1 = .ok (.getfield 12, 3) := by decide +kernel
theorem d_Places_leave_4 : decode Y_Places_leave.2.1 4 = .ok (.iload_n 1, 1) := by decide +kernel
theorem d_Places_leave_5 : decode Y_Places_leave.2.1 5 = .ok (.invokevirtual 26, 3) := by decide +kernel
theorem d_Places_leave_8 : decode Y_Places_leave.2.1 8 = .ok (.checkcast 30, 3) := by decide +kernel
theorem d_Places_leave_11 : decode Y_Places_leave.2.1 11 = .ok (.invokevirtual 50, 3) := by decide +kernel
theorem d_Places_leave_14 : decode Y_Places_leave.2.1 14 = .ok (.return_, 1) := by decide +kernel
theorem d_Places_distanceOf_0 : decode Y_Places_distanceOf.2.1 0 = .ok (.aload_n 0, 1) := by decide +kernel
theorem d_Places_distanceOf_1 : decode Y_Places_distanceOf.2.1 1 = .ok (.getfield 12, 3) := by decide +kernel
theorem d_Places_distanceOf_4 : decode Y_Places_distanceOf.2.1 4 = .ok (.iload_n 1, 1) := by decide +kernel
theorem d_Places_distanceOf_5 : decode Y_Places_distanceOf.2.1 5 = .ok (.invokevirtual 26, 3) := by decide +kernel
theorem d_Places_distanceOf_8 : decode Y_Places_distanceOf.2.1 8 = .ok (.checkcast 30, 3) := by decide +kernel
theorem d_Places_distanceOf_11 : decode Y_Places_distanceOf.2.1 11 = .ok (.getfield 32, 3) := by decide +kernel
theorem d_Places_distanceOf_14 : decode Y_Places_distanceOf.2.1 14 = .ok (.ireturn, 1) := by decide +kernel
section CD
variable {E : gE} {d : Nat} {G G0 : gS} {a : Nat} {c c' c0 : cS} {u u' u2 u0 : uS} {n n' n0 sl sl' : Nat} {Q : gO → gS → Prop} {B S : Nat} {p : Nat} {ks sp ps qs ms : List Nat}
/-- nothing was answered there -/
def plL (u : uS) (p : Nat) : uS := uI (uI (uI u p 1 2) p 2 0) p 4 0
def plA (u : uS) (p : Nat) (k w f m : Int32) : uS := uI (uI (uI (uI u p 1 k) p 2 w) p 3 f) p 4 m
theorem uI_o {q j : Nat} {x : Int32} (h : q ≠ p) : (uI u p j x).2.2.1 q = u.2.2.1 q := up_I h
theorem uI_j {i j : Nat} {x : Int32} : (uI u p j x).2.2.1 p i = if i = j then x else u.2.2.1 p i := by
  rw [at_I]
  rfl
theorem plL_f : (plL u p).2.2.1 p 0 = u.2.2.1 p 0 ∧ (plL u p).2.2.1 p 1 = 2 ∧ (plL u p).2.2.1 p 2 = 0 ∧ (plL u p).2.2.1 p 4 = 0 := by
  unfold plL
  simp only [uI_j]
  exact ⟨rfl, rfl, rfl, rfl⟩
theorem plL_o {q : Nat} (h : q ≠ p) : (plL u p).2.2.1 q = u.2.2.1 q := by
  unfold plL
  rw [uI_o h, uI_o h, uI_o h]
theorem plL_k (h : u.1 p = 5) : kFr (fun k => k = 5) u (plL u p) n := ⟨fun _ _ => rfl, fun q _ _ hk => ⟨rfl, plL_o (fun e => hk (by rw [e]; exact h)), rfl⟩⟩
theorem plA_f {k w f m : Int32} : (plA u p k w f m).2.2.1 p 0 = u.2.2.1 p 0 ∧ (plA u p k w f m).2.2.1 p 1 = k ∧ (plA u p k w f m).2.2.1 p 2 = w ∧ (plA u p k w f m).2.2.1 p 3 = f ∧ (plA u p k w f m).2.2.1 p 4 = m := by
  unfold plA
  simp only [uI_j]
  exact ⟨rfl, rfl, rfl, rfl, rfl⟩
theorem plA_o {q : Nat} {k w f m : Int32} (h : q ≠ p) : (plA u p k w f m).2.2.1 q = u.2.2.1 q := by
  unfold plA
  rw [uI_o h, uI_o h, uI_o h, uI_o h]
theorem plA_k {k w f m : Int32} (h : u.1 p = 5) : kFr (fun k => k = 5) u (plA u p k w f m) n := ⟨fun _ _ => rfl, fun q _ _ hk => ⟨rfl, plA_o (fun e => hk (by rw [e]; exact h)), rfl⟩⟩
set_option maxHeartbeats 400000 in
set_option maxRecDepth 100000 in
theorem m_Pl_leave (h : zIs u a p 5) : GM E Y_Place_leave d [.ref p] (yW E G a c u n sl) (rIs none (yW E G a c (plL u p) n sl)) := by
  refine g_entry (by decide) (by simp [Value.category]) (Nat.le_of_ble_eq_true rfl) ?_
  refine g_aload_n d_Place_leave_0 rfl ?_
  refine g_iconst (v := 2) d_Place_leave_1 (by decide) ?_
  refine z_put (k := 5) (j := 1) (x := 2) kc_Place fl_Place_18 (by decide) h (by decide) (fun _ => rfl) rfl rfl rfl (Nat.le_of_ble_eq_true rfl) rfl d_Place_leave_2 ?_
  refine g_aload_n d_Place_leave_5 rfl ?_
  refine g_iconst (v := 0) d_Place_leave_6 (by decide) ?_
  refine z_put (k := 5) (j := 2) (x := 0) kc_Place fl_Place_21 (by decide) h (by decide) (fun _ => rfl) rfl rfl rfl (Nat.le_of_ble_eq_true rfl) rfl d_Place_leave_7 ?_
  refine g_aload_n d_Place_leave_10 rfl ?_
  refine g_iconst (v := 0) d_Place_leave_11 (by decide) ?_
  refine z_put (k := 5) (j := 4) (x := 0) kc_Place fl_Place_27 (by decide) h (by decide) (fun _ => rfl) rfl rfl rfl (Nat.le_of_ble_eq_true rfl) rfl d_Place_leave_12 ?_
  refine g_vret rfl d_Place_leave_15 ?_
  exact ⟨rfl, rfl⟩
set_option maxHeartbeats 400000 in
set_option maxRecDepth 100000 in
theorem m_Pl_begin (h : zIs u a p 5) {x : Int32} : GM E Y_Place_begin (d + 1) [.ref p, .int x] (yW E G a c u n sl) (rIs none (yW E G a c (plL (uI u p 0 x) p) n sl)) := by
  refine g_entry (by decide) (by simp [Value.category]) (Nat.le_of_ble_eq_true rfl) ?_
  refine g_aload_n d_Place_begin_0 rfl ?_
  refine g_iload_n d_Place_begin_1 rfl ?_
  refine z_put (k := 5) (j := 0) (x := x) kc_Place fl_Place_9 (by decide) h (by decide) (fun _ => rfl) rfl rfl rfl (Nat.le_of_ble_eq_true rfl) rfl d_Place_begin_2 ?_
  refine g_aload_n d_Place_begin_5 rfl ?_
  refine c_Vr (as := []) kv_Place_leave ml_Place_15 rfl (z_at (u := uI u p 0 x) (k := 5) h (by decide)) (m_Pl_leave (u := uI u p 0 x) h) rfl (Nat.le_of_ble_eq_true rfl) rfl d_Place_begin_6 rfl ?_
  refine g_vret rfl d_Place_begin_9 ?_
  exact ⟨rfl, rfl⟩
set_option maxHeartbeats 400000 in
set_option maxRecDepth 100000 in
theorem m_Pl_answer (h : zIs u a p 5) {k w f m : Int32} : GM E Y_Place_answer d [.ref p, .int k, .int w, .int f, .int m] (yW E G a c u n sl) (rIs none (yW E G a c (plA u p k w f m) n sl)) := by
  refine g_entry (by decide) (by simp [Value.category]) (Nat.le_of_ble_eq_true rfl) ?_
  refine g_aload_n d_Place_answer_0 rfl ?_
  refine g_iload_n d_Place_answer_1 rfl ?_
  refine z_put (k := 5) (j := 1) (x := k) kc_Place fl_Place_18 (by decide) h (by decide) (fun _ => rfl) rfl rfl rfl (Nat.le_of_ble_eq_true rfl) rfl d_Place_answer_2 ?_
  refine g_aload_n d_Place_answer_5 rfl ?_
  refine g_iload_n d_Place_answer_6 rfl ?_
  refine z_put (k := 5) (j := 2) (x := w) kc_Place fl_Place_21 (by decide) h (by decide) (fun _ => rfl) rfl rfl rfl (Nat.le_of_ble_eq_true rfl) rfl d_Place_answer_7 ?_
  refine g_aload_n d_Place_answer_10 rfl ?_
  refine g_iload_n d_Place_answer_11 rfl ?_
  refine z_put (k := 5) (j := 3) (x := f) kc_Place fl_Place_24 (by decide) h (by decide) (fun _ => rfl) rfl rfl rfl (Nat.le_of_ble_eq_true rfl) rfl d_Place_answer_12 ?_
  refine g_aload_n d_Place_answer_15 rfl ?_
  refine g_iload d_Place_answer_16 rfl ?_
  refine z_put (k := 5) (j := 4) (x := m) kc_Place fl_Place_27 (by decide) h (by decide) (fun _ => rfl) rfl rfl rfl (Nat.le_of_ble_eq_true rfl) rfl d_Place_answer_18 ?_
  refine g_vret rfl d_Place_answer_21 ?_
  exact ⟨rfl, rfl⟩
/-- of the class only the places' number and list have changed -/
def pFc (c c' : cS) : Prop := (∀ j, j ≠ 16 → j ≠ 17 → j ≠ 18 → c'.1 j = c.1 j) ∧ c'.2.1 = c.2.1 ∧ c'.2.2.1 = c.2.2.1 ∧ ∀ j, j ≠ 1 → c'.2.2.2 j = c.2.2.2 j
theorem pFc_rf : pFc c c := ⟨fun _ _ _ _ => rfl, rfl, rfl, fun _ _ => rfl⟩
theorem pFc_tr {c2 : cS} (h : pFc c c') (h' : pFc c' c2) : pFc c c2 := ⟨fun j x y z => (h'.1 j x y z).trans (h.1 j x y z), h'.2.1.trans h.2.1, h'.2.2.1.trans h.2.2.1, fun j hj => (h'.2.2.2 j hj).trans (h.2.2.2 j hj)⟩
theorem pFc_16 {v : Int32} : pFc c (cF c 16 v) := ⟨fun j h _ _ => up_ne h, rfl, rfl, fun _ _ => rfl⟩
theorem pFc_c (h : cFr c c' 17 18 1) : pFc c c' := ⟨fun j _ h2 h3 => h.1 j h2 h3, h.2.1, h.2.2.1, h.2.2.2⟩
abbrev k5 : Nat → Prop := fun k => k = 5 ∨ k = 10
/-- places from X on were added: what has changed -/
def paP (E : gE) (a B S : Nat) (c : cS) (u : uS) (n : Nat) (X : Nat) (ks sp ps qs ms : List Nat) (c' : cS) (u' : uS) (n' sl' : Nat) (ps' : List Nat) : Prop := hpOk E a B S c' u' n' sl' ks sp ps' qs ms ∧ pFc c c' ∧ kFr k5 u u' n ∧ n ≤ n' ∧ (∀ y ∈ ks ++ sp, xOf u' y = xOf u y) ∧ (∃ e, ps' = ps ++ e) ∧ ∀ i y, i < X → ps[i]? = some y → u'.2.2.1 y = u.2.2.1 y
theorem paP_tr {X : Nat} {ps' ps2 : List Nat} {c2 : cS} {n2 sl2 : Nat} (h : paP E a B S c u n X ks sp ps qs ms c' u' n' sl' ps') (h' : paP E a B S c' u' n' X ks sp ps' qs ms c2 u2 n2 sl2 ps2) : paP E a B S c u n X ks sp ps qs ms c2 u2 n2 sl2 ps2 := by
  obtain ⟨h1, h2, h3, h4, h5, ⟨e, h6⟩, h7⟩ := h
  obtain ⟨g1, g2, g3, g4, g5, ⟨e', g6⟩, g7⟩ := h'
  refine ⟨g1, pFc_tr h2 g2, kFr_tr h3 g3 h4, by omega, fun y hy => (g5 y hy).trans (h5 y hy), ⟨e ++ e', by rw [g6, h6, List.append_assoc]⟩, fun i y hi hy => ?_⟩
  rw [g7 i y hi (by rw [h6, List.getElem?_append_left (List.getElem?_eq_some_iff.mp hy).1]; exact hy), h7 i y hi hy]
theorem paP_lt {X Y : Nat} {ps' : List Nat} (h : paP E a B S c u n X ks sp ps qs ms c' u' n' sl' ps') (hY : Y ≤ X) : paP E a B S c u n Y ks sp ps qs ms c' u' n' sl' ps' := by
  obtain ⟨h1, h2, h3, h4, h5, h6, h7⟩ := h
  exact ⟨h1, h2, h3, h4, h5, h6, fun i y hi hy => h7 i y (by omega) hy⟩
theorem nd_ne {l : List Nat} {i j x y : Nat} (h : l.Nodup) (hi : l[i]? = some x) (hj : l[j]? = some y) (hne : i ≠ j) : x ≠ y := fun e => by
  subst e
  exact hne ((List.getElem?_inj (List.getElem?_eq_some_iff.mp hi).1 h).mp (hi.trans hj.symm))
/-- one place's fields change -/
theorem hp_pl {X : Nat} {K : Nat → Prop} (h : hpOk E a B S c u n sl ks sp ps qs ms) (hp : ps[X]? = some p) (hf : kFr (fun k => k = 5) u u' n) (hk : ∀ q, u'.1 q = u.1 q) (ho : ∀ q, q ≠ p → u'.2.2.1 q = u.2.2.1 q) (hc : ∀ j, j ≠ 16 → c'.1 j = c.1 j) (hc1 : c'.2 = c.2) : hpOk E a B S c' u' n sl ks sp ps qs ms ∧ pFc c c' ∧ kFr k5 u u' n ∧ (∀ y ∈ ks ++ sp, xOf u' y = xOf u y) ∧ ∀ i y, i ≠ X → ps[i]? = some y → u'.2.2.1 y = u.2.2.1 y := by
  obtain ⟨r1, r2⟩ := hpOk_k (c' := c') h hf (fun k z => Or.inl z) hk (fun j hj => hc j (by omega)) (fun j => by rw [hc1])
  refine ⟨r1, ⟨fun j hj _ _ => hc j hj, by rw [hc1], by rw [hc1], fun j _ => by rw [hc1]⟩, kFr_mono hf (fun k z => Or.inl z), r2, fun i y hi hy => ho y (nd_ne h.2.2.2.2.2.2.1 hy hp hi)⟩
set_option maxHeartbeats 400000 in
set_option maxRecDepth 100000 in
theorem m_Places_add_29 {X : Nat} {x : Int32} (hlo : lOk E c u a n 18 1 5 3300 ps) (hX : c.1 16 = nI X) (hp : ps[X]? = some p) (kk : Q (.inl none) (yW E G a (cF c 16 (nI (X + 1))) (plL (uI u p 0 x) p) n sl)) : GT E Y_Places_add (d + 7) G0 29 [(0, .ref (a + 15)), (1, .int x)] [] (yW E G a c u n sl) Q := by
  have hz := (lOk_get hlo hp).2.2.2.2.1
  refine g_aload_n d_Places_add_29 rfl ?_
  refine x_get (k := 15) (j := 0) (v := .ref (a + 16)) kc_Places fl_Places_12 (by decide) (by decide) rfl rfl d_Places_add_30 ?_
  refine g_aload_n d_Places_add_33 rfl ?_
  refine x_get (k := 15) (j := 1) (v := .int (c.1 16)) kc_Places fl_Places_18 (by decide) (by decide) rfl rfl d_Places_add_34 ?_
  rw [hX]
  refine c_Vr (as := [.int (nI X)]) kv_ArrayList_get ml_Places_26 rfl (x_at (k := 16) (by decide) rfl) (m_K_get lk_places hlo (by omega) hp) rfl (Nat.le_of_ble_eq_true rfl) rfl d_Places_add_37 rfl ?_
  refine z_cast (kb := 5) cl_Places_30 rfl hz (by decide) d_Places_add_40 ?_
  refine g_iload_n d_Places_add_43 rfl ?_
  refine c_Vr (as := [.int (x)]) kv_Place_begin ml_Places_61 rfl (z_at hz (by decide)) (m_Pl_begin hz) rfl (Nat.le_of_ble_eq_true rfl) rfl d_Places_add_44 rfl ?_
  refine g_aload_n d_Places_add_47 rfl ?_
  refine g_dup d_Places_add_48 rfl ?_
  refine x_get (k := 15) (j := 1) (v := .int (c.1 16)) kc_Places fl_Places_18 (by decide) (by decide) rfl rfl d_Places_add_49 ?_
  rw [hX]
  refine g_iconst (v := 1) d_Places_add_52 (by decide) ?_
  refine g_iadd d_Places_add_53 ?_
  refine g_top (nI (X + 1)) (nI_1 X) ?_
  refine x_put (c' := (cF c 16 (nI (X + 1)))) (k := 15) (j := 1) kc_Places fl_Places_18 (by decide) (by decide) rfl rfl rfl rfl (Nat.le_of_ble_eq_true rfl) rfl rfl xf_F16 d_Places_add_54 ?_
  refine g_vret rfl d_Places_add_57 ?_
  exact kk
set_option maxHeartbeats 400000 in
set_option maxRecDepth 100000 in
theorem m_P_add {X : Nat} {x : Int32} (h : hpOk E a B S c u n sl ks sp ps qs ms) (hX : c.1 16 = nI X) (hl : X ≤ ps.length) (hX3 : X < 3300) : GM E Y_Places_add (d + 7) [.ref (a + 15), .int x] (yW E G a c u n sl) (rPost none (fun G' => ∃ c' u' n' sl' ps', G' = yW E G a c' u' n' sl' ∧ paP E a B S c u n X ks sp ps qs ms c' u' n' sl' ps' ∧ c'.1 16 = nI (X + 1) ∧ ∃ p, ps'[X]? = some p ∧ u'.2.2.1 p 0 = x ∧ u'.2.2.1 p 1 = 2 ∧ u'.2.2.1 p 2 = 0 ∧ u'.2.2.1 p 4 = 0)) := by
  refine g_entry (by decide) (by simp [Value.category]) (Nat.le_of_ble_eq_true rfl) ?_
  have h18 := h.2.1.1
  by_cases hfull : X = ps.length
  · have hlt : ps.length < 3300 := by omega
    refine g_aload_n d_Places_add_0 rfl ?_
    refine x_get (k := 15) (j := 1) (v := .int (c.1 16)) kc_Places fl_Places_18 (by decide) (by decide) rfl rfl d_Places_add_1 ?_
    rw [hX]
    refine g_aload_n d_Places_add_4 rfl ?_
    refine x_get (k := 15) (j := 0) (v := .ref (a + 16)) kc_Places fl_Places_12 (by decide) (by decide) rfl rfl d_Places_add_5 ?_
    refine c_Vr (as := []) kv_ArrayList_size ml_Places_53 rfl (x_at (k := 16) (by decide) rfl) (m_L_size lk_places) rfl (Nat.le_of_ble_eq_true rfl) rfl d_Places_add_8 rfl ?_
    refine g_icmp_ne (tgt := 29) d_Places_add_11 (by decide) (fun c_11 => ?_) (fun c_11 => ?_)
    · exact absurd c_11 (fun q => q (by rw [h18, hfull]))
    refine m_Places_add_14 h hlt (fun c1 u1 n1 sl1 p h1 cf1 kf1 nn1 hz1 hnp1 kx1 => ?_)
    have hp : (ps ++ [p])[X]? = some p := by rw [hfull]; exact mid_at
    refine m_Places_add_29 h1.2.1 ((cf1.1 16 (by decide) (by decide)).trans hX) hp ?_
    have hzp := (lOk_get h1.2.1 hp).2.2.2.2.1
    have kI : kFr (fun k => k = 5) u1 (plL (uI u1 p 0 x) p) n1 := kFr_tr (kFr_I (n := n1) (j := 0) (x := x) hzp.1) (plL_k (n := n1) (u := uI u1 p 0 x) hzp.1) (Nat.le_refl _)
    obtain ⟨g1, g2, g3, g4, g5⟩ := hp_pl (K := fun _ => False) (c' := cF c1 16 (nI (X + 1))) h1 hp kI (fun _ => rfl) (fun q hq => by rw [plL_o hq, uI_o hq]) (fun j hj => up_ne hj) rfl
    obtain ⟨e1, e2, e3, e4⟩ := plL_f (u := uI u1 p 0 x) (p := p)
    rw [uI_j, if_pos rfl] at e1
    refine ⟨rfl, _, _, n1, sl1, ps ++ [p], rfl, ⟨g1, pFc_tr (pFc_c cf1) g2, kFr_tr (kFr_mono kf1 (fun k z => Or.inr z)) g3 nn1, nn1, fun y hy => (g4 y hy).trans (kx1 y hy), ⟨[p], rfl⟩, fun i y hi hy => ?_⟩, rfl, p, hp, e1, e2, e3, e4⟩
    rw [g5 i y (by omega) (by rw [List.getElem?_append_left (List.getElem?_eq_some_iff.mp hy).1]; exact hy)]
    have hz := lOk_get h.2.1 hy
    exact (kf1.2 y hz.2.2.2.2.2 (by rw [hz.2.2.2.2.1.1]; decide) (by rw [hz.2.2.2.2.1.1]; decide)).2.1
  · obtain ⟨p, hp⟩ : ∃ p, ps[X]? = some p := ⟨ps[X]'(by omega), List.getElem?_eq_getElem (by omega)⟩
    have hlen := h.2.1.2.2.1
    refine g_aload_n d_Places_add_0 rfl ?_
    refine x_get (k := 15) (j := 1) (v := .int (c.1 16)) kc_Places fl_Places_18 (by decide) (by decide) rfl rfl d_Places_add_1 ?_
    rw [hX]
    refine g_aload_n d_Places_add_4 rfl ?_
    refine x_get (k := 15) (j := 0) (v := .ref (a + 16)) kc_Places fl_Places_12 (by decide) (by decide) rfl rfl d_Places_add_5 ?_
    refine c_Vr (as := []) kv_ArrayList_size ml_Places_53 rfl (x_at (k := 16) (by decide) rfl) (m_L_size lk_places) rfl (Nat.le_of_ble_eq_true rfl) rfl d_Places_add_8 rfl ?_
    refine g_icmp_ne (tgt := 29) d_Places_add_11 (by decide) (fun c_11 => ?_) (fun c_11 => ?_)
    rotate_left
    · exact absurd c_11 (fun q => nI_ne hfull (by omega) (by omega) (q.trans h18))
    refine m_Places_add_29 h.2.1 hX hp ?_
    have hzp := (lOk_get h.2.1 hp).2.2.2.2.1
    have kI : kFr (fun k => k = 5) u (plL (uI u p 0 x) p) n := kFr_tr (kFr_I (n := n) (j := 0) (x := x) hzp.1) (plL_k (n := n) (u := uI u p 0 x) hzp.1) (Nat.le_refl _)
    obtain ⟨g1, g2, g3, g4, g5⟩ := hp_pl (K := fun _ => False) (c' := cF c 16 (nI (X + 1))) h hp kI (fun _ => rfl) (fun q hq => by rw [plL_o hq, uI_o hq]) (fun j hj => up_ne hj) rfl
    obtain ⟨e1, e2, e3, e4⟩ := plL_f (u := uI u p 0 x) (p := p)
    rw [uI_j, if_pos rfl] at e1
    exact ⟨rfl, _, _, n, sl, ps, rfl, ⟨g1, g2, g3, Nat.le_refl _, g4, ⟨[], by simp⟩, fun i y hi hy => g5 i y (by omega) hy⟩, rfl, p, hp, e1, e2, e3, e4⟩
set_option maxHeartbeats 400000 in
set_option maxRecDepth 100000 in
theorem m_P_begin (h : hpOk E a B S c u n sl ks sp ps qs ms) : GM E Y_Places_begin (d + 8) [.ref (a + 15)] (yW E G a c u n sl) (rPost none (fun G' => ∃ c' u' n' sl' ps', G' = yW E G a c' u' n' sl' ∧ paP E a B S c u n 0 ks sp ps qs ms c' u' n' sl' ps' ∧ c'.1 16 = nI 1 ∧ ∃ p, ps'[0]? = some p ∧ u'.2.2.1 p 0 = 0 ∧ u'.2.2.1 p 1 = 2 ∧ u'.2.2.1 p 2 = 0 ∧ u'.2.2.1 p 4 = 0)) := by
  refine g_entry (by decide) (by simp [Value.category]) (Nat.le_of_ble_eq_true rfl) ?_
  have h0 := (hpOk_k (c' := cF c 16 0) (K := fun k => k = 5) h kFr_rf (fun k z => Or.inl z) (fun _ => rfl) (fun j hj => up_ne (by omega)) (fun _ => rfl)).1
  refine g_aload_n d_Places_begin_0 rfl ?_
  refine g_iconst (v := 0) d_Places_begin_1 (by decide) ?_
  refine x_put (c' := (cF c 16 (0))) (k := 15) (j := 1) kc_Places fl_Places_18 (by decide) (by decide) rfl rfl rfl rfl (Nat.le_of_ble_eq_true rfl) rfl rfl xf_F16 d_Places_begin_2 ?_
  refine g_aload_n d_Places_begin_5 rfl ?_
  refine g_iconst (v := 0) d_Places_begin_6 (by decide) ?_
  refine c_Vx (as := [.int (0)]) kv_Places_add ml_Places_22 rfl (x_at (k := 15) (by decide) rfl) (m_P_add (X := 0) h0 rfl (Nat.zero_le _) (by decide)) rfl (Nat.le_of_ble_eq_true rfl) rfl d_Places_begin_7 rfl (fun G_7 h_7 => ?_)
  obtain ⟨c1, u1, n1, sl1, ps1, rfl, ⟨g1, g2, g3⟩, g4, g5⟩ := h_7
  refine g_vret rfl d_Places_begin_10 ?_
  exact ⟨rfl, c1, u1, n1, sl1, ps1, rfl, ⟨g1, pFc_tr pFc_16 g2, g3⟩, g4, g5⟩
set_option maxHeartbeats 400000 in
set_option maxRecDepth 100000 in
theorem m_P_leave {X : Nat} (h : hpOk E a B S c u n sl ks sp ps qs ms) (hp : ps[X]? = some p) : GM E Y_Places_leave (d + 3) [.ref (a + 15), .int (nI X)] (yW E G a c u n sl) (rIs none (yW E G a c (plL u p) n sl)) := by
  refine g_entry (by decide) (by simp [Value.category]) (Nat.le_of_ble_eq_true rfl) ?_
  have hz := (lOk_get h.2.1 hp).2.2.2.2.1
  refine g_aload_n d_Places_leave_0 rfl ?_
  refine x_get (k := 15) (j := 0) (v := .ref (a + 16)) kc_Places fl_Places_12 (by decide) (by decide) rfl rfl d_Places_leave_1 ?_
  refine g_iload_n d_Places_leave_4 rfl ?_
  refine c_Vr (as := [.int (nI X)]) kv_ArrayList_get ml_Places_26 rfl (x_at (k := 16) (by decide) rfl) (m_K_get lk_places h.2.1 (by omega) hp) rfl (Nat.le_of_ble_eq_true rfl) rfl d_Places_leave_5 rfl ?_
  refine z_cast (kb := 5) cl_Places_30 rfl hz (by decide) d_Places_leave_8 ?_
  refine c_Vr (as := []) kv_Place_leave ml_Places_50 rfl (z_at hz (by decide)) (m_Pl_leave hz) rfl (Nat.le_of_ble_eq_true rfl) rfl d_Places_leave_11 rfl ?_
  refine g_vret rfl d_Places_leave_14 ?_
  exact ⟨rfl, rfl⟩
set_option maxHeartbeats 400000 in
set_option maxRecDepth 100000 in
theorem m_P_dist {X : Nat} (h : hpOk E a B S c u n sl ks sp ps qs ms) (hp : ps[X]? = some p) : GM E Y_Places_distanceOf (d + 3) [.ref (a + 15), .int (nI X)] (yW E G a c u n sl) (rIs (some (.int (u.2.2.1 p 0))) (yW E G a c u n sl)) := by
  refine g_entry (by decide) (by simp [Value.category]) (Nat.le_of_ble_eq_true rfl) ?_
  have hz := (lOk_get h.2.1 hp).2.2.2.2.1
  refine g_aload_n d_Places_distanceOf_0 rfl ?_
  refine x_get (k := 15) (j := 0) (v := .ref (a + 16)) kc_Places fl_Places_12 (by decide) (by decide) rfl rfl d_Places_distanceOf_1 ?_
  refine g_iload_n d_Places_distanceOf_4 rfl ?_
  refine c_Vr (as := [.int (nI X)]) kv_ArrayList_get ml_Places_26 rfl (x_at (k := 16) (by decide) rfl) (m_K_get lk_places h.2.1 (by omega) hp) rfl (Nat.le_of_ble_eq_true rfl) rfl d_Places_distanceOf_5 rfl ?_
  refine z_cast (kb := 5) cl_Places_30 rfl hz (by decide) d_Places_distanceOf_8 ?_
  refine z_get (k := 5) (j := 0) (v := .int (u.2.2.1 p 0)) kc_Place fl_Places_32 (by decide) hz (by decide) rfl rfl d_Places_distanceOf_11 ?_
  refine g_iret rfl d_Places_distanceOf_14 ?_
  exact ⟨rfl, rfl⟩
set_option maxHeartbeats 400000 in
set_option maxRecDepth 100000 in
theorem m_P_size : GM E Y_Places_size d [.ref (a + 15)] (yW E G a c u n sl) (rIs (some (.int (c.1 16))) (yW E G a c u n sl)) := by
  refine g_entry (by decide) (by simp [Value.category]) (Nat.le_of_ble_eq_true rfl) ?_
  refine g_aload_n d_Places_size_0 rfl ?_
  refine x_get (k := 15) (j := 1) (v := .int (c.1 16)) kc_Places fl_Places_18 (by decide) (by decide) rfl rfl d_Places_size_1 ?_
  refine g_iret rfl d_Places_size_4 ?_
  exact ⟨rfl, rfl⟩
end CD
