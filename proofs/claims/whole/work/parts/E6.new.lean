/-! Mill: any, number, make, either -/
section DC
variable {E : gE} {d : Nat} {G G0 G1 : gS} {a : Nat} {c c' c0 c1 : cS} {u u' u2 u0 : uS} {n n' n2 n1 sl sl' sl2 : Nat} {Q : gO → gS → Prop} {tp l l0 : List Nat}
/-- the class behind something laid on a pile -/
def ptF (c c' : cS) (j h : Nat) (l : List Nat) : Prop := pil c' j h l ∧ c'.1 0 = 1 ∧ (∀ i, i ≠ 0 → i ≠ h → c'.1 i = c.1 i) ∧ c'.2.1 = c.2.1 ∧ (∀ i, i ≠ j → c'.2.2.1 i = c.2.2.1 i) ∧ c'.2.2.2 = c.2.2.2
theorem uTm_z {ty kd wh sz nm : Int32} {t k : Nat} (h : zIs u a t k) (ht : t < n) : zIs (uTm u n ty kd wh sz nm tp) a t k := ⟨(uTm_o (Or.inl ht)).1.trans h.1, h.2⟩
theorem uTm_n {ty kd wh sz nm : Int32} (ha : a + 24 ≤ n) : zIs (uTm u n ty kd wh sz nm tp) a n 7 := ⟨uTm_t.1, ha⟩
theorem none_l : (fun _ : Nat => (none : Option Nat)) = fun j => ([] : List Nat)[j]? := by
  funext j
  simp
set_option maxHeartbeats 400000 in
set_option maxRecDepth 100000 in
theorem m_M_putF_8 (hp : pil c 1 4 l) (hz : pilT u a l) {t : Nat} (hl : l.length = 40) (hF : gFit E (yW E G a c u n sl) 1 6) : GM E Y_Mill_put (d + 10) [.ref a, .ref (a + 8), .ref t] (yW E G a c u n sl) (tIs "java/lang/IllegalStateException" (yW E G a c u n sl)) := by
  refine g_entry (by decide) (by simp [Value.category]) (Nat.le_of_ble_eq_true rfl) ?_
  have KF := m_Y_full_8 (E := E) (d := d + 9) (G := G) (n := n) (sl := sl) hp hz
  rw [if_pos hl] at KF
  refine g_aload_n d_Mill_put_0 rfl ?_
  refine c_Vr (as := []) kv_Pile_isFull ml_Mill_207 rfl (x_at (k := 8) (by decide) rfl) (KF) rfl (Nat.le_of_ble_eq_true rfl) rfl d_Mill_put_1 rfl ?_
  refine g_if_eq (tgt := 15) d_Mill_put_4 (by decide) (fun c_4 => absurd c_4 (by decide)) (fun c_4 => ?_)
  refine g_throw (th_Mill_ISE) d_Mill_put_7 d_Mill_put_10 d_Mill_put_11 d_Mill_put_14 rfl hF.1 hF.2 (by show 2 + 3 < _; omega) (Nat.le_of_ble_eq_true rfl) ?_
  intro k z1 z2
  exact ⟨rfl, rfl, z1, z2, rfl⟩
set_option maxHeartbeats 400000 in
set_option maxRecDepth 100000 in
theorem m_M_putF_10 (hp : pil c 2 5 l) (hz : pilT u a l) {t : Nat} (hl : l.length = 40) (hF : gFit E (yW E G a c u n sl) 1 6) : GM E Y_Mill_put (d + 10) [.ref a, .ref (a + 10), .ref t] (yW E G a c u n sl) (tIs "java/lang/IllegalStateException" (yW E G a c u n sl)) := by
  refine g_entry (by decide) (by simp [Value.category]) (Nat.le_of_ble_eq_true rfl) ?_
  have KF := m_Y_full_10 (E := E) (d := d + 9) (G := G) (n := n) (sl := sl) hp hz
  rw [if_pos hl] at KF
  refine g_aload_n d_Mill_put_0 rfl ?_
  refine c_Vr (as := []) kv_Pile_isFull ml_Mill_207 rfl (x_at (k := 10) (by decide) rfl) (KF) rfl (Nat.le_of_ble_eq_true rfl) rfl d_Mill_put_1 rfl ?_
  refine g_if_eq (tgt := 15) d_Mill_put_4 (by decide) (fun c_4 => absurd c_4 (by decide)) (fun c_4 => ?_)
  refine g_throw (th_Mill_ISE) d_Mill_put_7 d_Mill_put_10 d_Mill_put_11 d_Mill_put_14 rfl hF.1 hF.2 (by show 2 + 3 < _; omega) (Nat.le_of_ble_eq_true rfl) ?_
  intro k z1 z2
  exact ⟨rfl, rfl, z1, z2, rfl⟩
set_option maxHeartbeats 400000 in
set_option maxRecDepth 100000 in
theorem m_Y_any (hu : uOk u a n) (ha : a + 24 ≤ n) (hc : n + 3 ≤ E.1.heap.size + room_1.cells) (hs : sl + 40 ≤ room_1.slots) (hp : pil c 1 4 l) (hz : pilT u a l) (hl : l.length < 40) {x : Int32} (h : tTold (c.2.1 0) x) : GM E Y_Mill_any (d + 40) [.ref a, .int x] (yW E G a c u n sl) (rPost (some (.int (nI (l.length + 1)))) (fun G' => ∃ c', G' = yW E G a c' (uTm u n x 2 0 1 0 []) (n + 2) (sl + 7) ∧ ptF c c' 1 4 (l ++ [n]))) := by
  refine g_entry (by decide) (by simp [Value.category]) (Nat.le_of_ble_eq_true rfl) ?_
  have KT := m_Types_isTold (E := E) (d := d + 38) (G := yW E G a c u n sl) (x_at (k := 1) (by decide) rfl) (x_at (k := 2) (by decide) rfl) x
  rw [b32, if_pos h] at KT
  refine g_aload_n d_Mill_any_0 rfl ?_
  refine x_get (k := 0) (j := 0) (v := .ref (a + 1)) kc_Mill fl_Mill_15 (by decide) (by decide) rfl rfl d_Mill_any_1 ?_
  refine g_iload_n d_Mill_any_4 rfl ?_
  refine c_Vr (as := [.int (x)]) kv_Types_isTold ml_Mill_60 rfl (x_at (k := 1) (by decide) rfl) (KT) rfl (Nat.le_of_ble_eq_true rfl) rfl d_Mill_any_5 rfl ?_
  refine g_if_ne (tgt := 19) d_Mill_any_8 (by decide) (fun c_8 => ?_) (fun c_8 => absurd c_8 (by decide))
  refine g_aload_n d_Mill_any_19 rfl ?_
  refine g_aload_n d_Mill_any_20 rfl ?_
  refine x_get (k := 0) (j := 1) (v := .ref (a + 8)) kc_Mill fl_Mill_26 (by decide) (by decide) rfl rfl d_Mill_any_21 ?_
  refine g_new kc_Term cl_Mill_82 ki_Term.1 ki_Term.2 (fs := [.int 0, .int 0, .int 0, .null, .int 0, .int 0, .int 0]) (by decide +kernel) (by show n + 1 ≤ _; omega) (by show sl + 7 ≤ _; omega) d_Mill_any_24 ?_
  refine g_dup d_Mill_any_27 rfl ?_
  refine g_iload_n d_Mill_any_28 rfl ?_
  refine g_iconst (v := 2) d_Mill_any_29 (by decide) ?_
  refine g_iconst (v := 0) d_Mill_any_30 (by decide) ?_
  refine g_iconst (v := 0) d_Mill_any_31 (by decide) ?_
  refine g_newT (N := 0) cl_Mill_82 wo_Term (by decide) (by decide) (by show n + 1 + 1 ≤ _; omega) (by show sl + 7 + 0 ≤ _; omega) d_Mill_any_32 ?_
  rw [none_l]
  refine c_Ix (as := [.int x, .int 2, .int 0, .ref (n + 1)]) kn_Term_init ml_Mill_84 (m_Term_init (tp := []) (d := d + 38) ha (by decide) (fun t ht => by cases ht)) rfl (Nat.le_of_ble_eq_true rfl) rfl d_Mill_any_35 rfl (fun G_8 h_8 => ?_)
  subst h_8
  have hp2 := hp
  have hz2 : pilT (uTm u n x 2 0 1 0 []) a l := fun t ht => uTm_z (hz t ht) (hu t (by rw [(hz t ht).1]; decide)).2
  refine c_Vx (as := [.ref (a + 8), .ref n]) kv_Mill_put ml_Mill_87 rfl (x_at (k := 0) (by decide) rfl) (m_M_put_8 (d := d + 38) (t := n) hp2 hz2 hl (uTm_n ha)) rfl (Nat.le_of_ble_eq_true rfl) rfl d_Mill_any_38 rfl (fun G_9 h_9 => ?_)
  obtain ⟨c', rfl, h_9⟩ := h_9
  exact g_iret rfl d_Mill_any_41 ⟨rfl, c', rfl, h_9⟩
set_option maxHeartbeats 400000 in
set_option maxRecDepth 100000 in
theorem m_Y_number_8 (hu : uOk u a n) (ha : a + 24 ≤ n) (hc : n + 3 ≤ E.1.heap.size + room_1.cells) (hs : sl + 40 ≤ room_1.slots) (hp : pil c 1 4 l) (hz : pilT u a l) (hl : l.length < 40) {x y : Int32} (h : (¬ x < 0 ∧ ¬ 16 ≤ x) ∧ c.2.1 0 (tn x) = 0) : GM E Y_Mill_number (d + 40) [.ref a, .int x, .int y, .int 0] (yW E G a c u n sl) (rPost (some (.int (nI (l.length + 1)))) (fun G' => ∃ c', G' = yW E G a c' (uTm u n x 0 y 1 0 []) (n + 2) (sl + 7) ∧ ptF c c' 1 4 (l ++ [n]))) := by
  refine g_entry (by decide) (by simp [Value.category]) (Nat.le_of_ble_eq_true rfl) ?_
  have KT := m_Types_isOfNumbers (E := E) (d := d + 38) (G := yW E G a c u n sl) (x_at (k := 1) (by decide) rfl) (x_at (k := 2) (by decide) rfl) x
  rw [b32, if_pos h] at KT
  refine g_aload_n d_Mill_number_0 rfl ?_
  refine x_get (k := 0) (j := 0) (v := .ref (a + 1)) kc_Mill fl_Mill_15 (by decide) (by decide) rfl rfl d_Mill_number_1 ?_
  refine g_iload_n d_Mill_number_4 rfl ?_
  refine c_Vr (as := [.int (x)]) kv_Types_isOfNumbers ml_Mill_91 rfl (x_at (k := 1) (by decide) rfl) (KT) rfl (Nat.le_of_ble_eq_true rfl) rfl d_Mill_number_5 rfl ?_
  refine g_if_ne (tgt := 19) d_Mill_number_8 (by decide) (fun c_8 => ?_) (fun c_8 => absurd c_8 (by decide))
  refine g_aload_n d_Mill_number_19 rfl ?_
  refine g_aload_n d_Mill_number_20 rfl ?_
  refine g_iload_n d_Mill_number_21 rfl ?_
  refine c_Vr (as := [.int (0)]) kv_Mill_pileOf ml_Mill_94 rfl (x_at (k := 0) (by decide) rfl) (m_Mill_pileOf (x_at (k := 0) (by decide) rfl) 0) rfl (Nat.le_of_ble_eq_true rfl) rfl d_Mill_number_22 rfl ?_
  refine g_new kc_Term cl_Mill_82 ki_Term.1 ki_Term.2 (fs := [.int 0, .int 0, .int 0, .null, .int 0, .int 0, .int 0]) (by decide +kernel) (by show n + 1 ≤ _; omega) (by show sl + 7 ≤ _; omega) d_Mill_number_25 ?_
  refine g_dup d_Mill_number_28 rfl ?_
  refine g_iload_n d_Mill_number_29 rfl ?_
  refine g_iconst (v := 0) d_Mill_number_30 (by decide) ?_
  refine g_iload_n d_Mill_number_31 rfl ?_
  refine g_iconst (v := 0) d_Mill_number_32 (by decide) ?_
  refine g_newT (N := 0) cl_Mill_82 wo_Term (by decide) (by decide) (by show n + 1 + 1 ≤ _; omega) (by show sl + 7 + 0 ≤ _; omega) d_Mill_number_33 ?_
  rw [none_l]
  refine c_Ix (as := [.int x, .int 0, .int y, .ref (n + 1)]) kn_Term_init ml_Mill_84 (m_Term_init (tp := []) (d := d + 38) ha (by decide) (fun t ht => by cases ht)) rfl (Nat.le_of_ble_eq_true rfl) rfl d_Mill_number_36 rfl (fun G_8 h_8 => ?_)
  subst h_8
  have hp2 := hp
  have hz2 : pilT (uTm u n x 0 y 1 0 []) a l := fun t ht => uTm_z (hz t ht) (hu t (by rw [(hz t ht).1]; decide)).2
  refine c_Vx (as := [.ref (a + 8), .ref n]) kv_Mill_put ml_Mill_87 rfl (x_at (k := 0) (by decide) rfl) (m_M_put_8 (d := d + 38) (t := n) hp2 hz2 hl (uTm_n ha)) rfl (Nat.le_of_ble_eq_true rfl) rfl d_Mill_number_39 rfl (fun G_9 h_9 => ?_)
  obtain ⟨c', rfl, h_9⟩ := h_9
  exact g_iret rfl d_Mill_number_42 ⟨rfl, c', rfl, h_9⟩
set_option maxHeartbeats 400000 in
set_option maxRecDepth 100000 in
theorem m_Y_number_10 (hu : uOk u a n) (ha : a + 24 ≤ n) (hc : n + 3 ≤ E.1.heap.size + room_1.cells) (hs : sl + 40 ≤ room_1.slots) (hp : pil c 2 5 l) (hz : pilT u a l) (hl : l.length < 40) {x y : Int32} (h : (¬ x < 0 ∧ ¬ 16 ≤ x) ∧ c.2.1 0 (tn x) = 0) : GM E Y_Mill_number (d + 40) [.ref a, .int x, .int y, .int 1] (yW E G a c u n sl) (rPost (some (.int (nI (l.length + 1)))) (fun G' => ∃ c', G' = yW E G a c' (uTm u n x 0 y 1 0 []) (n + 2) (sl + 7) ∧ ptF c c' 2 5 (l ++ [n]))) := by
  refine g_entry (by decide) (by simp [Value.category]) (Nat.le_of_ble_eq_true rfl) ?_
  have KT := m_Types_isOfNumbers (E := E) (d := d + 38) (G := yW E G a c u n sl) (x_at (k := 1) (by decide) rfl) (x_at (k := 2) (by decide) rfl) x
  rw [b32, if_pos h] at KT
  refine g_aload_n d_Mill_number_0 rfl ?_
  refine x_get (k := 0) (j := 0) (v := .ref (a + 1)) kc_Mill fl_Mill_15 (by decide) (by decide) rfl rfl d_Mill_number_1 ?_
  refine g_iload_n d_Mill_number_4 rfl ?_
  refine c_Vr (as := [.int (x)]) kv_Types_isOfNumbers ml_Mill_91 rfl (x_at (k := 1) (by decide) rfl) (KT) rfl (Nat.le_of_ble_eq_true rfl) rfl d_Mill_number_5 rfl ?_
  refine g_if_ne (tgt := 19) d_Mill_number_8 (by decide) (fun c_8 => ?_) (fun c_8 => absurd c_8 (by decide))
  refine g_aload_n d_Mill_number_19 rfl ?_
  refine g_aload_n d_Mill_number_20 rfl ?_
  refine g_iload_n d_Mill_number_21 rfl ?_
  refine c_Vr (as := [.int (1)]) kv_Mill_pileOf ml_Mill_94 rfl (x_at (k := 0) (by decide) rfl) (m_Mill_pileOf (x_at (k := 0) (by decide) rfl) 1) rfl (Nat.le_of_ble_eq_true rfl) rfl d_Mill_number_22 rfl ?_
  refine g_new kc_Term cl_Mill_82 ki_Term.1 ki_Term.2 (fs := [.int 0, .int 0, .int 0, .null, .int 0, .int 0, .int 0]) (by decide +kernel) (by show n + 1 ≤ _; omega) (by show sl + 7 ≤ _; omega) d_Mill_number_25 ?_
  refine g_dup d_Mill_number_28 rfl ?_
  refine g_iload_n d_Mill_number_29 rfl ?_
  refine g_iconst (v := 0) d_Mill_number_30 (by decide) ?_
  refine g_iload_n d_Mill_number_31 rfl ?_
  refine g_iconst (v := 0) d_Mill_number_32 (by decide) ?_
  refine g_newT (N := 0) cl_Mill_82 wo_Term (by decide) (by decide) (by show n + 1 + 1 ≤ _; omega) (by show sl + 7 + 0 ≤ _; omega) d_Mill_number_33 ?_
  rw [none_l]
  refine c_Ix (as := [.int x, .int 0, .int y, .ref (n + 1)]) kn_Term_init ml_Mill_84 (m_Term_init (tp := []) (d := d + 38) ha (by decide) (fun t ht => by cases ht)) rfl (Nat.le_of_ble_eq_true rfl) rfl d_Mill_number_36 rfl (fun G_8 h_8 => ?_)
  subst h_8
  have hp2 := hp
  have hz2 : pilT (uTm u n x 0 y 1 0 []) a l := fun t ht => uTm_z (hz t ht) (hu t (by rw [(hz t ht).1]; decide)).2
  refine c_Vx (as := [.ref (a + 10), .ref n]) kv_Mill_put ml_Mill_87 rfl (x_at (k := 0) (by decide) rfl) (m_M_put_10 (d := d + 38) (t := n) hp2 hz2 hl (uTm_n ha)) rfl (Nat.le_of_ble_eq_true rfl) rfl d_Mill_number_39 rfl (fun G_9 h_9 => ?_)
  obtain ⟨c', rfl, h_9⟩ := h_9
  exact g_iret rfl d_Mill_number_42 ⟨rfl, c', rfl, h_9⟩
set_option maxHeartbeats 400000 in
set_option maxRecDepth 100000 in
theorem m_Y_anyF (hu : uOk u a n) (ha : a + 24 ≤ n) (hc : n + 3 ≤ E.1.heap.size + room_1.cells) (hs : sl + 40 ≤ room_1.slots) (hp : pil c 1 4 l) (hz : pilT u a l) (hl : l.length = 40) {x : Int32} (h : tTold (c.2.1 0) x) : GM E Y_Mill_any (d + 40) [.ref a, .int x] (yW E G a c u n sl) (tIs "java/lang/IllegalStateException" (yW E G a c (uTm u n x 2 0 1 0 []) (n + 2) (sl + 7))) := by
  refine g_entry (by decide) (by simp [Value.category]) (Nat.le_of_ble_eq_true rfl) ?_
  have KT := m_Types_isTold (E := E) (d := d + 38) (G := yW E G a c u n sl) (x_at (k := 1) (by decide) rfl) (x_at (k := 2) (by decide) rfl) x
  rw [b32, if_pos h] at KT
  refine g_aload_n d_Mill_any_0 rfl ?_
  refine x_get (k := 0) (j := 0) (v := .ref (a + 1)) kc_Mill fl_Mill_15 (by decide) (by decide) rfl rfl d_Mill_any_1 ?_
  refine g_iload_n d_Mill_any_4 rfl ?_
  refine c_Vr (as := [.int (x)]) kv_Types_isTold ml_Mill_60 rfl (x_at (k := 1) (by decide) rfl) (KT) rfl (Nat.le_of_ble_eq_true rfl) rfl d_Mill_any_5 rfl ?_
  refine g_if_ne (tgt := 19) d_Mill_any_8 (by decide) (fun c_8 => ?_) (fun c_8 => absurd c_8 (by decide))
  refine g_aload_n d_Mill_any_19 rfl ?_
  refine g_aload_n d_Mill_any_20 rfl ?_
  refine x_get (k := 0) (j := 1) (v := .ref (a + 8)) kc_Mill fl_Mill_26 (by decide) (by decide) rfl rfl d_Mill_any_21 ?_
  refine g_new kc_Term cl_Mill_82 ki_Term.1 ki_Term.2 (fs := [.int 0, .int 0, .int 0, .null, .int 0, .int 0, .int 0]) (by decide +kernel) (by show n + 1 ≤ _; omega) (by show sl + 7 ≤ _; omega) d_Mill_any_24 ?_
  refine g_dup d_Mill_any_27 rfl ?_
  refine g_iload_n d_Mill_any_28 rfl ?_
  refine g_iconst (v := 2) d_Mill_any_29 (by decide) ?_
  refine g_iconst (v := 0) d_Mill_any_30 (by decide) ?_
  refine g_iconst (v := 0) d_Mill_any_31 (by decide) ?_
  refine g_newT (N := 0) cl_Mill_82 wo_Term (by decide) (by decide) (by show n + 1 + 1 ≤ _; omega) (by show sl + 7 + 0 ≤ _; omega) d_Mill_any_32 ?_
  rw [none_l]
  refine c_Ix (as := [.int x, .int 2, .int 0, .ref (n + 1)]) kn_Term_init ml_Mill_84 (m_Term_init (tp := []) (d := d + 38) ha (by decide) (fun t ht => by cases ht)) rfl (Nat.le_of_ble_eq_true rfl) rfl d_Mill_any_35 rfl (fun G_8 h_8 => ?_)
  subst h_8
  have hp2 := hp
  have hz2 : pilT (uTm u n x 2 0 1 0 []) a l := fun t ht => uTm_z (hz t ht) (hu t (by rw [(hz t ht).1]; decide)).2
  refine c_Vt (as := [.ref (a + 8), .ref n]) kv_Mill_put ml_Mill_87 rfl (x_at (k := 0) (by decide) rfl) (m_M_putF_8 (d := d + 29) hp hz2 hl ⟨by show (n + 2) + 1 ≤ _; omega, by show (sl + 7 + 0) + 6 ≤ _; omega⟩) rfl (Nat.le_of_ble_eq_true rfl) rfl d_Mill_any_38 (fun G_9 h_9 => h_9)
set_option maxHeartbeats 400000 in
set_option maxRecDepth 100000 in
theorem m_Y_numberF_8 (hu : uOk u a n) (ha : a + 24 ≤ n) (hc : n + 3 ≤ E.1.heap.size + room_1.cells) (hs : sl + 40 ≤ room_1.slots) (hp : pil c 1 4 l) (hz : pilT u a l) (hl : l.length = 40) {x y : Int32} (h : (¬ x < 0 ∧ ¬ 16 ≤ x) ∧ c.2.1 0 (tn x) = 0) : GM E Y_Mill_number (d + 40) [.ref a, .int x, .int y, .int 0] (yW E G a c u n sl) (tIs "java/lang/IllegalStateException" (yW E G a c (uTm u n x 0 y 1 0 []) (n + 2) (sl + 7))) := by
  refine g_entry (by decide) (by simp [Value.category]) (Nat.le_of_ble_eq_true rfl) ?_
  have KT := m_Types_isOfNumbers (E := E) (d := d + 38) (G := yW E G a c u n sl) (x_at (k := 1) (by decide) rfl) (x_at (k := 2) (by decide) rfl) x
  rw [b32, if_pos h] at KT
  refine g_aload_n d_Mill_number_0 rfl ?_
  refine x_get (k := 0) (j := 0) (v := .ref (a + 1)) kc_Mill fl_Mill_15 (by decide) (by decide) rfl rfl d_Mill_number_1 ?_
  refine g_iload_n d_Mill_number_4 rfl ?_
  refine c_Vr (as := [.int (x)]) kv_Types_isOfNumbers ml_Mill_91 rfl (x_at (k := 1) (by decide) rfl) (KT) rfl (Nat.le_of_ble_eq_true rfl) rfl d_Mill_number_5 rfl ?_
  refine g_if_ne (tgt := 19) d_Mill_number_8 (by decide) (fun c_8 => ?_) (fun c_8 => absurd c_8 (by decide))
  refine g_aload_n d_Mill_number_19 rfl ?_
  refine g_aload_n d_Mill_number_20 rfl ?_
  refine g_iload_n d_Mill_number_21 rfl ?_
  refine c_Vr (as := [.int (0)]) kv_Mill_pileOf ml_Mill_94 rfl (x_at (k := 0) (by decide) rfl) (m_Mill_pileOf (x_at (k := 0) (by decide) rfl) 0) rfl (Nat.le_of_ble_eq_true rfl) rfl d_Mill_number_22 rfl ?_
  refine g_new kc_Term cl_Mill_82 ki_Term.1 ki_Term.2 (fs := [.int 0, .int 0, .int 0, .null, .int 0, .int 0, .int 0]) (by decide +kernel) (by show n + 1 ≤ _; omega) (by show sl + 7 ≤ _; omega) d_Mill_number_25 ?_
  refine g_dup d_Mill_number_28 rfl ?_
  refine g_iload_n d_Mill_number_29 rfl ?_
  refine g_iconst (v := 0) d_Mill_number_30 (by decide) ?_
  refine g_iload_n d_Mill_number_31 rfl ?_
  refine g_iconst (v := 0) d_Mill_number_32 (by decide) ?_
  refine g_newT (N := 0) cl_Mill_82 wo_Term (by decide) (by decide) (by show n + 1 + 1 ≤ _; omega) (by show sl + 7 + 0 ≤ _; omega) d_Mill_number_33 ?_
  rw [none_l]
  refine c_Ix (as := [.int x, .int 0, .int y, .ref (n + 1)]) kn_Term_init ml_Mill_84 (m_Term_init (tp := []) (d := d + 38) ha (by decide) (fun t ht => by cases ht)) rfl (Nat.le_of_ble_eq_true rfl) rfl d_Mill_number_36 rfl (fun G_8 h_8 => ?_)
  subst h_8
  have hp2 := hp
  have hz2 : pilT (uTm u n x 0 y 1 0 []) a l := fun t ht => uTm_z (hz t ht) (hu t (by rw [(hz t ht).1]; decide)).2
  refine c_Vt (as := [.ref (a + 8), .ref n]) kv_Mill_put ml_Mill_87 rfl (x_at (k := 0) (by decide) rfl) (m_M_putF_8 (d := d + 29) hp hz2 hl ⟨by show (n + 2) + 1 ≤ _; omega, by show (sl + 7 + 0) + 6 ≤ _; omega⟩) rfl (Nat.le_of_ble_eq_true rfl) rfl d_Mill_number_39 (fun G_9 h_9 => h_9)
set_option maxHeartbeats 400000 in
set_option maxRecDepth 100000 in
theorem m_Y_numberF_10 (hu : uOk u a n) (ha : a + 24 ≤ n) (hc : n + 3 ≤ E.1.heap.size + room_1.cells) (hs : sl + 40 ≤ room_1.slots) (hp : pil c 2 5 l) (hz : pilT u a l) (hl : l.length = 40) {x y : Int32} (h : (¬ x < 0 ∧ ¬ 16 ≤ x) ∧ c.2.1 0 (tn x) = 0) : GM E Y_Mill_number (d + 40) [.ref a, .int x, .int y, .int 1] (yW E G a c u n sl) (tIs "java/lang/IllegalStateException" (yW E G a c (uTm u n x 0 y 1 0 []) (n + 2) (sl + 7))) := by
  refine g_entry (by decide) (by simp [Value.category]) (Nat.le_of_ble_eq_true rfl) ?_
  have KT := m_Types_isOfNumbers (E := E) (d := d + 38) (G := yW E G a c u n sl) (x_at (k := 1) (by decide) rfl) (x_at (k := 2) (by decide) rfl) x
  rw [b32, if_pos h] at KT
  refine g_aload_n d_Mill_number_0 rfl ?_
  refine x_get (k := 0) (j := 0) (v := .ref (a + 1)) kc_Mill fl_Mill_15 (by decide) (by decide) rfl rfl d_Mill_number_1 ?_
  refine g_iload_n d_Mill_number_4 rfl ?_
  refine c_Vr (as := [.int (x)]) kv_Types_isOfNumbers ml_Mill_91 rfl (x_at (k := 1) (by decide) rfl) (KT) rfl (Nat.le_of_ble_eq_true rfl) rfl d_Mill_number_5 rfl ?_
  refine g_if_ne (tgt := 19) d_Mill_number_8 (by decide) (fun c_8 => ?_) (fun c_8 => absurd c_8 (by decide))
  refine g_aload_n d_Mill_number_19 rfl ?_
  refine g_aload_n d_Mill_number_20 rfl ?_
  refine g_iload_n d_Mill_number_21 rfl ?_
  refine c_Vr (as := [.int (1)]) kv_Mill_pileOf ml_Mill_94 rfl (x_at (k := 0) (by decide) rfl) (m_Mill_pileOf (x_at (k := 0) (by decide) rfl) 1) rfl (Nat.le_of_ble_eq_true rfl) rfl d_Mill_number_22 rfl ?_
  refine g_new kc_Term cl_Mill_82 ki_Term.1 ki_Term.2 (fs := [.int 0, .int 0, .int 0, .null, .int 0, .int 0, .int 0]) (by decide +kernel) (by show n + 1 ≤ _; omega) (by show sl + 7 ≤ _; omega) d_Mill_number_25 ?_
  refine g_dup d_Mill_number_28 rfl ?_
  refine g_iload_n d_Mill_number_29 rfl ?_
  refine g_iconst (v := 0) d_Mill_number_30 (by decide) ?_
  refine g_iload_n d_Mill_number_31 rfl ?_
  refine g_iconst (v := 0) d_Mill_number_32 (by decide) ?_
  refine g_newT (N := 0) cl_Mill_82 wo_Term (by decide) (by decide) (by show n + 1 + 1 ≤ _; omega) (by show sl + 7 + 0 ≤ _; omega) d_Mill_number_33 ?_
  rw [none_l]
  refine c_Ix (as := [.int x, .int 0, .int y, .ref (n + 1)]) kn_Term_init ml_Mill_84 (m_Term_init (tp := []) (d := d + 38) ha (by decide) (fun t ht => by cases ht)) rfl (Nat.le_of_ble_eq_true rfl) rfl d_Mill_number_36 rfl (fun G_8 h_8 => ?_)
  subst h_8
  have hp2 := hp
  have hz2 : pilT (uTm u n x 0 y 1 0 []) a l := fun t ht => uTm_z (hz t ht) (hu t (by rw [(hz t ht).1]; decide)).2
  refine c_Vt (as := [.ref (a + 10), .ref n]) kv_Mill_put ml_Mill_87 rfl (x_at (k := 0) (by decide) rfl) (m_M_putF_10 (d := d + 29) hp hz2 hl ⟨by show (n + 2) + 1 ≤ _; omega, by show (sl + 7 + 0) + 6 ≤ _; omega⟩) rfl (Nat.le_of_ble_eq_true rfl) rfl d_Mill_number_39 (fun G_9 h_9 => h_9)
set_option maxHeartbeats 400000 in
set_option maxRecDepth 100000 in
theorem m_Y_make0_8 (hF : gFit E (yW E G a c u n sl) 1 6) (hp : pil c 1 4 l) {X K : Nat} (hX : X < 16) (hK : K < 8) (hh : tHas (c.2.1 0) (nI X) (nI K)) (hok : tOk (c.2.1 0)) {ar : Nat} (hA : c.2.1 1 (8 * X + K) = nI ar) (har : ar ≤ 4) (hlt : l.length < ar) : GM E Y_Mill_make (d + 40) [.ref a, .int (nI X), .int (nI K), .int 0] (yW E G a c u n sl) (tIs "java/lang/IllegalStateException" (yW E G a c u n sl)) := by
  refine g_entry (by decide) (by simp [Value.category]) (Nat.le_of_ble_eq_true rfl) ?_
  have KT := m_Types_hasConstructor (E := E) (d := d + 37) (G := yW E G a c u n sl) (x_at (k := 1) (by decide) rfl) (x_at (k := 2) (by decide) rfl) (nI X) (nI K)
  rw [b32, if_pos hh] at KT
  have KA := m_Types_arity (E := E) (d := d + 36) (G := yW E G a c u n sl) (x_at (k := 1) (by decide) rfl) (x_at (k := 2) (by decide) rfl) (x_at (k := 3) (by decide) rfl) hok (nI X) (nI K)
  rw [if_pos hh, tnI (by omega), tnI (by omega), hA] at KA
  refine g_aload_n d_Mill_make_0 rfl ?_
  refine x_get (k := 0) (j := 0) (v := .ref (a + 1)) kc_Mill fl_Mill_15 (by decide) (by decide) rfl rfl d_Mill_make_1 ?_
  refine g_iload_n d_Mill_make_4 rfl ?_
  refine g_iload_n d_Mill_make_5 rfl ?_
  refine c_Vr (as := [.int (nI X), .int (nI K)]) kv_Types_hasConstructor ml_Mill_70 rfl (x_at (k := 1) (by decide) rfl) (KT) rfl (Nat.le_of_ble_eq_true rfl) rfl d_Mill_make_6 rfl ?_
  refine g_if_ne (tgt := 20) d_Mill_make_9 (by decide) (fun c_9 => ?_) (fun c_9 => absurd c_9 (by decide))
  refine g_aload_n d_Mill_make_20 rfl ?_
  refine g_iload_n d_Mill_make_21 rfl ?_
  refine c_Vr (as := [.int (0)]) kv_Mill_pileOf ml_Mill_94 rfl (x_at (k := 0) (by decide) rfl) (m_Mill_pileOf (x_at (k := 0) (by decide) rfl) 0) rfl (Nat.le_of_ble_eq_true rfl) rfl d_Mill_make_22 rfl ?_
  refine g_astore d_Mill_make_25 (by decide) rfl ?_
  refine g_iload_n d_Mill_make_27 rfl ?_
  refine g_if_eq (tgt := 36) d_Mill_make_28 (by decide) (fun c_28 => ?_) (fun c_28 => absurd c_28 (by decide))
  refine g_bipush (v := 24) d_Mill_make_36 (by decide) ?_
  refine g_istore d_Mill_make_38 (by decide) rfl ?_
  refine g_aload_n d_Mill_make_40 rfl ?_
  refine x_get (k := 0) (j := 0) (v := .ref (a + 1)) kc_Mill fl_Mill_15 (by decide) (by decide) rfl rfl d_Mill_make_41 ?_
  refine g_iload_n d_Mill_make_44 rfl ?_
  refine g_iload_n d_Mill_make_45 rfl ?_
  refine c_Vr (as := [.int (nI X), .int (nI K)]) kv_Types_arity ml_Mill_74 rfl (x_at (k := 1) (by decide) rfl) (KA) rfl (Nat.le_of_ble_eq_true rfl) rfl d_Mill_make_46 rfl ?_
  refine g_istore d_Mill_make_49 (by decide) rfl ?_
  refine g_aload_n d_Mill_make_51 rfl ?_
  refine x_get (k := 0) (j := 0) (v := .ref (a + 1)) kc_Mill fl_Mill_15 (by decide) (by decide) rfl rfl d_Mill_make_52 ?_
  refine g_iload_n d_Mill_make_55 rfl ?_
  refine g_iload_n d_Mill_make_56 rfl ?_
  refine g_aload d_Mill_make_57 rfl ?_
  refine c_Vr (as := [.int (nI X), .int (nI K), .ref (a + 8)]) kv_Types_areArguments ml_Mill_98 rfl (x_at (k := 1) (by decide) rfl) (m_Ty_args0_8 (d := d + 35) hp hX hK hh hok hA har hlt) rfl (Nat.le_of_ble_eq_true rfl) rfl d_Mill_make_59 rfl ?_
  refine g_if_eq (tgt := 89) d_Mill_make_62 (by decide) (fun c_62 => ?_) (fun c_62 => absurd c_62 (by decide))
  refine g_throw (th_Mill_ISE) d_Mill_make_89 d_Mill_make_92 d_Mill_make_93 d_Mill_make_96 rfl hF.1 hF.2 (by show 2 + 3 < _; omega) (Nat.le_of_ble_eq_true rfl) ?_
  intro k z1 z2
  exact ⟨rfl, rfl, z1, z2, rfl⟩
set_option maxHeartbeats 400000 in
set_option maxRecDepth 100000 in
theorem m_Y_make1_8 (hF : gFit E (yW E G a c u n sl) 1 6) (hp : pil c 1 4 (l0 ++ tp)) (hz : pilT u a (l0 ++ tp)) {X K : Nat} (hX : X < 16) (hK : K < 8) (hh : tHas (c.2.1 0) (nI X) (nI K)) (hok : tOk (c.2.1 0)) (hA : c.2.1 1 (8 * X + K) = nI tp.length) (har : tp.length ≤ 4) (h1 : arF u (c.2.1 2) tp (32 * X + 4 * K) = 0) : GM E Y_Mill_make (d + 40) [.ref a, .int (nI X), .int (nI K), .int 0] (yW E G a c u n sl) (tIs "java/lang/IllegalStateException" (yW E G a c u n sl)) := by
  refine g_entry (by decide) (by simp [Value.category]) (Nat.le_of_ble_eq_true rfl) ?_
  have KT := m_Types_hasConstructor (E := E) (d := d + 37) (G := yW E G a c u n sl) (x_at (k := 1) (by decide) rfl) (x_at (k := 2) (by decide) rfl) (nI X) (nI K)
  rw [b32, if_pos hh] at KT
  have KA := m_Types_arity (E := E) (d := d + 36) (G := yW E G a c u n sl) (x_at (k := 1) (by decide) rfl) (x_at (k := 2) (by decide) rfl) (x_at (k := 3) (by decide) rfl) hok (nI X) (nI K)
  rw [if_pos hh, tnI (by omega), tnI (by omega), hA] at KA
  refine g_aload_n d_Mill_make_0 rfl ?_
  refine x_get (k := 0) (j := 0) (v := .ref (a + 1)) kc_Mill fl_Mill_15 (by decide) (by decide) rfl rfl d_Mill_make_1 ?_
  refine g_iload_n d_Mill_make_4 rfl ?_
  refine g_iload_n d_Mill_make_5 rfl ?_
  refine c_Vr (as := [.int (nI X), .int (nI K)]) kv_Types_hasConstructor ml_Mill_70 rfl (x_at (k := 1) (by decide) rfl) (KT) rfl (Nat.le_of_ble_eq_true rfl) rfl d_Mill_make_6 rfl ?_
  refine g_if_ne (tgt := 20) d_Mill_make_9 (by decide) (fun c_9 => ?_) (fun c_9 => absurd c_9 (by decide))
  refine g_aload_n d_Mill_make_20 rfl ?_
  refine g_iload_n d_Mill_make_21 rfl ?_
  refine c_Vr (as := [.int (0)]) kv_Mill_pileOf ml_Mill_94 rfl (x_at (k := 0) (by decide) rfl) (m_Mill_pileOf (x_at (k := 0) (by decide) rfl) 0) rfl (Nat.le_of_ble_eq_true rfl) rfl d_Mill_make_22 rfl ?_
  refine g_astore d_Mill_make_25 (by decide) rfl ?_
  refine g_iload_n d_Mill_make_27 rfl ?_
  refine g_if_eq (tgt := 36) d_Mill_make_28 (by decide) (fun c_28 => ?_) (fun c_28 => absurd c_28 (by decide))
  refine g_bipush (v := 24) d_Mill_make_36 (by decide) ?_
  refine g_istore d_Mill_make_38 (by decide) rfl ?_
  refine g_aload_n d_Mill_make_40 rfl ?_
  refine x_get (k := 0) (j := 0) (v := .ref (a + 1)) kc_Mill fl_Mill_15 (by decide) (by decide) rfl rfl d_Mill_make_41 ?_
  refine g_iload_n d_Mill_make_44 rfl ?_
  refine g_iload_n d_Mill_make_45 rfl ?_
  refine c_Vr (as := [.int (nI X), .int (nI K)]) kv_Types_arity ml_Mill_74 rfl (x_at (k := 1) (by decide) rfl) (KA) rfl (Nat.le_of_ble_eq_true rfl) rfl d_Mill_make_46 rfl ?_
  refine g_istore d_Mill_make_49 (by decide) rfl ?_
  refine g_aload_n d_Mill_make_51 rfl ?_
  refine x_get (k := 0) (j := 0) (v := .ref (a + 1)) kc_Mill fl_Mill_15 (by decide) (by decide) rfl rfl d_Mill_make_52 ?_
  refine g_iload_n d_Mill_make_55 rfl ?_
  refine g_iload_n d_Mill_make_56 rfl ?_
  refine g_aload d_Mill_make_57 rfl ?_
  refine c_Vr (as := [.int (nI X), .int (nI K), .ref (a + 8)]) kv_Types_areArguments ml_Mill_98 rfl (x_at (k := 1) (by decide) rfl) (m_Ty_args_8 (d := d + 35) hp hz hX hK hh hok hA har rfl) rfl (Nat.le_of_ble_eq_true rfl) rfl d_Mill_make_59 rfl ?_
  refine g_if_eq (tgt := 89) d_Mill_make_62 (by decide) (fun c_62 => ?_) (fun c_62 => ?_)
  rotate_left
  · exact absurd c_62 (fun e => e h1)
  refine g_throw (th_Mill_ISE) d_Mill_make_89 d_Mill_make_92 d_Mill_make_93 d_Mill_make_96 rfl hF.1 hF.2 (by show 2 + 3 < _; omega) (Nat.le_of_ble_eq_true rfl) ?_
  intro k z1 z2
  exact ⟨rfl, rfl, z1, z2, rfl⟩
set_option maxHeartbeats 400000 in
set_option maxRecDepth 100000 in
theorem m_Y_make2_8 (hF : gFit E (yW E G a c u n sl) 1 6) (hp : pil c 1 4 (l0 ++ tp)) (hz : pilT u a (l0 ++ tp)) {X K : Nat} (hX : X < 16) (hK : K < 8) (hh : tHas (c.2.1 0) (nI X) (nI K)) (hok : tOk (c.2.1 0)) (hA : c.2.1 1 (8 * X + K) = nI tp.length) (har : tp.length ≤ 4) (h1 : ¬ arF u (c.2.1 2) tp (32 * X + 4 * K) = 0) (h2 : ¬ shF u 0 tp = 0) : GM E Y_Mill_make (d + 40) [.ref a, .int (nI X), .int (nI K), .int 0] (yW E G a c u n sl) (tIs "java/lang/IllegalStateException" (yW E G a c u n sl)) := by
  refine g_entry (by decide) (by simp [Value.category]) (Nat.le_of_ble_eq_true rfl) ?_
  have KT := m_Types_hasConstructor (E := E) (d := d + 37) (G := yW E G a c u n sl) (x_at (k := 1) (by decide) rfl) (x_at (k := 2) (by decide) rfl) (nI X) (nI K)
  rw [b32, if_pos hh] at KT
  have KA := m_Types_arity (E := E) (d := d + 36) (G := yW E G a c u n sl) (x_at (k := 1) (by decide) rfl) (x_at (k := 2) (by decide) rfl) (x_at (k := 3) (by decide) rfl) hok (nI X) (nI K)
  rw [if_pos hh, tnI (by omega), tnI (by omega), hA] at KA
  refine g_aload_n d_Mill_make_0 rfl ?_
  refine x_get (k := 0) (j := 0) (v := .ref (a + 1)) kc_Mill fl_Mill_15 (by decide) (by decide) rfl rfl d_Mill_make_1 ?_
  refine g_iload_n d_Mill_make_4 rfl ?_
  refine g_iload_n d_Mill_make_5 rfl ?_
  refine c_Vr (as := [.int (nI X), .int (nI K)]) kv_Types_hasConstructor ml_Mill_70 rfl (x_at (k := 1) (by decide) rfl) (KT) rfl (Nat.le_of_ble_eq_true rfl) rfl d_Mill_make_6 rfl ?_
  refine g_if_ne (tgt := 20) d_Mill_make_9 (by decide) (fun c_9 => ?_) (fun c_9 => absurd c_9 (by decide))
  refine g_aload_n d_Mill_make_20 rfl ?_
  refine g_iload_n d_Mill_make_21 rfl ?_
  refine c_Vr (as := [.int (0)]) kv_Mill_pileOf ml_Mill_94 rfl (x_at (k := 0) (by decide) rfl) (m_Mill_pileOf (x_at (k := 0) (by decide) rfl) 0) rfl (Nat.le_of_ble_eq_true rfl) rfl d_Mill_make_22 rfl ?_
  refine g_astore d_Mill_make_25 (by decide) rfl ?_
  refine g_iload_n d_Mill_make_27 rfl ?_
  refine g_if_eq (tgt := 36) d_Mill_make_28 (by decide) (fun c_28 => ?_) (fun c_28 => absurd c_28 (by decide))
  refine g_bipush (v := 24) d_Mill_make_36 (by decide) ?_
  refine g_istore d_Mill_make_38 (by decide) rfl ?_
  refine g_aload_n d_Mill_make_40 rfl ?_
  refine x_get (k := 0) (j := 0) (v := .ref (a + 1)) kc_Mill fl_Mill_15 (by decide) (by decide) rfl rfl d_Mill_make_41 ?_
  refine g_iload_n d_Mill_make_44 rfl ?_
  refine g_iload_n d_Mill_make_45 rfl ?_
  refine c_Vr (as := [.int (nI X), .int (nI K)]) kv_Types_arity ml_Mill_74 rfl (x_at (k := 1) (by decide) rfl) (KA) rfl (Nat.le_of_ble_eq_true rfl) rfl d_Mill_make_46 rfl ?_
  refine g_istore d_Mill_make_49 (by decide) rfl ?_
  refine g_aload_n d_Mill_make_51 rfl ?_
  refine x_get (k := 0) (j := 0) (v := .ref (a + 1)) kc_Mill fl_Mill_15 (by decide) (by decide) rfl rfl d_Mill_make_52 ?_
  refine g_iload_n d_Mill_make_55 rfl ?_
  refine g_iload_n d_Mill_make_56 rfl ?_
  refine g_aload d_Mill_make_57 rfl ?_
  refine c_Vr (as := [.int (nI X), .int (nI K), .ref (a + 8)]) kv_Types_areArguments ml_Mill_98 rfl (x_at (k := 1) (by decide) rfl) (m_Ty_args_8 (d := d + 35) hp hz hX hK hh hok hA har rfl) rfl (Nat.le_of_ble_eq_true rfl) rfl d_Mill_make_59 rfl ?_
  refine g_if_eq (tgt := 89) d_Mill_make_62 (by decide) (fun c_62 => ?_) (fun c_62 => ?_)
  · exact absurd c_62 h1
  refine g_aload d_Mill_make_65 rfl ?_
  refine g_iload d_Mill_make_67 rfl ?_
  refine c_Vr (as := [.int (nI tp.length)]) kv_Pile_shareNames ml_Mill_102 rfl (x_at (k := 8) (by decide) rfl) (m_Y_shareNames_8 (d := d + 38) hp hz) rfl (Nat.le_of_ble_eq_true rfl) rfl d_Mill_make_69 rfl ?_
  refine g_if_ne (tgt := 89) d_Mill_make_72 (by decide) (fun c_72 => ?_) (fun c_72 => ?_)
  rotate_left
  · exact absurd c_72 h2
  refine g_throw (th_Mill_ISE) d_Mill_make_89 d_Mill_make_92 d_Mill_make_93 d_Mill_make_96 rfl hF.1 hF.2 (by show 2 + 3 < _; omega) (Nat.le_of_ble_eq_true rfl) ?_
  intro k z1 z2
  exact ⟨rfl, rfl, z1, z2, rfl⟩
set_option maxHeartbeats 400000 in
set_option maxRecDepth 100000 in
theorem m_Y_make3_8 (hF : gFit E (yW E G a c u n sl) 1 6) (hp : pil c 1 4 (l0 ++ tp)) (hz : pilT u a (l0 ++ tp)) {X K : Nat} (hX : X < 16) (hK : K < 8) (hh : tHas (c.2.1 0) (nI X) (nI K)) (hok : tOk (c.2.1 0)) (hA : c.2.1 1 (8 * X + K) = nI tp.length) (har : tp.length ≤ 4) (h1 : ¬ arF u (c.2.1 2) tp (32 * X + 4 * K) = 0) (h2 : shF u 0 tp = 0) (h3 : ¬ szF u 0 tp + 1 ≤ 24) : GM E Y_Mill_make (d + 40) [.ref a, .int (nI X), .int (nI K), .int 0] (yW E G a c u n sl) (tIs "java/lang/IllegalStateException" (yW E G a c u n sl)) := by
  refine g_entry (by decide) (by simp [Value.category]) (Nat.le_of_ble_eq_true rfl) ?_
  have KT := m_Types_hasConstructor (E := E) (d := d + 37) (G := yW E G a c u n sl) (x_at (k := 1) (by decide) rfl) (x_at (k := 2) (by decide) rfl) (nI X) (nI K)
  rw [b32, if_pos hh] at KT
  have KA := m_Types_arity (E := E) (d := d + 36) (G := yW E G a c u n sl) (x_at (k := 1) (by decide) rfl) (x_at (k := 2) (by decide) rfl) (x_at (k := 3) (by decide) rfl) hok (nI X) (nI K)
  rw [if_pos hh, tnI (by omega), tnI (by omega), hA] at KA
  refine g_aload_n d_Mill_make_0 rfl ?_
  refine x_get (k := 0) (j := 0) (v := .ref (a + 1)) kc_Mill fl_Mill_15 (by decide) (by decide) rfl rfl d_Mill_make_1 ?_
  refine g_iload_n d_Mill_make_4 rfl ?_
  refine g_iload_n d_Mill_make_5 rfl ?_
  refine c_Vr (as := [.int (nI X), .int (nI K)]) kv_Types_hasConstructor ml_Mill_70 rfl (x_at (k := 1) (by decide) rfl) (KT) rfl (Nat.le_of_ble_eq_true rfl) rfl d_Mill_make_6 rfl ?_
  refine g_if_ne (tgt := 20) d_Mill_make_9 (by decide) (fun c_9 => ?_) (fun c_9 => absurd c_9 (by decide))
  refine g_aload_n d_Mill_make_20 rfl ?_
  refine g_iload_n d_Mill_make_21 rfl ?_
  refine c_Vr (as := [.int (0)]) kv_Mill_pileOf ml_Mill_94 rfl (x_at (k := 0) (by decide) rfl) (m_Mill_pileOf (x_at (k := 0) (by decide) rfl) 0) rfl (Nat.le_of_ble_eq_true rfl) rfl d_Mill_make_22 rfl ?_
  refine g_astore d_Mill_make_25 (by decide) rfl ?_
  refine g_iload_n d_Mill_make_27 rfl ?_
  refine g_if_eq (tgt := 36) d_Mill_make_28 (by decide) (fun c_28 => ?_) (fun c_28 => absurd c_28 (by decide))
  refine g_bipush (v := 24) d_Mill_make_36 (by decide) ?_
  refine g_istore d_Mill_make_38 (by decide) rfl ?_
  refine g_aload_n d_Mill_make_40 rfl ?_
  refine x_get (k := 0) (j := 0) (v := .ref (a + 1)) kc_Mill fl_Mill_15 (by decide) (by decide) rfl rfl d_Mill_make_41 ?_
  refine g_iload_n d_Mill_make_44 rfl ?_
  refine g_iload_n d_Mill_make_45 rfl ?_
  refine c_Vr (as := [.int (nI X), .int (nI K)]) kv_Types_arity ml_Mill_74 rfl (x_at (k := 1) (by decide) rfl) (KA) rfl (Nat.le_of_ble_eq_true rfl) rfl d_Mill_make_46 rfl ?_
  refine g_istore d_Mill_make_49 (by decide) rfl ?_
  refine g_aload_n d_Mill_make_51 rfl ?_
  refine x_get (k := 0) (j := 0) (v := .ref (a + 1)) kc_Mill fl_Mill_15 (by decide) (by decide) rfl rfl d_Mill_make_52 ?_
  refine g_iload_n d_Mill_make_55 rfl ?_
  refine g_iload_n d_Mill_make_56 rfl ?_
  refine g_aload d_Mill_make_57 rfl ?_
  refine c_Vr (as := [.int (nI X), .int (nI K), .ref (a + 8)]) kv_Types_areArguments ml_Mill_98 rfl (x_at (k := 1) (by decide) rfl) (m_Ty_args_8 (d := d + 35) hp hz hX hK hh hok hA har rfl) rfl (Nat.le_of_ble_eq_true rfl) rfl d_Mill_make_59 rfl ?_
  refine g_if_eq (tgt := 89) d_Mill_make_62 (by decide) (fun c_62 => ?_) (fun c_62 => ?_)
  · exact absurd c_62 h1
  refine g_aload d_Mill_make_65 rfl ?_
  refine g_iload d_Mill_make_67 rfl ?_
  refine c_Vr (as := [.int (nI tp.length)]) kv_Pile_shareNames ml_Mill_102 rfl (x_at (k := 8) (by decide) rfl) (m_Y_shareNames_8 (d := d + 38) hp hz) rfl (Nat.le_of_ble_eq_true rfl) rfl d_Mill_make_69 rfl ?_
  refine g_if_ne (tgt := 89) d_Mill_make_72 (by decide) (fun c_72 => ?_) (fun c_72 => ?_)
  · exact absurd c_72 (fun e => e h2)
  refine g_aload d_Mill_make_75 rfl ?_
  refine g_iload d_Mill_make_77 rfl ?_
  refine c_Vr (as := [.int (nI tp.length)]) kv_Pile_sizeOf ml_Mill_105 rfl (x_at (k := 8) (by decide) rfl) (m_Y_sizeOf_8 (d := d + 38) hp hz) rfl (Nat.le_of_ble_eq_true rfl) rfl d_Mill_make_79 rfl ?_
  refine g_iconst (v := 1) d_Mill_make_82 (by decide) ?_
  refine g_iadd d_Mill_make_83 ?_
  refine g_iload d_Mill_make_84 rfl ?_
  refine g_icmp_le (tgt := 97) d_Mill_make_86 (by decide) (fun c_86 => ?_) (fun c_86 => ?_)
  · exact absurd c_86 h3
  refine g_throw (th_Mill_ISE) d_Mill_make_89 d_Mill_make_92 d_Mill_make_93 d_Mill_make_96 rfl hF.1 hF.2 (by show 2 + 3 < _; omega) (Nat.le_of_ble_eq_true rfl) ?_
  intro k z1 z2
  exact ⟨rfl, rfl, z1, z2, rfl⟩
set_option maxHeartbeats 400000 in
set_option maxRecDepth 100000 in
theorem m_Y_make_8 (hu : uOk u a n) (ha : a + 24 ≤ n) (hc : n + 3 ≤ E.1.heap.size + room_1.cells) (hs : sl + 40 ≤ room_1.slots) (hp : pil c 1 4 (l0 ++ tp)) (hz : pilT u a (l0 ++ tp)) {X K : Nat} (hX : X < 16) (hK : K < 8) (hh : tHas (c.2.1 0) (nI X) (nI K)) (hok : tOk (c.2.1 0)) (hA : c.2.1 1 (8 * X + K) = nI tp.length) (har : tp.length ≤ 4) (h1 : ¬ arF u (c.2.1 2) tp (32 * X + 4 * K) = 0) (h2 : shF u 0 tp = 0) (h3 : szF u 0 tp + 1 ≤ 24) (hl : l0.length < 40) : GM E Y_Mill_make (d + 40) [.ref a, .int (nI X), .int (nI K), .int 0] (yW E G a c u n sl) (rPost (some (.int (nI (l0.length + 1)))) (fun G' => ∃ c', G' = yW E G a c' (uTm u n (nI X) 1 (nI K) (szF u 1 tp) (nmF u 0 tp) tp) (n + 2) (sl + 7 + tp.length) ∧ ptF c c' 1 4 (l0 ++ [n]))) := by
  refine g_entry (by decide) (by simp [Value.category]) (Nat.le_of_ble_eq_true rfl) ?_
  have KT := m_Types_hasConstructor (E := E) (d := d + 37) (G := yW E G a c u n sl) (x_at (k := 1) (by decide) rfl) (x_at (k := 2) (by decide) rfl) (nI X) (nI K)
  rw [b32, if_pos hh] at KT
  have KA := m_Types_arity (E := E) (d := d + 36) (G := yW E G a c u n sl) (x_at (k := 1) (by decide) rfl) (x_at (k := 2) (by decide) rfl) (x_at (k := 3) (by decide) rfl) hok (nI X) (nI K)
  rw [if_pos hh, tnI (by omega), tnI (by omega), hA] at KA
  refine g_aload_n d_Mill_make_0 rfl ?_
  refine x_get (k := 0) (j := 0) (v := .ref (a + 1)) kc_Mill fl_Mill_15 (by decide) (by decide) rfl rfl d_Mill_make_1 ?_
  refine g_iload_n d_Mill_make_4 rfl ?_
  refine g_iload_n d_Mill_make_5 rfl ?_
  refine c_Vr (as := [.int (nI X), .int (nI K)]) kv_Types_hasConstructor ml_Mill_70 rfl (x_at (k := 1) (by decide) rfl) (KT) rfl (Nat.le_of_ble_eq_true rfl) rfl d_Mill_make_6 rfl ?_
  refine g_if_ne (tgt := 20) d_Mill_make_9 (by decide) (fun c_9 => ?_) (fun c_9 => absurd c_9 (by decide))
  refine g_aload_n d_Mill_make_20 rfl ?_
  refine g_iload_n d_Mill_make_21 rfl ?_
  refine c_Vr (as := [.int (0)]) kv_Mill_pileOf ml_Mill_94 rfl (x_at (k := 0) (by decide) rfl) (m_Mill_pileOf (x_at (k := 0) (by decide) rfl) 0) rfl (Nat.le_of_ble_eq_true rfl) rfl d_Mill_make_22 rfl ?_
  refine g_astore d_Mill_make_25 (by decide) rfl ?_
  refine g_iload_n d_Mill_make_27 rfl ?_
  refine g_if_eq (tgt := 36) d_Mill_make_28 (by decide) (fun c_28 => ?_) (fun c_28 => absurd c_28 (by decide))
  refine g_bipush (v := 24) d_Mill_make_36 (by decide) ?_
  refine g_istore d_Mill_make_38 (by decide) rfl ?_
  refine g_aload_n d_Mill_make_40 rfl ?_
  refine x_get (k := 0) (j := 0) (v := .ref (a + 1)) kc_Mill fl_Mill_15 (by decide) (by decide) rfl rfl d_Mill_make_41 ?_
  refine g_iload_n d_Mill_make_44 rfl ?_
  refine g_iload_n d_Mill_make_45 rfl ?_
  refine c_Vr (as := [.int (nI X), .int (nI K)]) kv_Types_arity ml_Mill_74 rfl (x_at (k := 1) (by decide) rfl) (KA) rfl (Nat.le_of_ble_eq_true rfl) rfl d_Mill_make_46 rfl ?_
  refine g_istore d_Mill_make_49 (by decide) rfl ?_
  refine g_aload_n d_Mill_make_51 rfl ?_
  refine x_get (k := 0) (j := 0) (v := .ref (a + 1)) kc_Mill fl_Mill_15 (by decide) (by decide) rfl rfl d_Mill_make_52 ?_
  refine g_iload_n d_Mill_make_55 rfl ?_
  refine g_iload_n d_Mill_make_56 rfl ?_
  refine g_aload d_Mill_make_57 rfl ?_
  refine c_Vr (as := [.int (nI X), .int (nI K), .ref (a + 8)]) kv_Types_areArguments ml_Mill_98 rfl (x_at (k := 1) (by decide) rfl) (m_Ty_args_8 (d := d + 35) hp hz hX hK hh hok hA har rfl) rfl (Nat.le_of_ble_eq_true rfl) rfl d_Mill_make_59 rfl ?_
  refine g_if_eq (tgt := 89) d_Mill_make_62 (by decide) (fun c_62 => ?_) (fun c_62 => ?_)
  · exact absurd c_62 h1
  refine g_aload d_Mill_make_65 rfl ?_
  refine g_iload d_Mill_make_67 rfl ?_
  refine c_Vr (as := [.int (nI tp.length)]) kv_Pile_shareNames ml_Mill_102 rfl (x_at (k := 8) (by decide) rfl) (m_Y_shareNames_8 (d := d + 38) hp hz) rfl (Nat.le_of_ble_eq_true rfl) rfl d_Mill_make_69 rfl ?_
  refine g_if_ne (tgt := 89) d_Mill_make_72 (by decide) (fun c_72 => ?_) (fun c_72 => ?_)
  · exact absurd c_72 (fun e => e h2)
  refine g_aload d_Mill_make_75 rfl ?_
  refine g_iload d_Mill_make_77 rfl ?_
  refine c_Vr (as := [.int (nI tp.length)]) kv_Pile_sizeOf ml_Mill_105 rfl (x_at (k := 8) (by decide) rfl) (m_Y_sizeOf_8 (d := d + 38) hp hz) rfl (Nat.le_of_ble_eq_true rfl) rfl d_Mill_make_79 rfl ?_
  refine g_iconst (v := 1) d_Mill_make_82 (by decide) ?_
  refine g_iadd d_Mill_make_83 ?_
  refine g_iload d_Mill_make_84 rfl ?_
  refine g_icmp_le (tgt := 97) d_Mill_make_86 (by decide) (fun c_86 => ?_) (fun c_86 => ?_)
  rotate_left
  · exact absurd c_86 (fun e => e h3)
  refine g_aload_n d_Mill_make_97 rfl ?_
  refine g_aload d_Mill_make_98 rfl ?_
  have hb : ∀ y ∈ tp, zIs u a y 7 ∧ y < n := fun y ht => ⟨hz y (List.mem_append_right _ ht), (hu y (by rw [(hz y (List.mem_append_right _ ht)).1]; decide)).2⟩
  have hl40 : l0.length + tp.length ≤ 40 := by have := hp.2.1; rw [List.length_append] at this; exact this
  refine g_new kc_Term cl_Mill_82 ki_Term.1 ki_Term.2 (fs := [.int 0, .int 0, .int 0, .null, .int 0, .int 0, .int 0]) (by decide +kernel) (by show n + 1 ≤ _; omega) (by show sl + 7 ≤ _; omega) d_Mill_make_100 ?_
  refine g_dup d_Mill_make_103 rfl ?_
  refine g_iload_n d_Mill_make_104 rfl ?_
  refine g_iconst (v := 1) d_Mill_make_105 (by decide) ?_
  refine g_iload_n d_Mill_make_106 rfl ?_
  refine g_aload d_Mill_make_107 rfl ?_
  refine g_iload d_Mill_make_109 rfl ?_
  rw [gNew_x (show a + 24 ≤ (zW E G u n sl).2.1 from ha)]
  refine c_Vr (as := [.int (nI tp.length)]) kv_Pile_take ml_Mill_109 rfl (x_at (k := 8) (by decide) rfl) (m_X_take_8 (d := d + 38) (tp := tp) hp (show a + 24 ≤ n + 1 by omega) (fun y ht => ⟨Nat.lt_succ_of_lt (hb y ht).2, _, by
    rw [← gNew_x (show a + 24 ≤ (zW E G u n sl).2.1 from ha)]
    show va_up (yW E G a c u n sl).1 n _ y = _
    unfold va_up
    rw [if_neg (by have := (hb y ht).2; omega)]
    exact z_at (hb y ht).1 (by decide)⟩) (by show n + 1 + 1 ≤ _; omega) (by show sl + 7 + tp.length ≤ _; omega)) rfl (Nat.le_of_ble_eq_true rfl) rfl d_Mill_make_111 rfl ?_
  rw [← gNew_x (show a + 24 ≤ n + 1 by omega), ← gNew_x (show a + 24 ≤ (zW E G u n sl).2.1 from ha)]
  refine c_Ix (as := [.int (nI X), .int 1, .int (nI K), .ref (n + 1)]) kn_Term_init ml_Mill_84 (m_Term_init (tp := tp) (d := d + 38) (c := cF c 4 (nI l0.length)) ha (by omega) hb) rfl (Nat.le_of_ble_eq_true rfl) rfl d_Mill_make_114 rfl (fun G_8 h_8 => ?_)
  subst h_8
  have hp2 : pil (cF c 4 (nI l0.length)) 1 4 l0 := ⟨rfl, by omega, fun i t q => hp.2.2 i t (by rw [List.getElem?_append_left (List.getElem?_eq_some_iff.mp q).1]; exact q)⟩
  have hz0 : pilT u a l0 := fun t ht => hz t (List.mem_append_left _ ht)
  have hz2 : pilT (uTm u n (nI X) 1 (nI K) (szF u 1 tp) (nmF u 0 tp) tp) a l0 := fun t ht => uTm_z (hz0 t ht) (hu t (by rw [(hz0 t ht).1]; decide)).2
  refine c_Vx (as := [.ref (a + 8), .ref n]) kv_Mill_put ml_Mill_87 rfl (x_at (k := 0) (by decide) rfl) (m_M_put_8 (d := d + 38) (t := n) hp2 hz2 hl (uTm_n ha)) rfl (Nat.le_of_ble_eq_true rfl) rfl d_Mill_make_117 rfl (fun G_9 h_9 => ?_)
  obtain ⟨c', rfl, q1, q2, q3, q4, q5, q6⟩ := h_9
  exact g_iret rfl d_Mill_make_120 ⟨rfl, c', rfl, q1, q2, fun i h0 hh => (q3 i h0 hh).trans (up_ne hh), q4, q5, q6⟩
set_option maxHeartbeats 400000 in
set_option maxRecDepth 100000 in
theorem m_Y_makeF_8 (hu : uOk u a n) (ha : a + 24 ≤ n) (hc : n + 3 ≤ E.1.heap.size + room_1.cells) (hs : sl + 40 ≤ room_1.slots) (hp : pil c 1 4 (l0 ++ tp)) (hz : pilT u a (l0 ++ tp)) {X K : Nat} (hX : X < 16) (hK : K < 8) (hh : tHas (c.2.1 0) (nI X) (nI K)) (hok : tOk (c.2.1 0)) (hA : c.2.1 1 (8 * X + K) = nI tp.length) (har : tp.length ≤ 4) (h1 : ¬ arF u (c.2.1 2) tp (32 * X + 4 * K) = 0) (h2 : shF u 0 tp = 0) (h3 : szF u 0 tp + 1 ≤ 24) (hl : l0.length = 40) : GM E Y_Mill_make (d + 40) [.ref a, .int (nI X), .int (nI K), .int 0] (yW E G a c u n sl) (tIs "java/lang/IllegalStateException" (yW E G a (cF c 4 (nI l0.length)) (uTm u n (nI X) 1 (nI K) (szF u 1 tp) (nmF u 0 tp) tp) (n + 2) (sl + 7 + tp.length))) := by
  refine g_entry (by decide) (by simp [Value.category]) (Nat.le_of_ble_eq_true rfl) ?_
  have KT := m_Types_hasConstructor (E := E) (d := d + 37) (G := yW E G a c u n sl) (x_at (k := 1) (by decide) rfl) (x_at (k := 2) (by decide) rfl) (nI X) (nI K)
  rw [b32, if_pos hh] at KT
  have KA := m_Types_arity (E := E) (d := d + 36) (G := yW E G a c u n sl) (x_at (k := 1) (by decide) rfl) (x_at (k := 2) (by decide) rfl) (x_at (k := 3) (by decide) rfl) hok (nI X) (nI K)
  rw [if_pos hh, tnI (by omega), tnI (by omega), hA] at KA
  refine g_aload_n d_Mill_make_0 rfl ?_
  refine x_get (k := 0) (j := 0) (v := .ref (a + 1)) kc_Mill fl_Mill_15 (by decide) (by decide) rfl rfl d_Mill_make_1 ?_
  refine g_iload_n d_Mill_make_4 rfl ?_
  refine g_iload_n d_Mill_make_5 rfl ?_
  refine c_Vr (as := [.int (nI X), .int (nI K)]) kv_Types_hasConstructor ml_Mill_70 rfl (x_at (k := 1) (by decide) rfl) (KT) rfl (Nat.le_of_ble_eq_true rfl) rfl d_Mill_make_6 rfl ?_
  refine g_if_ne (tgt := 20) d_Mill_make_9 (by decide) (fun c_9 => ?_) (fun c_9 => absurd c_9 (by decide))
  refine g_aload_n d_Mill_make_20 rfl ?_
  refine g_iload_n d_Mill_make_21 rfl ?_
  refine c_Vr (as := [.int (0)]) kv_Mill_pileOf ml_Mill_94 rfl (x_at (k := 0) (by decide) rfl) (m_Mill_pileOf (x_at (k := 0) (by decide) rfl) 0) rfl (Nat.le_of_ble_eq_true rfl) rfl d_Mill_make_22 rfl ?_
  refine g_astore d_Mill_make_25 (by decide) rfl ?_
  refine g_iload_n d_Mill_make_27 rfl ?_
  refine g_if_eq (tgt := 36) d_Mill_make_28 (by decide) (fun c_28 => ?_) (fun c_28 => absurd c_28 (by decide))
  refine g_bipush (v := 24) d_Mill_make_36 (by decide) ?_
  refine g_istore d_Mill_make_38 (by decide) rfl ?_
  refine g_aload_n d_Mill_make_40 rfl ?_
  refine x_get (k := 0) (j := 0) (v := .ref (a + 1)) kc_Mill fl_Mill_15 (by decide) (by decide) rfl rfl d_Mill_make_41 ?_
  refine g_iload_n d_Mill_make_44 rfl ?_
  refine g_iload_n d_Mill_make_45 rfl ?_
  refine c_Vr (as := [.int (nI X), .int (nI K)]) kv_Types_arity ml_Mill_74 rfl (x_at (k := 1) (by decide) rfl) (KA) rfl (Nat.le_of_ble_eq_true rfl) rfl d_Mill_make_46 rfl ?_
  refine g_istore d_Mill_make_49 (by decide) rfl ?_
  refine g_aload_n d_Mill_make_51 rfl ?_
  refine x_get (k := 0) (j := 0) (v := .ref (a + 1)) kc_Mill fl_Mill_15 (by decide) (by decide) rfl rfl d_Mill_make_52 ?_
  refine g_iload_n d_Mill_make_55 rfl ?_
  refine g_iload_n d_Mill_make_56 rfl ?_
  refine g_aload d_Mill_make_57 rfl ?_
  refine c_Vr (as := [.int (nI X), .int (nI K), .ref (a + 8)]) kv_Types_areArguments ml_Mill_98 rfl (x_at (k := 1) (by decide) rfl) (m_Ty_args_8 (d := d + 35) hp hz hX hK hh hok hA har rfl) rfl (Nat.le_of_ble_eq_true rfl) rfl d_Mill_make_59 rfl ?_
  refine g_if_eq (tgt := 89) d_Mill_make_62 (by decide) (fun c_62 => ?_) (fun c_62 => ?_)
  · exact absurd c_62 h1
  refine g_aload d_Mill_make_65 rfl ?_
  refine g_iload d_Mill_make_67 rfl ?_
  refine c_Vr (as := [.int (nI tp.length)]) kv_Pile_shareNames ml_Mill_102 rfl (x_at (k := 8) (by decide) rfl) (m_Y_shareNames_8 (d := d + 38) hp hz) rfl (Nat.le_of_ble_eq_true rfl) rfl d_Mill_make_69 rfl ?_
  refine g_if_ne (tgt := 89) d_Mill_make_72 (by decide) (fun c_72 => ?_) (fun c_72 => ?_)
  · exact absurd c_72 (fun e => e h2)
  refine g_aload d_Mill_make_75 rfl ?_
  refine g_iload d_Mill_make_77 rfl ?_
  refine c_Vr (as := [.int (nI tp.length)]) kv_Pile_sizeOf ml_Mill_105 rfl (x_at (k := 8) (by decide) rfl) (m_Y_sizeOf_8 (d := d + 38) hp hz) rfl (Nat.le_of_ble_eq_true rfl) rfl d_Mill_make_79 rfl ?_
  refine g_iconst (v := 1) d_Mill_make_82 (by decide) ?_
  refine g_iadd d_Mill_make_83 ?_
  refine g_iload d_Mill_make_84 rfl ?_
  refine g_icmp_le (tgt := 97) d_Mill_make_86 (by decide) (fun c_86 => ?_) (fun c_86 => ?_)
  rotate_left
  · exact absurd c_86 (fun e => e h3)
  refine g_aload_n d_Mill_make_97 rfl ?_
  refine g_aload d_Mill_make_98 rfl ?_
  have hb : ∀ y ∈ tp, zIs u a y 7 ∧ y < n := fun y ht => ⟨hz y (List.mem_append_right _ ht), (hu y (by rw [(hz y (List.mem_append_right _ ht)).1]; decide)).2⟩
  have hl40 : l0.length + tp.length ≤ 40 := by have := hp.2.1; rw [List.length_append] at this; exact this
  refine g_new kc_Term cl_Mill_82 ki_Term.1 ki_Term.2 (fs := [.int 0, .int 0, .int 0, .null, .int 0, .int 0, .int 0]) (by decide +kernel) (by show n + 1 ≤ _; omega) (by show sl + 7 ≤ _; omega) d_Mill_make_100 ?_
  refine g_dup d_Mill_make_103 rfl ?_
  refine g_iload_n d_Mill_make_104 rfl ?_
  refine g_iconst (v := 1) d_Mill_make_105 (by decide) ?_
  refine g_iload_n d_Mill_make_106 rfl ?_
  refine g_aload d_Mill_make_107 rfl ?_
  refine g_iload d_Mill_make_109 rfl ?_
  rw [gNew_x (show a + 24 ≤ (zW E G u n sl).2.1 from ha)]
  refine c_Vr (as := [.int (nI tp.length)]) kv_Pile_take ml_Mill_109 rfl (x_at (k := 8) (by decide) rfl) (m_X_take_8 (d := d + 38) (tp := tp) hp (show a + 24 ≤ n + 1 by omega) (fun y ht => ⟨Nat.lt_succ_of_lt (hb y ht).2, _, by
    rw [← gNew_x (show a + 24 ≤ (zW E G u n sl).2.1 from ha)]
    show va_up (yW E G a c u n sl).1 n _ y = _
    unfold va_up
    rw [if_neg (by have := (hb y ht).2; omega)]
    exact z_at (hb y ht).1 (by decide)⟩) (by show n + 1 + 1 ≤ _; omega) (by show sl + 7 + tp.length ≤ _; omega)) rfl (Nat.le_of_ble_eq_true rfl) rfl d_Mill_make_111 rfl ?_
  rw [← gNew_x (show a + 24 ≤ n + 1 by omega), ← gNew_x (show a + 24 ≤ (zW E G u n sl).2.1 from ha)]
  refine c_Ix (as := [.int (nI X), .int 1, .int (nI K), .ref (n + 1)]) kn_Term_init ml_Mill_84 (m_Term_init (tp := tp) (d := d + 38) (c := cF c 4 (nI l0.length)) ha (by omega) hb) rfl (Nat.le_of_ble_eq_true rfl) rfl d_Mill_make_114 rfl (fun G_8 h_8 => ?_)
  subst h_8
  have hp2 : pil (cF c 4 (nI l0.length)) 1 4 l0 := ⟨rfl, by omega, fun i t q => hp.2.2 i t (by rw [List.getElem?_append_left (List.getElem?_eq_some_iff.mp q).1]; exact q)⟩
  have hz0 : pilT u a l0 := fun t ht => hz t (List.mem_append_left _ ht)
  have hz2 : pilT (uTm u n (nI X) 1 (nI K) (szF u 1 tp) (nmF u 0 tp) tp) a l0 := fun t ht => uTm_z (hz0 t ht) (hu t (by rw [(hz0 t ht).1]; decide)).2
  refine c_Vt (as := [.ref (a + 8), .ref n]) kv_Mill_put ml_Mill_87 rfl (x_at (k := 0) (by decide) rfl) (m_M_putF_8 (d := d + 29) hp2 hz2 hl ⟨by show n + 2 + 1 ≤ _; omega, by show sl + 7 + tp.length + 6 ≤ _; omega⟩) rfl (Nat.le_of_ble_eq_true rfl) rfl d_Mill_make_117 (fun G_9 h_9 => h_9)
set_option maxHeartbeats 400000 in
set_option maxRecDepth 100000 in
theorem m_Y_make0_10 (hF : gFit E (yW E G a c u n sl) 1 6) (hp : pil c 2 5 l) {X K : Nat} (hX : X < 16) (hK : K < 8) (hh : tHas (c.2.1 0) (nI X) (nI K)) (hok : tOk (c.2.1 0)) {ar : Nat} (hA : c.2.1 1 (8 * X + K) = nI ar) (har : ar ≤ 4) (hlt : l.length < ar) : GM E Y_Mill_make (d + 40) [.ref a, .int (nI X), .int (nI K), .int 1] (yW E G a c u n sl) (tIs "java/lang/IllegalStateException" (yW E G a c u n sl)) := by
  refine g_entry (by decide) (by simp [Value.category]) (Nat.le_of_ble_eq_true rfl) ?_
  have KT := m_Types_hasConstructor (E := E) (d := d + 37) (G := yW E G a c u n sl) (x_at (k := 1) (by decide) rfl) (x_at (k := 2) (by decide) rfl) (nI X) (nI K)
  rw [b32, if_pos hh] at KT
  have KA := m_Types_arity (E := E) (d := d + 36) (G := yW E G a c u n sl) (x_at (k := 1) (by decide) rfl) (x_at (k := 2) (by decide) rfl) (x_at (k := 3) (by decide) rfl) hok (nI X) (nI K)
  rw [if_pos hh, tnI (by omega), tnI (by omega), hA] at KA
  refine g_aload_n d_Mill_make_0 rfl ?_
  refine x_get (k := 0) (j := 0) (v := .ref (a + 1)) kc_Mill fl_Mill_15 (by decide) (by decide) rfl rfl d_Mill_make_1 ?_
  refine g_iload_n d_Mill_make_4 rfl ?_
  refine g_iload_n d_Mill_make_5 rfl ?_
  refine c_Vr (as := [.int (nI X), .int (nI K)]) kv_Types_hasConstructor ml_Mill_70 rfl (x_at (k := 1) (by decide) rfl) (KT) rfl (Nat.le_of_ble_eq_true rfl) rfl d_Mill_make_6 rfl ?_
  refine g_if_ne (tgt := 20) d_Mill_make_9 (by decide) (fun c_9 => ?_) (fun c_9 => absurd c_9 (by decide))
  refine g_aload_n d_Mill_make_20 rfl ?_
  refine g_iload_n d_Mill_make_21 rfl ?_
  refine c_Vr (as := [.int (1)]) kv_Mill_pileOf ml_Mill_94 rfl (x_at (k := 0) (by decide) rfl) (m_Mill_pileOf (x_at (k := 0) (by decide) rfl) 1) rfl (Nat.le_of_ble_eq_true rfl) rfl d_Mill_make_22 rfl ?_
  refine g_astore d_Mill_make_25 (by decide) rfl ?_
  refine g_iload_n d_Mill_make_27 rfl ?_
  refine g_if_eq (tgt := 36) d_Mill_make_28 (by decide) (fun c_28 => absurd c_28 (by decide)) (fun c_28 => ?_)
  refine g_bipush (v := 60) d_Mill_make_31 (by decide) ?_
  refine g_goto (tgt := 38) d_Mill_make_33 (by decide) ?_
  refine g_istore d_Mill_make_38 (by decide) rfl ?_
  refine g_aload_n d_Mill_make_40 rfl ?_
  refine x_get (k := 0) (j := 0) (v := .ref (a + 1)) kc_Mill fl_Mill_15 (by decide) (by decide) rfl rfl d_Mill_make_41 ?_
  refine g_iload_n d_Mill_make_44 rfl ?_
  refine g_iload_n d_Mill_make_45 rfl ?_
  refine c_Vr (as := [.int (nI X), .int (nI K)]) kv_Types_arity ml_Mill_74 rfl (x_at (k := 1) (by decide) rfl) (KA) rfl (Nat.le_of_ble_eq_true rfl) rfl d_Mill_make_46 rfl ?_
  refine g_istore d_Mill_make_49 (by decide) rfl ?_
  refine g_aload_n d_Mill_make_51 rfl ?_
  refine x_get (k := 0) (j := 0) (v := .ref (a + 1)) kc_Mill fl_Mill_15 (by decide) (by decide) rfl rfl d_Mill_make_52 ?_
  refine g_iload_n d_Mill_make_55 rfl ?_
  refine g_iload_n d_Mill_make_56 rfl ?_
  refine g_aload d_Mill_make_57 rfl ?_
  refine c_Vr (as := [.int (nI X), .int (nI K), .ref (a + 10)]) kv_Types_areArguments ml_Mill_98 rfl (x_at (k := 1) (by decide) rfl) (m_Ty_args0_10 (d := d + 35) hp hX hK hh hok hA har hlt) rfl (Nat.le_of_ble_eq_true rfl) rfl d_Mill_make_59 rfl ?_
  refine g_if_eq (tgt := 89) d_Mill_make_62 (by decide) (fun c_62 => ?_) (fun c_62 => absurd c_62 (by decide))
  refine g_throw (th_Mill_ISE) d_Mill_make_89 d_Mill_make_92 d_Mill_make_93 d_Mill_make_96 rfl hF.1 hF.2 (by show 2 + 3 < _; omega) (Nat.le_of_ble_eq_true rfl) ?_
  intro k z1 z2
  exact ⟨rfl, rfl, z1, z2, rfl⟩
set_option maxHeartbeats 400000 in
set_option maxRecDepth 100000 in
theorem m_Y_make1_10 (hF : gFit E (yW E G a c u n sl) 1 6) (hp : pil c 2 5 (l0 ++ tp)) (hz : pilT u a (l0 ++ tp)) {X K : Nat} (hX : X < 16) (hK : K < 8) (hh : tHas (c.2.1 0) (nI X) (nI K)) (hok : tOk (c.2.1 0)) (hA : c.2.1 1 (8 * X + K) = nI tp.length) (har : tp.length ≤ 4) (h1 : arF u (c.2.1 2) tp (32 * X + 4 * K) = 0) : GM E Y_Mill_make (d + 40) [.ref a, .int (nI X), .int (nI K), .int 1] (yW E G a c u n sl) (tIs "java/lang/IllegalStateException" (yW E G a c u n sl)) := by
  refine g_entry (by decide) (by simp [Value.category]) (Nat.le_of_ble_eq_true rfl) ?_
  have KT := m_Types_hasConstructor (E := E) (d := d + 37) (G := yW E G a c u n sl) (x_at (k := 1) (by decide) rfl) (x_at (k := 2) (by decide) rfl) (nI X) (nI K)
  rw [b32, if_pos hh] at KT
  have KA := m_Types_arity (E := E) (d := d + 36) (G := yW E G a c u n sl) (x_at (k := 1) (by decide) rfl) (x_at (k := 2) (by decide) rfl) (x_at (k := 3) (by decide) rfl) hok (nI X) (nI K)
  rw [if_pos hh, tnI (by omega), tnI (by omega), hA] at KA
  refine g_aload_n d_Mill_make_0 rfl ?_
  refine x_get (k := 0) (j := 0) (v := .ref (a + 1)) kc_Mill fl_Mill_15 (by decide) (by decide) rfl rfl d_Mill_make_1 ?_
  refine g_iload_n d_Mill_make_4 rfl ?_
  refine g_iload_n d_Mill_make_5 rfl ?_
  refine c_Vr (as := [.int (nI X), .int (nI K)]) kv_Types_hasConstructor ml_Mill_70 rfl (x_at (k := 1) (by decide) rfl) (KT) rfl (Nat.le_of_ble_eq_true rfl) rfl d_Mill_make_6 rfl ?_
  refine g_if_ne (tgt := 20) d_Mill_make_9 (by decide) (fun c_9 => ?_) (fun c_9 => absurd c_9 (by decide))
  refine g_aload_n d_Mill_make_20 rfl ?_
  refine g_iload_n d_Mill_make_21 rfl ?_
  refine c_Vr (as := [.int (1)]) kv_Mill_pileOf ml_Mill_94 rfl (x_at (k := 0) (by decide) rfl) (m_Mill_pileOf (x_at (k := 0) (by decide) rfl) 1) rfl (Nat.le_of_ble_eq_true rfl) rfl d_Mill_make_22 rfl ?_
  refine g_astore d_Mill_make_25 (by decide) rfl ?_
  refine g_iload_n d_Mill_make_27 rfl ?_
  refine g_if_eq (tgt := 36) d_Mill_make_28 (by decide) (fun c_28 => absurd c_28 (by decide)) (fun c_28 => ?_)
  refine g_bipush (v := 60) d_Mill_make_31 (by decide) ?_
  refine g_goto (tgt := 38) d_Mill_make_33 (by decide) ?_
  refine g_istore d_Mill_make_38 (by decide) rfl ?_
  refine g_aload_n d_Mill_make_40 rfl ?_
  refine x_get (k := 0) (j := 0) (v := .ref (a + 1)) kc_Mill fl_Mill_15 (by decide) (by decide) rfl rfl d_Mill_make_41 ?_
  refine g_iload_n d_Mill_make_44 rfl ?_
  refine g_iload_n d_Mill_make_45 rfl ?_
  refine c_Vr (as := [.int (nI X), .int (nI K)]) kv_Types_arity ml_Mill_74 rfl (x_at (k := 1) (by decide) rfl) (KA) rfl (Nat.le_of_ble_eq_true rfl) rfl d_Mill_make_46 rfl ?_
  refine g_istore d_Mill_make_49 (by decide) rfl ?_
  refine g_aload_n d_Mill_make_51 rfl ?_
  refine x_get (k := 0) (j := 0) (v := .ref (a + 1)) kc_Mill fl_Mill_15 (by decide) (by decide) rfl rfl d_Mill_make_52 ?_
  refine g_iload_n d_Mill_make_55 rfl ?_
  refine g_iload_n d_Mill_make_56 rfl ?_
  refine g_aload d_Mill_make_57 rfl ?_
  refine c_Vr (as := [.int (nI X), .int (nI K), .ref (a + 10)]) kv_Types_areArguments ml_Mill_98 rfl (x_at (k := 1) (by decide) rfl) (m_Ty_args_10 (d := d + 35) hp hz hX hK hh hok hA har rfl) rfl (Nat.le_of_ble_eq_true rfl) rfl d_Mill_make_59 rfl ?_
  refine g_if_eq (tgt := 89) d_Mill_make_62 (by decide) (fun c_62 => ?_) (fun c_62 => ?_)
  rotate_left
  · exact absurd c_62 (fun e => e h1)
  refine g_throw (th_Mill_ISE) d_Mill_make_89 d_Mill_make_92 d_Mill_make_93 d_Mill_make_96 rfl hF.1 hF.2 (by show 2 + 3 < _; omega) (Nat.le_of_ble_eq_true rfl) ?_
  intro k z1 z2
  exact ⟨rfl, rfl, z1, z2, rfl⟩
set_option maxHeartbeats 400000 in
set_option maxRecDepth 100000 in
theorem m_Y_make2_10 (hF : gFit E (yW E G a c u n sl) 1 6) (hp : pil c 2 5 (l0 ++ tp)) (hz : pilT u a (l0 ++ tp)) {X K : Nat} (hX : X < 16) (hK : K < 8) (hh : tHas (c.2.1 0) (nI X) (nI K)) (hok : tOk (c.2.1 0)) (hA : c.2.1 1 (8 * X + K) = nI tp.length) (har : tp.length ≤ 4) (h1 : ¬ arF u (c.2.1 2) tp (32 * X + 4 * K) = 0) (h2 : ¬ shF u 0 tp = 0) : GM E Y_Mill_make (d + 40) [.ref a, .int (nI X), .int (nI K), .int 1] (yW E G a c u n sl) (tIs "java/lang/IllegalStateException" (yW E G a c u n sl)) := by
  refine g_entry (by decide) (by simp [Value.category]) (Nat.le_of_ble_eq_true rfl) ?_
  have KT := m_Types_hasConstructor (E := E) (d := d + 37) (G := yW E G a c u n sl) (x_at (k := 1) (by decide) rfl) (x_at (k := 2) (by decide) rfl) (nI X) (nI K)
  rw [b32, if_pos hh] at KT
  have KA := m_Types_arity (E := E) (d := d + 36) (G := yW E G a c u n sl) (x_at (k := 1) (by decide) rfl) (x_at (k := 2) (by decide) rfl) (x_at (k := 3) (by decide) rfl) hok (nI X) (nI K)
  rw [if_pos hh, tnI (by omega), tnI (by omega), hA] at KA
  refine g_aload_n d_Mill_make_0 rfl ?_
  refine x_get (k := 0) (j := 0) (v := .ref (a + 1)) kc_Mill fl_Mill_15 (by decide) (by decide) rfl rfl d_Mill_make_1 ?_
  refine g_iload_n d_Mill_make_4 rfl ?_
  refine g_iload_n d_Mill_make_5 rfl ?_
  refine c_Vr (as := [.int (nI X), .int (nI K)]) kv_Types_hasConstructor ml_Mill_70 rfl (x_at (k := 1) (by decide) rfl) (KT) rfl (Nat.le_of_ble_eq_true rfl) rfl d_Mill_make_6 rfl ?_
  refine g_if_ne (tgt := 20) d_Mill_make_9 (by decide) (fun c_9 => ?_) (fun c_9 => absurd c_9 (by decide))
  refine g_aload_n d_Mill_make_20 rfl ?_
  refine g_iload_n d_Mill_make_21 rfl ?_
  refine c_Vr (as := [.int (1)]) kv_Mill_pileOf ml_Mill_94 rfl (x_at (k := 0) (by decide) rfl) (m_Mill_pileOf (x_at (k := 0) (by decide) rfl) 1) rfl (Nat.le_of_ble_eq_true rfl) rfl d_Mill_make_22 rfl ?_
  refine g_astore d_Mill_make_25 (by decide) rfl ?_
  refine g_iload_n d_Mill_make_27 rfl ?_
  refine g_if_eq (tgt := 36) d_Mill_make_28 (by decide) (fun c_28 => absurd c_28 (by decide)) (fun c_28 => ?_)
  refine g_bipush (v := 60) d_Mill_make_31 (by decide) ?_
  refine g_goto (tgt := 38) d_Mill_make_33 (by decide) ?_
  refine g_istore d_Mill_make_38 (by decide) rfl ?_
  refine g_aload_n d_Mill_make_40 rfl ?_
  refine x_get (k := 0) (j := 0) (v := .ref (a + 1)) kc_Mill fl_Mill_15 (by decide) (by decide) rfl rfl d_Mill_make_41 ?_
  refine g_iload_n d_Mill_make_44 rfl ?_
  refine g_iload_n d_Mill_make_45 rfl ?_
  refine c_Vr (as := [.int (nI X), .int (nI K)]) kv_Types_arity ml_Mill_74 rfl (x_at (k := 1) (by decide) rfl) (KA) rfl (Nat.le_of_ble_eq_true rfl) rfl d_Mill_make_46 rfl ?_
  refine g_istore d_Mill_make_49 (by decide) rfl ?_
  refine g_aload_n d_Mill_make_51 rfl ?_
  refine x_get (k := 0) (j := 0) (v := .ref (a + 1)) kc_Mill fl_Mill_15 (by decide) (by decide) rfl rfl d_Mill_make_52 ?_
  refine g_iload_n d_Mill_make_55 rfl ?_
  refine g_iload_n d_Mill_make_56 rfl ?_
  refine g_aload d_Mill_make_57 rfl ?_
  refine c_Vr (as := [.int (nI X), .int (nI K), .ref (a + 10)]) kv_Types_areArguments ml_Mill_98 rfl (x_at (k := 1) (by decide) rfl) (m_Ty_args_10 (d := d + 35) hp hz hX hK hh hok hA har rfl) rfl (Nat.le_of_ble_eq_true rfl) rfl d_Mill_make_59 rfl ?_
  refine g_if_eq (tgt := 89) d_Mill_make_62 (by decide) (fun c_62 => ?_) (fun c_62 => ?_)
  · exact absurd c_62 h1
  refine g_aload d_Mill_make_65 rfl ?_
  refine g_iload d_Mill_make_67 rfl ?_
  refine c_Vr (as := [.int (nI tp.length)]) kv_Pile_shareNames ml_Mill_102 rfl (x_at (k := 10) (by decide) rfl) (m_Y_shareNames_10 (d := d + 38) hp hz) rfl (Nat.le_of_ble_eq_true rfl) rfl d_Mill_make_69 rfl ?_
  refine g_if_ne (tgt := 89) d_Mill_make_72 (by decide) (fun c_72 => ?_) (fun c_72 => ?_)
  rotate_left
  · exact absurd c_72 h2
  refine g_throw (th_Mill_ISE) d_Mill_make_89 d_Mill_make_92 d_Mill_make_93 d_Mill_make_96 rfl hF.1 hF.2 (by show 2 + 3 < _; omega) (Nat.le_of_ble_eq_true rfl) ?_
  intro k z1 z2
  exact ⟨rfl, rfl, z1, z2, rfl⟩
set_option maxHeartbeats 400000 in
set_option maxRecDepth 100000 in
theorem m_Y_make3_10 (hF : gFit E (yW E G a c u n sl) 1 6) (hp : pil c 2 5 (l0 ++ tp)) (hz : pilT u a (l0 ++ tp)) {X K : Nat} (hX : X < 16) (hK : K < 8) (hh : tHas (c.2.1 0) (nI X) (nI K)) (hok : tOk (c.2.1 0)) (hA : c.2.1 1 (8 * X + K) = nI tp.length) (har : tp.length ≤ 4) (h1 : ¬ arF u (c.2.1 2) tp (32 * X + 4 * K) = 0) (h2 : shF u 0 tp = 0) (h3 : ¬ szF u 0 tp + 1 ≤ 60) : GM E Y_Mill_make (d + 40) [.ref a, .int (nI X), .int (nI K), .int 1] (yW E G a c u n sl) (tIs "java/lang/IllegalStateException" (yW E G a c u n sl)) := by
  refine g_entry (by decide) (by simp [Value.category]) (Nat.le_of_ble_eq_true rfl) ?_
  have KT := m_Types_hasConstructor (E := E) (d := d + 37) (G := yW E G a c u n sl) (x_at (k := 1) (by decide) rfl) (x_at (k := 2) (by decide) rfl) (nI X) (nI K)
  rw [b32, if_pos hh] at KT
  have KA := m_Types_arity (E := E) (d := d + 36) (G := yW E G a c u n sl) (x_at (k := 1) (by decide) rfl) (x_at (k := 2) (by decide) rfl) (x_at (k := 3) (by decide) rfl) hok (nI X) (nI K)
  rw [if_pos hh, tnI (by omega), tnI (by omega), hA] at KA
  refine g_aload_n d_Mill_make_0 rfl ?_
  refine x_get (k := 0) (j := 0) (v := .ref (a + 1)) kc_Mill fl_Mill_15 (by decide) (by decide) rfl rfl d_Mill_make_1 ?_
  refine g_iload_n d_Mill_make_4 rfl ?_
  refine g_iload_n d_Mill_make_5 rfl ?_
  refine c_Vr (as := [.int (nI X), .int (nI K)]) kv_Types_hasConstructor ml_Mill_70 rfl (x_at (k := 1) (by decide) rfl) (KT) rfl (Nat.le_of_ble_eq_true rfl) rfl d_Mill_make_6 rfl ?_
  refine g_if_ne (tgt := 20) d_Mill_make_9 (by decide) (fun c_9 => ?_) (fun c_9 => absurd c_9 (by decide))
  refine g_aload_n d_Mill_make_20 rfl ?_
  refine g_iload_n d_Mill_make_21 rfl ?_
  refine c_Vr (as := [.int (1)]) kv_Mill_pileOf ml_Mill_94 rfl (x_at (k := 0) (by decide) rfl) (m_Mill_pileOf (x_at (k := 0) (by decide) rfl) 1) rfl (Nat.le_of_ble_eq_true rfl) rfl d_Mill_make_22 rfl ?_
  refine g_astore d_Mill_make_25 (by decide) rfl ?_
  refine g_iload_n d_Mill_make_27 rfl ?_
  refine g_if_eq (tgt := 36) d_Mill_make_28 (by decide) (fun c_28 => absurd c_28 (by decide)) (fun c_28 => ?_)
  refine g_bipush (v := 60) d_Mill_make_31 (by decide) ?_
  refine g_goto (tgt := 38) d_Mill_make_33 (by decide) ?_
  refine g_istore d_Mill_make_38 (by decide) rfl ?_
  refine g_aload_n d_Mill_make_40 rfl ?_
  refine x_get (k := 0) (j := 0) (v := .ref (a + 1)) kc_Mill fl_Mill_15 (by decide) (by decide) rfl rfl d_Mill_make_41 ?_
  refine g_iload_n d_Mill_make_44 rfl ?_
  refine g_iload_n d_Mill_make_45 rfl ?_
  refine c_Vr (as := [.int (nI X), .int (nI K)]) kv_Types_arity ml_Mill_74 rfl (x_at (k := 1) (by decide) rfl) (KA) rfl (Nat.le_of_ble_eq_true rfl) rfl d_Mill_make_46 rfl ?_
  refine g_istore d_Mill_make_49 (by decide) rfl ?_
  refine g_aload_n d_Mill_make_51 rfl ?_
  refine x_get (k := 0) (j := 0) (v := .ref (a + 1)) kc_Mill fl_Mill_15 (by decide) (by decide) rfl rfl d_Mill_make_52 ?_
  refine g_iload_n d_Mill_make_55 rfl ?_
  refine g_iload_n d_Mill_make_56 rfl ?_
  refine g_aload d_Mill_make_57 rfl ?_
  refine c_Vr (as := [.int (nI X), .int (nI K), .ref (a + 10)]) kv_Types_areArguments ml_Mill_98 rfl (x_at (k := 1) (by decide) rfl) (m_Ty_args_10 (d := d + 35) hp hz hX hK hh hok hA har rfl) rfl (Nat.le_of_ble_eq_true rfl) rfl d_Mill_make_59 rfl ?_
  refine g_if_eq (tgt := 89) d_Mill_make_62 (by decide) (fun c_62 => ?_) (fun c_62 => ?_)
  · exact absurd c_62 h1
  refine g_aload d_Mill_make_65 rfl ?_
  refine g_iload d_Mill_make_67 rfl ?_
  refine c_Vr (as := [.int (nI tp.length)]) kv_Pile_shareNames ml_Mill_102 rfl (x_at (k := 10) (by decide) rfl) (m_Y_shareNames_10 (d := d + 38) hp hz) rfl (Nat.le_of_ble_eq_true rfl) rfl d_Mill_make_69 rfl ?_
  refine g_if_ne (tgt := 89) d_Mill_make_72 (by decide) (fun c_72 => ?_) (fun c_72 => ?_)
  · exact absurd c_72 (fun e => e h2)
  refine g_aload d_Mill_make_75 rfl ?_
  refine g_iload d_Mill_make_77 rfl ?_
  refine c_Vr (as := [.int (nI tp.length)]) kv_Pile_sizeOf ml_Mill_105 rfl (x_at (k := 10) (by decide) rfl) (m_Y_sizeOf_10 (d := d + 38) hp hz) rfl (Nat.le_of_ble_eq_true rfl) rfl d_Mill_make_79 rfl ?_
  refine g_iconst (v := 1) d_Mill_make_82 (by decide) ?_
  refine g_iadd d_Mill_make_83 ?_
  refine g_iload d_Mill_make_84 rfl ?_
  refine g_icmp_le (tgt := 97) d_Mill_make_86 (by decide) (fun c_86 => ?_) (fun c_86 => ?_)
  · exact absurd c_86 h3
  refine g_throw (th_Mill_ISE) d_Mill_make_89 d_Mill_make_92 d_Mill_make_93 d_Mill_make_96 rfl hF.1 hF.2 (by show 2 + 3 < _; omega) (Nat.le_of_ble_eq_true rfl) ?_
  intro k z1 z2
  exact ⟨rfl, rfl, z1, z2, rfl⟩
set_option maxHeartbeats 400000 in
set_option maxRecDepth 100000 in
theorem m_Y_make_10 (hu : uOk u a n) (ha : a + 24 ≤ n) (hc : n + 3 ≤ E.1.heap.size + room_1.cells) (hs : sl + 40 ≤ room_1.slots) (hp : pil c 2 5 (l0 ++ tp)) (hz : pilT u a (l0 ++ tp)) {X K : Nat} (hX : X < 16) (hK : K < 8) (hh : tHas (c.2.1 0) (nI X) (nI K)) (hok : tOk (c.2.1 0)) (hA : c.2.1 1 (8 * X + K) = nI tp.length) (har : tp.length ≤ 4) (h1 : ¬ arF u (c.2.1 2) tp (32 * X + 4 * K) = 0) (h2 : shF u 0 tp = 0) (h3 : szF u 0 tp + 1 ≤ 60) (hl : l0.length < 40) : GM E Y_Mill_make (d + 40) [.ref a, .int (nI X), .int (nI K), .int 1] (yW E G a c u n sl) (rPost (some (.int (nI (l0.length + 1)))) (fun G' => ∃ c', G' = yW E G a c' (uTm u n (nI X) 1 (nI K) (szF u 1 tp) (nmF u 0 tp) tp) (n + 2) (sl + 7 + tp.length) ∧ ptF c c' 2 5 (l0 ++ [n]))) := by
  refine g_entry (by decide) (by simp [Value.category]) (Nat.le_of_ble_eq_true rfl) ?_
  have KT := m_Types_hasConstructor (E := E) (d := d + 37) (G := yW E G a c u n sl) (x_at (k := 1) (by decide) rfl) (x_at (k := 2) (by decide) rfl) (nI X) (nI K)
  rw [b32, if_pos hh] at KT
  have KA := m_Types_arity (E := E) (d := d + 36) (G := yW E G a c u n sl) (x_at (k := 1) (by decide) rfl) (x_at (k := 2) (by decide) rfl) (x_at (k := 3) (by decide) rfl) hok (nI X) (nI K)
  rw [if_pos hh, tnI (by omega), tnI (by omega), hA] at KA
  refine g_aload_n d_Mill_make_0 rfl ?_
  refine x_get (k := 0) (j := 0) (v := .ref (a + 1)) kc_Mill fl_Mill_15 (by decide) (by decide) rfl rfl d_Mill_make_1 ?_
  refine g_iload_n d_Mill_make_4 rfl ?_
  refine g_iload_n d_Mill_make_5 rfl ?_
  refine c_Vr (as := [.int (nI X), .int (nI K)]) kv_Types_hasConstructor ml_Mill_70 rfl (x_at (k := 1) (by decide) rfl) (KT) rfl (Nat.le_of_ble_eq_true rfl) rfl d_Mill_make_6 rfl ?_
  refine g_if_ne (tgt := 20) d_Mill_make_9 (by decide) (fun c_9 => ?_) (fun c_9 => absurd c_9 (by decide))
  refine g_aload_n d_Mill_make_20 rfl ?_
  refine g_iload_n d_Mill_make_21 rfl ?_
  refine c_Vr (as := [.int (1)]) kv_Mill_pileOf ml_Mill_94 rfl (x_at (k := 0) (by decide) rfl) (m_Mill_pileOf (x_at (k := 0) (by decide) rfl) 1) rfl (Nat.le_of_ble_eq_true rfl) rfl d_Mill_make_22 rfl ?_
  refine g_astore d_Mill_make_25 (by decide) rfl ?_
  refine g_iload_n d_Mill_make_27 rfl ?_
  refine g_if_eq (tgt := 36) d_Mill_make_28 (by decide) (fun c_28 => absurd c_28 (by decide)) (fun c_28 => ?_)
  refine g_bipush (v := 60) d_Mill_make_31 (by decide) ?_
  refine g_goto (tgt := 38) d_Mill_make_33 (by decide) ?_
  refine g_istore d_Mill_make_38 (by decide) rfl ?_
  refine g_aload_n d_Mill_make_40 rfl ?_
  refine x_get (k := 0) (j := 0) (v := .ref (a + 1)) kc_Mill fl_Mill_15 (by decide) (by decide) rfl rfl d_Mill_make_41 ?_
  refine g_iload_n d_Mill_make_44 rfl ?_
  refine g_iload_n d_Mill_make_45 rfl ?_
  refine c_Vr (as := [.int (nI X), .int (nI K)]) kv_Types_arity ml_Mill_74 rfl (x_at (k := 1) (by decide) rfl) (KA) rfl (Nat.le_of_ble_eq_true rfl) rfl d_Mill_make_46 rfl ?_
  refine g_istore d_Mill_make_49 (by decide) rfl ?_
  refine g_aload_n d_Mill_make_51 rfl ?_
  refine x_get (k := 0) (j := 0) (v := .ref (a + 1)) kc_Mill fl_Mill_15 (by decide) (by decide) rfl rfl d_Mill_make_52 ?_
  refine g_iload_n d_Mill_make_55 rfl ?_
  refine g_iload_n d_Mill_make_56 rfl ?_
  refine g_aload d_Mill_make_57 rfl ?_
  refine c_Vr (as := [.int (nI X), .int (nI K), .ref (a + 10)]) kv_Types_areArguments ml_Mill_98 rfl (x_at (k := 1) (by decide) rfl) (m_Ty_args_10 (d := d + 35) hp hz hX hK hh hok hA har rfl) rfl (Nat.le_of_ble_eq_true rfl) rfl d_Mill_make_59 rfl ?_
  refine g_if_eq (tgt := 89) d_Mill_make_62 (by decide) (fun c_62 => ?_) (fun c_62 => ?_)
  · exact absurd c_62 h1
  refine g_aload d_Mill_make_65 rfl ?_
  refine g_iload d_Mill_make_67 rfl ?_
  refine c_Vr (as := [.int (nI tp.length)]) kv_Pile_shareNames ml_Mill_102 rfl (x_at (k := 10) (by decide) rfl) (m_Y_shareNames_10 (d := d + 38) hp hz) rfl (Nat.le_of_ble_eq_true rfl) rfl d_Mill_make_69 rfl ?_
  refine g_if_ne (tgt := 89) d_Mill_make_72 (by decide) (fun c_72 => ?_) (fun c_72 => ?_)
  · exact absurd c_72 (fun e => e h2)
  refine g_aload d_Mill_make_75 rfl ?_
  refine g_iload d_Mill_make_77 rfl ?_
  refine c_Vr (as := [.int (nI tp.length)]) kv_Pile_sizeOf ml_Mill_105 rfl (x_at (k := 10) (by decide) rfl) (m_Y_sizeOf_10 (d := d + 38) hp hz) rfl (Nat.le_of_ble_eq_true rfl) rfl d_Mill_make_79 rfl ?_
  refine g_iconst (v := 1) d_Mill_make_82 (by decide) ?_
  refine g_iadd d_Mill_make_83 ?_
  refine g_iload d_Mill_make_84 rfl ?_
  refine g_icmp_le (tgt := 97) d_Mill_make_86 (by decide) (fun c_86 => ?_) (fun c_86 => ?_)
  rotate_left
  · exact absurd c_86 (fun e => e h3)
  refine g_aload_n d_Mill_make_97 rfl ?_
  refine g_aload d_Mill_make_98 rfl ?_
  have hb : ∀ y ∈ tp, zIs u a y 7 ∧ y < n := fun y ht => ⟨hz y (List.mem_append_right _ ht), (hu y (by rw [(hz y (List.mem_append_right _ ht)).1]; decide)).2⟩
  have hl40 : l0.length + tp.length ≤ 40 := by have := hp.2.1; rw [List.length_append] at this; exact this
  refine g_new kc_Term cl_Mill_82 ki_Term.1 ki_Term.2 (fs := [.int 0, .int 0, .int 0, .null, .int 0, .int 0, .int 0]) (by decide +kernel) (by show n + 1 ≤ _; omega) (by show sl + 7 ≤ _; omega) d_Mill_make_100 ?_
  refine g_dup d_Mill_make_103 rfl ?_
  refine g_iload_n d_Mill_make_104 rfl ?_
  refine g_iconst (v := 1) d_Mill_make_105 (by decide) ?_
  refine g_iload_n d_Mill_make_106 rfl ?_
  refine g_aload d_Mill_make_107 rfl ?_
  refine g_iload d_Mill_make_109 rfl ?_
  rw [gNew_x (show a + 24 ≤ (zW E G u n sl).2.1 from ha)]
  refine c_Vr (as := [.int (nI tp.length)]) kv_Pile_take ml_Mill_109 rfl (x_at (k := 10) (by decide) rfl) (m_X_take_10 (d := d + 38) (tp := tp) hp (show a + 24 ≤ n + 1 by omega) (fun y ht => ⟨Nat.lt_succ_of_lt (hb y ht).2, _, by
    rw [← gNew_x (show a + 24 ≤ (zW E G u n sl).2.1 from ha)]
    show va_up (yW E G a c u n sl).1 n _ y = _
    unfold va_up
    rw [if_neg (by have := (hb y ht).2; omega)]
    exact z_at (hb y ht).1 (by decide)⟩) (by show n + 1 + 1 ≤ _; omega) (by show sl + 7 + tp.length ≤ _; omega)) rfl (Nat.le_of_ble_eq_true rfl) rfl d_Mill_make_111 rfl ?_
  rw [← gNew_x (show a + 24 ≤ n + 1 by omega), ← gNew_x (show a + 24 ≤ (zW E G u n sl).2.1 from ha)]
  refine c_Ix (as := [.int (nI X), .int 1, .int (nI K), .ref (n + 1)]) kn_Term_init ml_Mill_84 (m_Term_init (tp := tp) (d := d + 38) (c := cF c 5 (nI l0.length)) ha (by omega) hb) rfl (Nat.le_of_ble_eq_true rfl) rfl d_Mill_make_114 rfl (fun G_8 h_8 => ?_)
  subst h_8
  have hp2 : pil (cF c 5 (nI l0.length)) 2 5 l0 := ⟨rfl, by omega, fun i t q => hp.2.2 i t (by rw [List.getElem?_append_left (List.getElem?_eq_some_iff.mp q).1]; exact q)⟩
  have hz0 : pilT u a l0 := fun t ht => hz t (List.mem_append_left _ ht)
  have hz2 : pilT (uTm u n (nI X) 1 (nI K) (szF u 1 tp) (nmF u 0 tp) tp) a l0 := fun t ht => uTm_z (hz0 t ht) (hu t (by rw [(hz0 t ht).1]; decide)).2
  refine c_Vx (as := [.ref (a + 10), .ref n]) kv_Mill_put ml_Mill_87 rfl (x_at (k := 0) (by decide) rfl) (m_M_put_10 (d := d + 38) (t := n) hp2 hz2 hl (uTm_n ha)) rfl (Nat.le_of_ble_eq_true rfl) rfl d_Mill_make_117 rfl (fun G_9 h_9 => ?_)
  obtain ⟨c', rfl, q1, q2, q3, q4, q5, q6⟩ := h_9
  exact g_iret rfl d_Mill_make_120 ⟨rfl, c', rfl, q1, q2, fun i h0 hh => (q3 i h0 hh).trans (up_ne hh), q4, q5, q6⟩
set_option maxHeartbeats 400000 in
set_option maxRecDepth 100000 in
theorem m_Y_makeF_10 (hu : uOk u a n) (ha : a + 24 ≤ n) (hc : n + 3 ≤ E.1.heap.size + room_1.cells) (hs : sl + 40 ≤ room_1.slots) (hp : pil c 2 5 (l0 ++ tp)) (hz : pilT u a (l0 ++ tp)) {X K : Nat} (hX : X < 16) (hK : K < 8) (hh : tHas (c.2.1 0) (nI X) (nI K)) (hok : tOk (c.2.1 0)) (hA : c.2.1 1 (8 * X + K) = nI tp.length) (har : tp.length ≤ 4) (h1 : ¬ arF u (c.2.1 2) tp (32 * X + 4 * K) = 0) (h2 : shF u 0 tp = 0) (h3 : szF u 0 tp + 1 ≤ 60) (hl : l0.length = 40) : GM E Y_Mill_make (d + 40) [.ref a, .int (nI X), .int (nI K), .int 1] (yW E G a c u n sl) (tIs "java/lang/IllegalStateException" (yW E G a (cF c 5 (nI l0.length)) (uTm u n (nI X) 1 (nI K) (szF u 1 tp) (nmF u 0 tp) tp) (n + 2) (sl + 7 + tp.length))) := by
  refine g_entry (by decide) (by simp [Value.category]) (Nat.le_of_ble_eq_true rfl) ?_
  have KT := m_Types_hasConstructor (E := E) (d := d + 37) (G := yW E G a c u n sl) (x_at (k := 1) (by decide) rfl) (x_at (k := 2) (by decide) rfl) (nI X) (nI K)
  rw [b32, if_pos hh] at KT
  have KA := m_Types_arity (E := E) (d := d + 36) (G := yW E G a c u n sl) (x_at (k := 1) (by decide) rfl) (x_at (k := 2) (by decide) rfl) (x_at (k := 3) (by decide) rfl) hok (nI X) (nI K)
  rw [if_pos hh, tnI (by omega), tnI (by omega), hA] at KA
  refine g_aload_n d_Mill_make_0 rfl ?_
  refine x_get (k := 0) (j := 0) (v := .ref (a + 1)) kc_Mill fl_Mill_15 (by decide) (by decide) rfl rfl d_Mill_make_1 ?_
  refine g_iload_n d_Mill_make_4 rfl ?_
  refine g_iload_n d_Mill_make_5 rfl ?_
  refine c_Vr (as := [.int (nI X), .int (nI K)]) kv_Types_hasConstructor ml_Mill_70 rfl (x_at (k := 1) (by decide) rfl) (KT) rfl (Nat.le_of_ble_eq_true rfl) rfl d_Mill_make_6 rfl ?_
  refine g_if_ne (tgt := 20) d_Mill_make_9 (by decide) (fun c_9 => ?_) (fun c_9 => absurd c_9 (by decide))
  refine g_aload_n d_Mill_make_20 rfl ?_
  refine g_iload_n d_Mill_make_21 rfl ?_
  refine c_Vr (as := [.int (1)]) kv_Mill_pileOf ml_Mill_94 rfl (x_at (k := 0) (by decide) rfl) (m_Mill_pileOf (x_at (k := 0) (by decide) rfl) 1) rfl (Nat.le_of_ble_eq_true rfl) rfl d_Mill_make_22 rfl ?_
  refine g_astore d_Mill_make_25 (by decide) rfl ?_
  refine g_iload_n d_Mill_make_27 rfl ?_
  refine g_if_eq (tgt := 36) d_Mill_make_28 (by decide) (fun c_28 => absurd c_28 (by decide)) (fun c_28 => ?_)
  refine g_bipush (v := 60) d_Mill_make_31 (by decide) ?_
  refine g_goto (tgt := 38) d_Mill_make_33 (by decide) ?_
  refine g_istore d_Mill_make_38 (by decide) rfl ?_
  refine g_aload_n d_Mill_make_40 rfl ?_
  refine x_get (k := 0) (j := 0) (v := .ref (a + 1)) kc_Mill fl_Mill_15 (by decide) (by decide) rfl rfl d_Mill_make_41 ?_
  refine g_iload_n d_Mill_make_44 rfl ?_
  refine g_iload_n d_Mill_make_45 rfl ?_
  refine c_Vr (as := [.int (nI X), .int (nI K)]) kv_Types_arity ml_Mill_74 rfl (x_at (k := 1) (by decide) rfl) (KA) rfl (Nat.le_of_ble_eq_true rfl) rfl d_Mill_make_46 rfl ?_
  refine g_istore d_Mill_make_49 (by decide) rfl ?_
  refine g_aload_n d_Mill_make_51 rfl ?_
  refine x_get (k := 0) (j := 0) (v := .ref (a + 1)) kc_Mill fl_Mill_15 (by decide) (by decide) rfl rfl d_Mill_make_52 ?_
  refine g_iload_n d_Mill_make_55 rfl ?_
  refine g_iload_n d_Mill_make_56 rfl ?_
  refine g_aload d_Mill_make_57 rfl ?_
  refine c_Vr (as := [.int (nI X), .int (nI K), .ref (a + 10)]) kv_Types_areArguments ml_Mill_98 rfl (x_at (k := 1) (by decide) rfl) (m_Ty_args_10 (d := d + 35) hp hz hX hK hh hok hA har rfl) rfl (Nat.le_of_ble_eq_true rfl) rfl d_Mill_make_59 rfl ?_
  refine g_if_eq (tgt := 89) d_Mill_make_62 (by decide) (fun c_62 => ?_) (fun c_62 => ?_)
  · exact absurd c_62 h1
  refine g_aload d_Mill_make_65 rfl ?_
  refine g_iload d_Mill_make_67 rfl ?_
  refine c_Vr (as := [.int (nI tp.length)]) kv_Pile_shareNames ml_Mill_102 rfl (x_at (k := 10) (by decide) rfl) (m_Y_shareNames_10 (d := d + 38) hp hz) rfl (Nat.le_of_ble_eq_true rfl) rfl d_Mill_make_69 rfl ?_
  refine g_if_ne (tgt := 89) d_Mill_make_72 (by decide) (fun c_72 => ?_) (fun c_72 => ?_)
  · exact absurd c_72 (fun e => e h2)
  refine g_aload d_Mill_make_75 rfl ?_
  refine g_iload d_Mill_make_77 rfl ?_
  refine c_Vr (as := [.int (nI tp.length)]) kv_Pile_sizeOf ml_Mill_105 rfl (x_at (k := 10) (by decide) rfl) (m_Y_sizeOf_10 (d := d + 38) hp hz) rfl (Nat.le_of_ble_eq_true rfl) rfl d_Mill_make_79 rfl ?_
  refine g_iconst (v := 1) d_Mill_make_82 (by decide) ?_
  refine g_iadd d_Mill_make_83 ?_
  refine g_iload d_Mill_make_84 rfl ?_
  refine g_icmp_le (tgt := 97) d_Mill_make_86 (by decide) (fun c_86 => ?_) (fun c_86 => ?_)
  rotate_left
  · exact absurd c_86 (fun e => e h3)
  refine g_aload_n d_Mill_make_97 rfl ?_
  refine g_aload d_Mill_make_98 rfl ?_
  have hb : ∀ y ∈ tp, zIs u a y 7 ∧ y < n := fun y ht => ⟨hz y (List.mem_append_right _ ht), (hu y (by rw [(hz y (List.mem_append_right _ ht)).1]; decide)).2⟩
  have hl40 : l0.length + tp.length ≤ 40 := by have := hp.2.1; rw [List.length_append] at this; exact this
  refine g_new kc_Term cl_Mill_82 ki_Term.1 ki_Term.2 (fs := [.int 0, .int 0, .int 0, .null, .int 0, .int 0, .int 0]) (by decide +kernel) (by show n + 1 ≤ _; omega) (by show sl + 7 ≤ _; omega) d_Mill_make_100 ?_
  refine g_dup d_Mill_make_103 rfl ?_
  refine g_iload_n d_Mill_make_104 rfl ?_
  refine g_iconst (v := 1) d_Mill_make_105 (by decide) ?_
  refine g_iload_n d_Mill_make_106 rfl ?_
  refine g_aload d_Mill_make_107 rfl ?_
  refine g_iload d_Mill_make_109 rfl ?_
  rw [gNew_x (show a + 24 ≤ (zW E G u n sl).2.1 from ha)]
  refine c_Vr (as := [.int (nI tp.length)]) kv_Pile_take ml_Mill_109 rfl (x_at (k := 10) (by decide) rfl) (m_X_take_10 (d := d + 38) (tp := tp) hp (show a + 24 ≤ n + 1 by omega) (fun y ht => ⟨Nat.lt_succ_of_lt (hb y ht).2, _, by
    rw [← gNew_x (show a + 24 ≤ (zW E G u n sl).2.1 from ha)]
    show va_up (yW E G a c u n sl).1 n _ y = _
    unfold va_up
    rw [if_neg (by have := (hb y ht).2; omega)]
    exact z_at (hb y ht).1 (by decide)⟩) (by show n + 1 + 1 ≤ _; omega) (by show sl + 7 + tp.length ≤ _; omega)) rfl (Nat.le_of_ble_eq_true rfl) rfl d_Mill_make_111 rfl ?_
  rw [← gNew_x (show a + 24 ≤ n + 1 by omega), ← gNew_x (show a + 24 ≤ (zW E G u n sl).2.1 from ha)]
  refine c_Ix (as := [.int (nI X), .int 1, .int (nI K), .ref (n + 1)]) kn_Term_init ml_Mill_84 (m_Term_init (tp := tp) (d := d + 38) (c := cF c 5 (nI l0.length)) ha (by omega) hb) rfl (Nat.le_of_ble_eq_true rfl) rfl d_Mill_make_114 rfl (fun G_8 h_8 => ?_)
  subst h_8
  have hp2 : pil (cF c 5 (nI l0.length)) 2 5 l0 := ⟨rfl, by omega, fun i t q => hp.2.2 i t (by rw [List.getElem?_append_left (List.getElem?_eq_some_iff.mp q).1]; exact q)⟩
  have hz0 : pilT u a l0 := fun t ht => hz t (List.mem_append_left _ ht)
  have hz2 : pilT (uTm u n (nI X) 1 (nI K) (szF u 1 tp) (nmF u 0 tp) tp) a l0 := fun t ht => uTm_z (hz0 t ht) (hu t (by rw [(hz0 t ht).1]; decide)).2
  refine c_Vt (as := [.ref (a + 10), .ref n]) kv_Mill_put ml_Mill_87 rfl (x_at (k := 0) (by decide) rfl) (m_M_putF_10 (d := d + 29) hp2 hz2 hl ⟨by show n + 2 + 1 ≤ _; omega, by show sl + 7 + tp.length + 6 ≤ _; omega⟩) rfl (Nat.le_of_ble_eq_true rfl) rfl d_Mill_make_117 (fun G_9 h_9 => h_9)
theorem ige2 {x : Nat} (hx : x < 2 ^ 31) (h : 2 ≤ x) : ¬ nI x < 2 := by
  rw [lt_hi (nI_hi hx) (show (2 : Int32).toInt = ((2 : Nat) : Int) by decide)]
  omega
set_option maxHeartbeats 400000 in
set_option maxRecDepth 100000 in
theorem m_Y_either1 (hF : gFit E (yW E G a c u n sl) 1 6) {s t : Nat} (hp : pil c 1 4 (l0 ++ [s, t])) (hz : pilT u a (l0 ++ [s, t])) (h1 : ¬ (u.2.2.1 t 0 = u.2.2.1 s 0 ∧ u.2.2.1 t 6 = u.2.2.1 s 6)) : GM E Y_Mill_either (d + 40) [.ref a] (yW E G a c u n sl) (tIs "java/lang/IllegalStateException" (yW E G a c u n sl)) := by
  refine g_entry (by decide) (by simp [Value.category]) (Nat.le_of_ble_eq_true rfl) ?_
  have h40 := hp.2.1
  have hlen : (l0 ++ [s, t]).length = l0.length + 2 := by simp
  have KL := m_Y_alike (E := E) (d := d + 38) (G := G) (n := n) (sl := sl) hp hz
  have KS := m_Y_sizeOf_8 (E := E) (d := d + 38) (G := G) (n := n) (sl := sl) hp hz
  rw [show nI [s, t].length = 2 from rfl] at KS
  refine g_aload_n d_Mill_either_0 rfl ?_
  refine x_get (k := 0) (j := 1) (v := .ref (a + 8)) kc_Mill fl_Mill_26 (by decide) (by decide) rfl rfl d_Mill_either_1 ?_
  refine c_Vr (as := []) kv_Pile_height ml_Mill_113 rfl (x_at (k := 8) (by decide) rfl) (m_X_height_8) rfl (Nat.le_of_ble_eq_true rfl) rfl d_Mill_either_4 rfl ?_
  refine g_iconst (v := 2) d_Mill_either_7 (by decide) ?_
  refine g_icmp_lt (tgt := 37) d_Mill_either_8 (by decide) (fun c_8 => ?_) (fun c_8 => ?_)
  · exact absurd c_8 (by rw [hp.1]; exact ige2 (by omega) (by omega))
  refine g_aload_n d_Mill_either_11 rfl ?_
  refine x_get (k := 0) (j := 1) (v := .ref (a + 8)) kc_Mill fl_Mill_26 (by decide) (by decide) rfl rfl d_Mill_either_12 ?_
  refine g_iconst (v := 2) d_Mill_either_15 (by decide) ?_
  refine c_Vr (as := [.int (2)]) kv_Pile_areAlike ml_Mill_117 rfl (x_at (k := 8) (by decide) rfl) (KL) rfl (Nat.le_of_ble_eq_true rfl) rfl d_Mill_either_16 rfl ?_
  refine g_if_eq (tgt := 37) d_Mill_either_19 (by decide) (fun c_19 => ?_) (fun c_19 => ?_)
  rotate_left
  · exact absurd c_19 (fun e => e (by rw [if_neg h1]))
  refine g_throw (th_Mill_ISE) d_Mill_either_37 d_Mill_either_40 d_Mill_either_41 d_Mill_either_44 rfl hF.1 hF.2 (by show 2 + 3 < _; omega) (Nat.le_of_ble_eq_true rfl) ?_
  intro k z1 z2
  exact ⟨rfl, rfl, z1, z2, rfl⟩
set_option maxHeartbeats 400000 in
set_option maxRecDepth 100000 in
theorem m_Y_either2 (hF : gFit E (yW E G a c u n sl) 1 6) {s t : Nat} (hp : pil c 1 4 (l0 ++ [s, t])) (hz : pilT u a (l0 ++ [s, t])) (h1 : u.2.2.1 t 0 = u.2.2.1 s 0 ∧ u.2.2.1 t 6 = u.2.2.1 s 6) (h2 : ¬ szF u 0 [s, t] + 1 ≤ 24) : GM E Y_Mill_either (d + 40) [.ref a] (yW E G a c u n sl) (tIs "java/lang/IllegalStateException" (yW E G a c u n sl)) := by
  refine g_entry (by decide) (by simp [Value.category]) (Nat.le_of_ble_eq_true rfl) ?_
  have h40 := hp.2.1
  have hlen : (l0 ++ [s, t]).length = l0.length + 2 := by simp
  have KL := m_Y_alike (E := E) (d := d + 38) (G := G) (n := n) (sl := sl) hp hz
  have KS := m_Y_sizeOf_8 (E := E) (d := d + 38) (G := G) (n := n) (sl := sl) hp hz
  rw [show nI [s, t].length = 2 from rfl] at KS
  refine g_aload_n d_Mill_either_0 rfl ?_
  refine x_get (k := 0) (j := 1) (v := .ref (a + 8)) kc_Mill fl_Mill_26 (by decide) (by decide) rfl rfl d_Mill_either_1 ?_
  refine c_Vr (as := []) kv_Pile_height ml_Mill_113 rfl (x_at (k := 8) (by decide) rfl) (m_X_height_8) rfl (Nat.le_of_ble_eq_true rfl) rfl d_Mill_either_4 rfl ?_
  refine g_iconst (v := 2) d_Mill_either_7 (by decide) ?_
  refine g_icmp_lt (tgt := 37) d_Mill_either_8 (by decide) (fun c_8 => ?_) (fun c_8 => ?_)
  · exact absurd c_8 (by rw [hp.1]; exact ige2 (by omega) (by omega))
  refine g_aload_n d_Mill_either_11 rfl ?_
  refine x_get (k := 0) (j := 1) (v := .ref (a + 8)) kc_Mill fl_Mill_26 (by decide) (by decide) rfl rfl d_Mill_either_12 ?_
  refine g_iconst (v := 2) d_Mill_either_15 (by decide) ?_
  refine c_Vr (as := [.int (2)]) kv_Pile_areAlike ml_Mill_117 rfl (x_at (k := 8) (by decide) rfl) (KL) rfl (Nat.le_of_ble_eq_true rfl) rfl d_Mill_either_16 rfl ?_
  refine g_if_eq (tgt := 37) d_Mill_either_19 (by decide) (fun c_19 => ?_) (fun c_19 => ?_)
  · exact absurd c_19 (by rw [if_pos h1]; decide)
  refine g_aload_n d_Mill_either_22 rfl ?_
  refine x_get (k := 0) (j := 1) (v := .ref (a + 8)) kc_Mill fl_Mill_26 (by decide) (by decide) rfl rfl d_Mill_either_23 ?_
  refine g_iconst (v := 2) d_Mill_either_26 (by decide) ?_
  refine c_Vr (as := [.int (2)]) kv_Pile_sizeOf ml_Mill_105 rfl (x_at (k := 8) (by decide) rfl) (KS) rfl (Nat.le_of_ble_eq_true rfl) rfl d_Mill_either_27 rfl ?_
  refine g_iconst (v := 1) d_Mill_either_30 (by decide) ?_
  refine g_iadd d_Mill_either_31 ?_
  refine g_bipush (v := 24) d_Mill_either_32 (by decide) ?_
  refine g_icmp_le (tgt := 45) d_Mill_either_34 (by decide) (fun c_34 => ?_) (fun c_34 => ?_)
  · exact absurd c_34 h2
  refine g_throw (th_Mill_ISE) d_Mill_either_37 d_Mill_either_40 d_Mill_either_41 d_Mill_either_44 rfl hF.1 hF.2 (by show 2 + 3 < _; omega) (Nat.le_of_ble_eq_true rfl) ?_
  intro k z1 z2
  exact ⟨rfl, rfl, z1, z2, rfl⟩
set_option maxHeartbeats 400000 in
set_option maxRecDepth 100000 in
theorem m_Y_either (hu : uOk u a n) (ha : a + 24 ≤ n) (hc : n + 3 ≤ E.1.heap.size + room_1.cells) (hs : sl + 40 ≤ room_1.slots) {s t : Nat} (hp : pil c 1 4 (l0 ++ [s, t])) (hz : pilT u a (l0 ++ [s, t])) (h1 : u.2.2.1 t 0 = u.2.2.1 s 0 ∧ u.2.2.1 t 6 = u.2.2.1 s 6) (h2 : szF u 0 [s, t] + 1 ≤ 24) : GM E Y_Mill_either (d + 40) [.ref a] (yW E G a c u n sl) (rPost (some (.int (nI (l0.length + 1)))) (fun G' => ∃ c', G' = yW E G a c' (uTm u n (u.2.2.1 t 0) 3 0 (szF u 1 [s, t]) (nmF u 0 [s, t]) [s, t]) (n + 2) (sl + 7 + 2) ∧ ptF c c' 1 4 (l0 ++ [n]))) := by
  refine g_entry (by decide) (by simp [Value.category]) (Nat.le_of_ble_eq_true rfl) ?_
  have h40 := hp.2.1
  have hlen : (l0 ++ [s, t]).length = l0.length + 2 := by simp
  have KL := m_Y_alike (E := E) (d := d + 38) (G := G) (n := n) (sl := sl) hp hz
  have KS := m_Y_sizeOf_8 (E := E) (d := d + 38) (G := G) (n := n) (sl := sl) hp hz
  rw [show nI [s, t].length = 2 from rfl] at KS
  have hl : l0.length < 40 := by omega
  have KY := m_Y_type_8 (E := E) (d := d + 38) (G := G) (c := c) (n := n) (sl := sl) hp hz (k := 0) (t := t) (by omega) (by rw [hlen]; simp)
  refine g_aload_n d_Mill_either_0 rfl ?_
  refine x_get (k := 0) (j := 1) (v := .ref (a + 8)) kc_Mill fl_Mill_26 (by decide) (by decide) rfl rfl d_Mill_either_1 ?_
  refine c_Vr (as := []) kv_Pile_height ml_Mill_113 rfl (x_at (k := 8) (by decide) rfl) (m_X_height_8) rfl (Nat.le_of_ble_eq_true rfl) rfl d_Mill_either_4 rfl ?_
  refine g_iconst (v := 2) d_Mill_either_7 (by decide) ?_
  refine g_icmp_lt (tgt := 37) d_Mill_either_8 (by decide) (fun c_8 => ?_) (fun c_8 => ?_)
  · exact absurd c_8 (by rw [hp.1]; exact ige2 (by omega) (by omega))
  refine g_aload_n d_Mill_either_11 rfl ?_
  refine x_get (k := 0) (j := 1) (v := .ref (a + 8)) kc_Mill fl_Mill_26 (by decide) (by decide) rfl rfl d_Mill_either_12 ?_
  refine g_iconst (v := 2) d_Mill_either_15 (by decide) ?_
  refine c_Vr (as := [.int (2)]) kv_Pile_areAlike ml_Mill_117 rfl (x_at (k := 8) (by decide) rfl) (KL) rfl (Nat.le_of_ble_eq_true rfl) rfl d_Mill_either_16 rfl ?_
  refine g_if_eq (tgt := 37) d_Mill_either_19 (by decide) (fun c_19 => ?_) (fun c_19 => ?_)
  · exact absurd c_19 (by rw [if_pos h1]; decide)
  refine g_aload_n d_Mill_either_22 rfl ?_
  refine x_get (k := 0) (j := 1) (v := .ref (a + 8)) kc_Mill fl_Mill_26 (by decide) (by decide) rfl rfl d_Mill_either_23 ?_
  refine g_iconst (v := 2) d_Mill_either_26 (by decide) ?_
  refine c_Vr (as := [.int (2)]) kv_Pile_sizeOf ml_Mill_105 rfl (x_at (k := 8) (by decide) rfl) (KS) rfl (Nat.le_of_ble_eq_true rfl) rfl d_Mill_either_27 rfl ?_
  refine g_iconst (v := 1) d_Mill_either_30 (by decide) ?_
  refine g_iadd d_Mill_either_31 ?_
  refine g_bipush (v := 24) d_Mill_either_32 (by decide) ?_
  refine g_icmp_le (tgt := 45) d_Mill_either_34 (by decide) (fun c_34 => ?_) (fun c_34 => ?_)
  rotate_left
  · exact absurd c_34 (fun e => e h2)
  refine g_aload_n d_Mill_either_45 rfl ?_
  refine x_get (k := 0) (j := 1) (v := .ref (a + 8)) kc_Mill fl_Mill_26 (by decide) (by decide) rfl rfl d_Mill_either_46 ?_
  refine g_iconst (v := 0) d_Mill_either_49 (by decide) ?_
  refine c_Vr (as := [.int (0)]) kv_Pile_typeAt ml_Mill_120 rfl (x_at (k := 8) (by decide) rfl) (KY) rfl (Nat.le_of_ble_eq_true rfl) rfl d_Mill_either_50 rfl ?_
  refine g_istore_n d_Mill_either_53 (by decide) rfl ?_
  refine g_aload_n d_Mill_either_54 rfl ?_
  refine g_aload_n d_Mill_either_55 rfl ?_
  refine x_get (k := 0) (j := 1) (v := .ref (a + 8)) kc_Mill fl_Mill_26 (by decide) (by decide) rfl rfl d_Mill_either_56 ?_
  have hb : ∀ y ∈ [s, t], zIs u a y 7 ∧ y < n := fun y ht => ⟨hz y (List.mem_append_right _ ht), (hu y (by rw [(hz y (List.mem_append_right _ ht)).1]; decide)).2⟩
  have hl40 : l0.length + 2 ≤ 40 := by omega
  refine g_new kc_Term cl_Mill_82 ki_Term.1 ki_Term.2 (fs := [.int 0, .int 0, .int 0, .null, .int 0, .int 0, .int 0]) (by decide +kernel) (by show n + 1 ≤ _; omega) (by show sl + 7 ≤ _; omega) d_Mill_either_59 ?_
  refine g_dup d_Mill_either_62 rfl ?_
  refine g_iload_n d_Mill_either_63 rfl ?_
  refine g_iconst (v := 3) d_Mill_either_64 (by decide) ?_
  refine g_iconst (v := 0) d_Mill_either_65 (by decide) ?_
  refine g_aload_n d_Mill_either_66 rfl ?_
  rw [gNew_x (show a + 24 ≤ (zW E G u n sl).2.1 from ha)]
  refine x_get (k := 0) (j := 1) (v := .ref (a + 8)) kc_Mill fl_Mill_26 (by decide) (by decide) rfl rfl d_Mill_either_67 ?_
  refine g_iconst (v := 2) d_Mill_either_70 (by decide) ?_
  refine c_Vr (as := [.int 2]) kv_Pile_take ml_Mill_109 rfl (x_at (k := 8) (by decide) rfl) (m_X_take_8 (d := d + 38) (tp := [s, t]) hp (show a + 24 ≤ n + 1 by omega) (fun y ht => ⟨Nat.lt_succ_of_lt (hb y ht).2, _, by
    rw [← gNew_x (show a + 24 ≤ (zW E G u n sl).2.1 from ha)]
    show va_up (yW E G a c u n sl).1 n _ y = _
    unfold va_up
    rw [if_neg (by have := (hb y ht).2; omega)]
    exact z_at (hb y ht).1 (by decide)⟩) (by show n + 1 + 1 ≤ _; omega) (by show sl + 7 + 2 ≤ _; omega)) rfl (Nat.le_of_ble_eq_true rfl) rfl d_Mill_either_71 rfl ?_
  rw [← gNew_x (show a + 24 ≤ n + 1 by omega), ← gNew_x (show a + 24 ≤ (zW E G u n sl).2.1 from ha)]
  refine c_Ix (as := [.int (u.2.2.1 t 0), .int 3, .int 0, .ref (n + 1)]) kn_Term_init ml_Mill_84 (m_Term_init (tp := [s, t]) (d := d + 38) (c := cF c 4 (nI l0.length)) ha (by simp) hb) rfl (Nat.le_of_ble_eq_true rfl) rfl d_Mill_either_74 rfl (fun G_8 h_8 => ?_)
  subst h_8
  have hp2 : pil (cF c 4 (nI l0.length)) 1 4 l0 := ⟨rfl, by omega, fun i t q => hp.2.2 i t (by rw [List.getElem?_append_left (List.getElem?_eq_some_iff.mp q).1]; exact q)⟩
  have hz0 : pilT u a l0 := fun t ht => hz t (List.mem_append_left _ ht)
  have hz2 : pilT (uTm u n (u.2.2.1 t 0) 3 0 (szF u 1 [s, t]) (nmF u 0 [s, t]) [s, t]) a l0 := fun t ht => uTm_z (hz0 t ht) (hu t (by rw [(hz0 t ht).1]; decide)).2
  refine c_Vx (as := [.ref (a + 8), .ref n]) kv_Mill_put ml_Mill_87 rfl (x_at (k := 0) (by decide) rfl) (m_M_put_8 (d := d + 38) (t := n) hp2 hz2 hl (uTm_n ha)) rfl (Nat.le_of_ble_eq_true rfl) rfl d_Mill_either_77 rfl (fun G_9 h_9 => ?_)
  obtain ⟨c', rfl, q1, q2, q3, q4, q5, q6⟩ := h_9
  exact g_iret rfl d_Mill_either_80 ⟨rfl, c', rfl, q1, q2, fun i h0 hh => (q3 i h0 hh).trans (up_ne hh), q4, q5, q6⟩
end DC
