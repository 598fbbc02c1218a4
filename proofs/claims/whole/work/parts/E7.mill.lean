/-! Mill: name, pop, addCase, argument, unused, question, bound, clear -/
section DD
variable {E : gE} {d : Nat} {G G0 G1 : gS} {a B SS : Nat} {c c' c0 c1 : cS} {u u' u2 u0 : uS} {n n' n2 n1 sl sl' sl2 : Nat} {Q : gO → gS → Prop} {tp l l0 ks sp ps qs ms : List Nat}
theorem top_1 {t : Nat} : (l0 ++ [t])[(l0 ++ [t]).length - 1 - 0]? = some t := by simp
theorem nn_I {x : Nat} (hx : x < 2 ^ 31) : ¬ nI x < 0 := by
  rw [lt_hi (nI_hi hx) (show (0 : Int32).toInt = ((0 : Nat) : Int) by decide)]
  omega
theorem drop_1 {k : Nat} (hk : k < 40) : (if (0 : Int32) < nI (k + 1) - 1 then nI (k + 1) - 1 else 0) = nI k := by
  rw [nI_s1 (by omega)]
  exact max_0 (by omega)
set_option maxHeartbeats 400000 in
set_option maxRecDepth 100000 in
theorem m_Y_nameX (hF : gFit E (yW E G a c u n sl) 1 6) {x : Int32} (hx : ¬ (¬ x < 0 ∧ ¬ 8 ≤ x)) : GM E Y_Mill_name (d + 40) [.ref a, .int x] (yW E G a c u n sl) (tIs "java/lang/IllegalArgumentException" (yW E G a c u n sl)) := by
  refine g_entry (by decide) (by simp [Value.category]) (Nat.le_of_ble_eq_true rfl) ?_
  have KN := m_Mill_isName (E := E) (d := d + 39) (G := yW E G a c u n sl) x
  rw [b32, if_neg hx] at KN
  refine g_iload_n d_Mill_name_0 rfl ?_
  refine c_Sr (as := [.int (x)]) ks_Mill_isName ml_Mill_123 (KN) rfl (Nat.le_of_ble_eq_true rfl) rfl d_Mill_name_1 rfl ?_
  refine g_if_ne (tgt := 15) d_Mill_name_4 (by decide) (fun c_4 => absurd c_4 (by decide)) (fun c_4 => ?_)
  refine g_throw (th_Mill_IAE) d_Mill_name_7 d_Mill_name_10 d_Mill_name_11 d_Mill_name_14 rfl hF.1 hF.2 (by show 2 + 3 < _; omega) (Nat.le_of_ble_eq_true rfl) ?_
  intro k z1 z2
  exact ⟨rfl, rfl, z1, z2, rfl⟩
set_option maxHeartbeats 400000 in
set_option maxRecDepth 100000 in
theorem m_Y_nameH (hF : gFit E (yW E G a c u n sl) 1 6) {x : Int32} (hx : ¬ x < 0 ∧ ¬ 8 ≤ x) {t : Nat} (hp : pil c 1 4 (l0 ++ [t])) (hz : pilT u a (l0 ++ [t])) (hn : (u.2.2.1 t 6 >>> (x &&& 31)) &&& 1 = 1) : GM E Y_Mill_name (d + 40) [.ref a, .int x] (yW E G a c u n sl) (tIs "java/lang/IllegalStateException" (yW E G a c u n sl)) := by
  refine g_entry (by decide) (by simp [Value.category]) (Nat.le_of_ble_eq_true rfl) ?_
  have KN := m_Mill_isName (E := E) (d := d + 39) (G := yW E G a c u n sl) x
  rw [b32, if_pos hx] at KN
  have ht : zIs u a t 7 := hz t (by simp)
  have KT := m_Y_top_8 (E := E) (d := d + 39) (G := G) (c := c) (n := n) (sl := sl) hp hz (k := 0) (by simp) top_1
  have KH := m_Tm_has (E := E) (d := d + 39) (G := G) (c := c) (n := n) (sl := sl) (x := x) ht
  rw [if_pos hn] at KH
  refine g_iload_n d_Mill_name_0 rfl ?_
  refine c_Sr (as := [.int (x)]) ks_Mill_isName ml_Mill_123 (KN) rfl (Nat.le_of_ble_eq_true rfl) rfl d_Mill_name_1 rfl ?_
  refine g_if_ne (tgt := 15) d_Mill_name_4 (by decide) (fun c_4 => ?_) (fun c_4 => absurd c_4 (by decide))
  refine g_aload_n d_Mill_name_15 rfl ?_
  refine x_get (k := 0) (j := 1) (v := .ref (a + 8)) kc_Mill fl_Mill_26 (by decide) (by decide) rfl rfl d_Mill_name_16 ?_
  refine g_iconst (v := 0) d_Mill_name_19 (by decide) ?_
  refine c_Vr (as := [.int (0)]) kv_Pile_fromTop ml_Mill_126 rfl (x_at (k := 8) (by decide) rfl) (KT) rfl (Nat.le_of_ble_eq_true rfl) rfl d_Mill_name_20 rfl ?_
  refine g_astore_n d_Mill_name_23 (by decide) rfl ?_
  refine g_aload_n d_Mill_name_24 rfl ?_
  refine g_ifnull d_Mill_name_25 ?_
  refine g_aload_n d_Mill_name_28 rfl ?_
  refine g_iload_n d_Mill_name_29 rfl ?_
  refine c_Vr (as := [.int (x)]) kv_Term_hasName ml_Mill_130 rfl (z_at ht (by decide)) (KH) rfl (Nat.le_of_ble_eq_true rfl) rfl d_Mill_name_30 rfl ?_
  refine g_if_eq (tgt := 44) d_Mill_name_33 (by decide) (fun c_33 => absurd c_33 (by decide)) (fun c_33 => ?_)
  refine g_throw (th_Mill_ISE) d_Mill_name_36 d_Mill_name_39 d_Mill_name_40 d_Mill_name_43 rfl hF.1 hF.2 (by show 2 + 3 < _; omega) (Nat.le_of_ble_eq_true rfl) ?_
  intro k z1 z2
  exact ⟨rfl, rfl, z1, z2, rfl⟩
set_option maxHeartbeats 400000 in
set_option maxRecDepth 100000 in
theorem m_Y_name {x : Int32} (hx : ¬ x < 0 ∧ ¬ 8 ≤ x) {t : Nat} (hp : pil c 1 4 (l0 ++ [t])) (hz : pilT u a (l0 ++ [t])) (hn : ¬ (u.2.2.1 t 6 >>> (x &&& 31)) &&& 1 = 1) : GM E Y_Mill_name (d + 40) [.ref a, .int x] (yW E G a c u n sl) (rIs (some (.int (bcF (u.2.2.1 t 6 ||| 1 <<< (x &&& 31))))) (yW E G a c (uI (uI u t 5 (u.2.2.1 t 5 ||| 1 <<< (x &&& 31))) t 6 (u.2.2.1 t 6 ||| 1 <<< (x &&& 31))) n sl)) := by
  refine g_entry (by decide) (by simp [Value.category]) (Nat.le_of_ble_eq_true rfl) ?_
  have KN := m_Mill_isName (E := E) (d := d + 39) (G := yW E G a c u n sl) x
  rw [b32, if_pos hx] at KN
  have ht : zIs u a t 7 := hz t (by simp)
  have KT := m_Y_top_8 (E := E) (d := d + 39) (G := G) (c := c) (n := n) (sl := sl) hp hz (k := 0) (by simp) top_1
  have KH := m_Tm_has (E := E) (d := d + 39) (G := G) (c := c) (n := n) (sl := sl) (x := x) ht
  rw [if_neg hn] at KH
  refine g_iload_n d_Mill_name_0 rfl ?_
  refine c_Sr (as := [.int (x)]) ks_Mill_isName ml_Mill_123 (KN) rfl (Nat.le_of_ble_eq_true rfl) rfl d_Mill_name_1 rfl ?_
  refine g_if_ne (tgt := 15) d_Mill_name_4 (by decide) (fun c_4 => ?_) (fun c_4 => absurd c_4 (by decide))
  refine g_aload_n d_Mill_name_15 rfl ?_
  refine x_get (k := 0) (j := 1) (v := .ref (a + 8)) kc_Mill fl_Mill_26 (by decide) (by decide) rfl rfl d_Mill_name_16 ?_
  refine g_iconst (v := 0) d_Mill_name_19 (by decide) ?_
  refine c_Vr (as := [.int (0)]) kv_Pile_fromTop ml_Mill_126 rfl (x_at (k := 8) (by decide) rfl) (KT) rfl (Nat.le_of_ble_eq_true rfl) rfl d_Mill_name_20 rfl ?_
  refine g_astore_n d_Mill_name_23 (by decide) rfl ?_
  refine g_aload_n d_Mill_name_24 rfl ?_
  refine g_ifnull d_Mill_name_25 ?_
  refine g_aload_n d_Mill_name_28 rfl ?_
  refine g_iload_n d_Mill_name_29 rfl ?_
  refine c_Vr (as := [.int (x)]) kv_Term_hasName ml_Mill_130 rfl (z_at ht (by decide)) (KH) rfl (Nat.le_of_ble_eq_true rfl) rfl d_Mill_name_30 rfl ?_
  refine g_if_eq (tgt := 44) d_Mill_name_33 (by decide) (fun c_33 => ?_) (fun c_33 => absurd c_33 (by decide))
  refine g_aload_n d_Mill_name_44 rfl ?_
  refine g_iload_n d_Mill_name_45 rfl ?_
  refine c_Vr (as := [.int (x)]) kv_Term_addName ml_Mill_133 rfl (z_at ht (by decide)) (m_Tm_add (d := d + 38) ht) rfl (Nat.le_of_ble_eq_true rfl) rfl d_Mill_name_46 rfl ?_
  refine g_iret rfl d_Mill_name_49 ?_
  exact ⟨rfl, rfl⟩
set_option maxHeartbeats 400000 in
set_option maxRecDepth 100000 in
theorem m_Y_pop_8 {t : Nat} (hp : pil c 1 4 (l0 ++ [t])) (hz : pilT u a (l0 ++ [t])) : GM E Y_Mill_pop (d + 40) [.ref a, .int 0] (yW E G a c u n sl) (rIs (some (.int (u.2.2.1 t 4))) (yW E G a (cF c 4 (nI l0.length)) u n sl)) := by
  refine g_entry (by decide) (by simp [Value.category]) (Nat.le_of_ble_eq_true rfl) ?_
  have ht : zIs u a t 7 := hz t (by simp)
  have KT := m_Y_top_8 (E := E) (d := d + 39) (G := G) (c := c) (n := n) (sl := sl) hp hz (k := 0) (by simp) top_1
  have h40 := hp.2.1
  have hlen : (l0 ++ [t]).length = l0.length + 1 := by simp
  have KD := m_X_drop_8 (E := E) (d := d + 38) (G := zW E G u n sl) (a := a) (c := c) 1
  rw [hp.1, hlen, drop_1 (by omega)] at KD
  refine g_aload_n d_Mill_pop_0 rfl ?_
  refine g_iload_n d_Mill_pop_1 rfl ?_
  refine c_Vr (as := [.int (0)]) kv_Mill_pileOf ml_Mill_94 rfl (x_at (k := 0) (by decide) rfl) (m_Mill_pileOf (x_at (k := 0) (by decide) rfl) 0) rfl (Nat.le_of_ble_eq_true rfl) rfl d_Mill_pop_2 rfl ?_
  refine g_astore_n d_Mill_pop_5 (by decide) rfl ?_
  refine g_aload_n d_Mill_pop_6 rfl ?_
  refine g_iconst (v := 0) d_Mill_pop_7 (by decide) ?_
  refine c_Vr (as := [.int (0)]) kv_Pile_fromTop ml_Mill_126 rfl (x_at (k := 8) (by decide) rfl) (KT) rfl (Nat.le_of_ble_eq_true rfl) rfl d_Mill_pop_8 rfl ?_
  refine g_astore_n d_Mill_pop_11 (by decide) rfl ?_
  refine g_aload_n d_Mill_pop_12 rfl ?_
  refine g_ifnonnull (tgt := 18) d_Mill_pop_13 (by decide) ?_
  refine g_aload_n d_Mill_pop_18 rfl ?_
  refine g_iconst (v := 1) d_Mill_pop_19 (by decide) ?_
  refine c_Vr (as := [.int (1)]) kv_Pile_drop ml_Mill_136 rfl (x_at (k := 8) (by decide) rfl) (KD) rfl (Nat.le_of_ble_eq_true rfl) rfl d_Mill_pop_20 rfl ?_
  refine g_aload_n d_Mill_pop_23 rfl ?_
  refine z_get (k := 7) (j := 4) (v := .int (u.2.2.1 t 4)) kc_Term fl_Mill_140 (by decide) ht (by decide) rfl rfl d_Mill_pop_24 ?_
  refine g_iret rfl d_Mill_pop_27 ?_
  exact ⟨rfl, rfl⟩
set_option maxHeartbeats 400000 in
set_option maxRecDepth 100000 in
theorem m_Y_pop_10 {t : Nat} (hp : pil c 2 5 (l0 ++ [t])) (hz : pilT u a (l0 ++ [t])) : GM E Y_Mill_pop (d + 40) [.ref a, .int 1] (yW E G a c u n sl) (rIs (some (.int (u.2.2.1 t 4))) (yW E G a (cF c 5 (nI l0.length)) u n sl)) := by
  refine g_entry (by decide) (by simp [Value.category]) (Nat.le_of_ble_eq_true rfl) ?_
  have ht : zIs u a t 7 := hz t (by simp)
  have KT := m_Y_top_10 (E := E) (d := d + 39) (G := G) (c := c) (n := n) (sl := sl) hp hz (k := 0) (by simp) top_1
  have h40 := hp.2.1
  have hlen : (l0 ++ [t]).length = l0.length + 1 := by simp
  have KD := m_X_drop_10 (E := E) (d := d + 38) (G := zW E G u n sl) (a := a) (c := c) 1
  rw [hp.1, hlen, drop_1 (by omega)] at KD
  refine g_aload_n d_Mill_pop_0 rfl ?_
  refine g_iload_n d_Mill_pop_1 rfl ?_
  refine c_Vr (as := [.int (1)]) kv_Mill_pileOf ml_Mill_94 rfl (x_at (k := 0) (by decide) rfl) (m_Mill_pileOf (x_at (k := 0) (by decide) rfl) 1) rfl (Nat.le_of_ble_eq_true rfl) rfl d_Mill_pop_2 rfl ?_
  refine g_astore_n d_Mill_pop_5 (by decide) rfl ?_
  refine g_aload_n d_Mill_pop_6 rfl ?_
  refine g_iconst (v := 0) d_Mill_pop_7 (by decide) ?_
  refine c_Vr (as := [.int (0)]) kv_Pile_fromTop ml_Mill_126 rfl (x_at (k := 10) (by decide) rfl) (KT) rfl (Nat.le_of_ble_eq_true rfl) rfl d_Mill_pop_8 rfl ?_
  refine g_astore_n d_Mill_pop_11 (by decide) rfl ?_
  refine g_aload_n d_Mill_pop_12 rfl ?_
  refine g_ifnonnull (tgt := 18) d_Mill_pop_13 (by decide) ?_
  refine g_aload_n d_Mill_pop_18 rfl ?_
  refine g_iconst (v := 1) d_Mill_pop_19 (by decide) ?_
  refine c_Vr (as := [.int (1)]) kv_Pile_drop ml_Mill_136 rfl (x_at (k := 10) (by decide) rfl) (KD) rfl (Nat.le_of_ble_eq_true rfl) rfl d_Mill_pop_20 rfl ?_
  refine g_aload_n d_Mill_pop_23 rfl ?_
  refine z_get (k := 7) (j := 4) (v := .int (u.2.2.1 t 4)) kc_Term fl_Mill_140 (by decide) ht (by decide) rfl rfl d_Mill_pop_24 ?_
  refine g_iret rfl d_Mill_pop_27 ?_
  exact ⟨rfl, rfl⟩
set_option maxHeartbeats 400000 in
set_option maxRecDepth 100000 in
theorem m_Y_addCaseN (hF : gFit E (yW E G a c u n sl) 1 6) {x : Int32} {t : Nat} (hp : pil c 1 4 (l0 ++ [t])) (hz : pilT u a (l0 ++ [t])) (hn : c.1 3 = 20 ∨ ∃ k t', k + 1 < 20 ∧ c.1 3 = nI (k + 1) ∧ c.2.2.1 0 0 = some t' ∧ zIs u a t' 7 ∧ ¬ u.2.2.1 t' 0 = u.2.2.1 t 0) : GM E Y_Mill_addCase (d + 40) [.ref a, .int x] (yW E G a c u n sl) (tIs "java/lang/IllegalStateException" (yW E G a c u n sl)) := by
  refine g_entry (by decide) (by simp [Value.category]) (Nat.le_of_ble_eq_true rfl) ?_
  have ht : zIs u a t 7 := hz t (by simp)
  have KT := m_Y_top_8 (E := E) (d := d + 39) (G := G) (c := c) (n := n) (sl := sl) hp hz (k := 0) (by simp) top_1
  have KC : GM E Y_Cases_accepts (d + 39) [.ref (a + 5), .ref t] (yW E G a c u n sl) (rIs (some (.int 0)) (yW E G a c u n sl)) := by
    rcases hn with h | ⟨k, t', h1, h2, h3, h4, h5⟩
    · exact m_C_acc20 (d := d + 38) h
    · have K := m_C_acc (E := E) (d := d + 38) (G := G) (n := n) (sl := sl) h1 h2 h3 h4 ht
      rw [if_neg h5] at K
      exact K
  refine g_aload_n d_Mill_addCase_0 rfl ?_
  refine x_get (k := 0) (j := 1) (v := .ref (a + 8)) kc_Mill fl_Mill_26 (by decide) (by decide) rfl rfl d_Mill_addCase_1 ?_
  refine g_iconst (v := 0) d_Mill_addCase_4 (by decide) ?_
  refine c_Vr (as := [.int (0)]) kv_Pile_fromTop ml_Mill_126 rfl (x_at (k := 8) (by decide) rfl) (KT) rfl (Nat.le_of_ble_eq_true rfl) rfl d_Mill_addCase_5 rfl ?_
  refine g_astore_n d_Mill_addCase_8 (by decide) rfl ?_
  refine g_aload_n d_Mill_addCase_9 rfl ?_
  refine g_ifnull d_Mill_addCase_10 ?_
  refine g_aload_n d_Mill_addCase_13 rfl ?_
  refine x_get (k := 0) (j := 3) (v := .ref (a + 5)) kc_Mill fl_Mill_19 (by decide) (by decide) rfl rfl d_Mill_addCase_14 ?_
  refine g_aload_n d_Mill_addCase_17 rfl ?_
  refine c_Vr (as := [.ref (t)]) kv_Cases_accepts ml_Mill_144 rfl (x_at (k := 5) (by decide) rfl) (KC) rfl (Nat.le_of_ble_eq_true rfl) rfl d_Mill_addCase_18 rfl ?_
  refine g_if_ne (tgt := 32) d_Mill_addCase_21 (by decide) (fun c_21 => absurd c_21 (by decide)) (fun c_21 => ?_)
  refine g_throw (th_Mill_ISE) d_Mill_addCase_24 d_Mill_addCase_27 d_Mill_addCase_28 d_Mill_addCase_31 rfl hF.1 hF.2 (by show 2 + 3 < _; omega) (Nat.le_of_ble_eq_true rfl) ?_
  intro k z1 z2
  exact ⟨rfl, rfl, z1, z2, rfl⟩
set_option maxHeartbeats 400000 in
set_option maxRecDepth 100000 in
theorem m_Y_addCase {x : Int32} {t : Nat} (hp : pil c 1 4 (l0 ++ [t])) (hz : pilT u a (l0 ++ [t])) {k : Nat} (hk : k < 20) (h3 : c.1 3 = nI k) (hx : x = 0 ∨ x = 1) (hy : k = 0 ∨ ∃ t', c.2.2.1 0 0 = some t' ∧ zIs u a t' 7 ∧ u.2.2.1 t' 0 = u.2.2.1 t 0) : GM E Y_Mill_addCase (d + 40) [.ref a, .int x] (yW E G a c u n sl) (rIs (some (.int (nI k))) (yW E G a (cF (cA (cT (cF (cF (cF c 4 (nI l0.length)) 1 0) 2 0) 0 k (some t)) 3 k x) 3 (nI (k + 1))) u n sl)) := by
  refine g_entry (by decide) (by simp [Value.category]) (Nat.le_of_ble_eq_true rfl) ?_
  have ht : zIs u a t 7 := hz t (by simp)
  have KT := m_Y_top_8 (E := E) (d := d + 39) (G := G) (c := c) (n := n) (sl := sl) hp hz (k := 0) (by simp) top_1
  have KC : GM E Y_Cases_accepts (d + 39) [.ref (a + 5), .ref t] (yW E G a c u n sl) (rIs (some (.int 1)) (yW E G a c u n sl)) := by
    rcases Nat.eq_zero_or_pos k with h0 | h0
    · subst h0
      exact m_C_acc0 (d := d + 38) h3
    · obtain ⟨k', rfl⟩ : ∃ k', k = k' + 1 := ⟨k - 1, by omega⟩
      rcases hy with h | ⟨t', h1, h2, h4⟩
      · omega
      · have K := m_C_acc (E := E) (d := d + 38) (G := G) (n := n) (sl := sl) hk h3 h1 h2 ht
        rw [if_pos h4] at K
        exact K
  have h40 := hp.2.1
  have hlen : (l0 ++ [t]).length = l0.length + 1 := by simp
  have KD := m_X_drop_8 (E := E) (d := d + 38) (G := zW E G u n sl) (a := a) (c := c) 1
  rw [hp.1, hlen, drop_1 (by omega)] at KD
  refine g_aload_n d_Mill_addCase_0 rfl ?_
  refine x_get (k := 0) (j := 1) (v := .ref (a + 8)) kc_Mill fl_Mill_26 (by decide) (by decide) rfl rfl d_Mill_addCase_1 ?_
  refine g_iconst (v := 0) d_Mill_addCase_4 (by decide) ?_
  refine c_Vr (as := [.int (0)]) kv_Pile_fromTop ml_Mill_126 rfl (x_at (k := 8) (by decide) rfl) (KT) rfl (Nat.le_of_ble_eq_true rfl) rfl d_Mill_addCase_5 rfl ?_
  refine g_astore_n d_Mill_addCase_8 (by decide) rfl ?_
  refine g_aload_n d_Mill_addCase_9 rfl ?_
  refine g_ifnull d_Mill_addCase_10 ?_
  refine g_aload_n d_Mill_addCase_13 rfl ?_
  refine x_get (k := 0) (j := 3) (v := .ref (a + 5)) kc_Mill fl_Mill_19 (by decide) (by decide) rfl rfl d_Mill_addCase_14 ?_
  refine g_aload_n d_Mill_addCase_17 rfl ?_
  refine c_Vr (as := [.ref (t)]) kv_Cases_accepts ml_Mill_144 rfl (x_at (k := 5) (by decide) rfl) (KC) rfl (Nat.le_of_ble_eq_true rfl) rfl d_Mill_addCase_18 rfl ?_
  refine g_if_ne (tgt := 32) d_Mill_addCase_21 (by decide) (fun c_21 => ?_) (fun c_21 => absurd c_21 (by decide))
  refine g_aload_n d_Mill_addCase_32 rfl ?_
  refine x_get (k := 0) (j := 1) (v := .ref (a + 8)) kc_Mill fl_Mill_26 (by decide) (by decide) rfl rfl d_Mill_addCase_33 ?_
  refine g_iconst (v := 1) d_Mill_addCase_36 (by decide) ?_
  refine c_Vr (as := [.int (1)]) kv_Pile_drop ml_Mill_136 rfl (x_at (k := 8) (by decide) rfl) (KD) rfl (Nat.le_of_ble_eq_true rfl) rfl d_Mill_addCase_37 rfl ?_
  refine g_aload_n d_Mill_addCase_40 rfl ?_
  refine c_Vr (as := []) kv_Mill_forgetTree ml_Mill_148 rfl (x_at (k := 0) (by decide) rfl) (m_X_forgetTree (c := (cF c 4 (nI l0.length)))) rfl (Nat.le_of_ble_eq_true rfl) rfl d_Mill_addCase_41 rfl ?_
  refine g_aload_n d_Mill_addCase_44 rfl ?_
  refine x_get (k := 0) (j := 3) (v := .ref (a + 5)) kc_Mill fl_Mill_19 (by decide) (by decide) rfl rfl d_Mill_addCase_45 ?_
  refine g_aload_n d_Mill_addCase_48 rfl ?_
  refine g_iload_n d_Mill_addCase_49 rfl ?_
  refine c_Vr (as := [.ref (t), .int (x)]) kv_Cases_add ml_Mill_151 rfl (x_at (k := 5) (by decide) rfl) (m_C_add (d := d + 39) (c := (cF (cF (cF c 4 (nI l0.length)) 1 0) 2 0)) hk h3 ht hx) rfl (Nat.le_of_ble_eq_true rfl) rfl d_Mill_addCase_50 rfl ?_
  refine g_iret rfl d_Mill_addCase_53 ?_
  exact ⟨rfl, rfl⟩
set_option maxHeartbeats 400000 in
set_option maxRecDepth 100000 in
theorem m_Y_argX (hF : gFit E (yW E G a c u n sl) 1 6) {y : Int32} {X K : Nat} (hX : X < 16) (hK : K < 8) (hh : tHas (c.2.1 0) (nI X) (nI K)) (hok : tOk (c.2.1 0)) (hy : ¬ (¬ y < 0 ∧ ¬ 16 ≤ y)) : GM E Y_Mill_argument (d + 40) [.ref a, .int (nI X), .int (nI K), .int y] (yW E G a c u n sl) (tIs "java/lang/IllegalArgumentException" (yW E G a c u n sl)) := by
  refine g_entry (by decide) (by simp [Value.category]) (Nat.le_of_ble_eq_true rfl) ?_
  have KT := m_Types_hasConstructor (E := E) (d := d + 37) (G := yW E G a c u n sl) (x_at (k := 1) (by decide) rfl) (x_at (k := 2) (by decide) rfl) (nI X) (nI K)
  rw [b32, if_pos hh] at KT
  have KB := m_Types_canBe (E := E) (d := d + 39) (G := yW E G a c u n sl) (a := a + 1) y
  rw [b32, if_neg hy] at KB
  refine g_aload_n d_Mill_argument_0 rfl ?_
  refine x_get (k := 0) (j := 0) (v := .ref (a + 1)) kc_Mill fl_Mill_15 (by decide) (by decide) rfl rfl d_Mill_argument_1 ?_
  refine g_iload_n d_Mill_argument_4 rfl ?_
  refine g_iload_n d_Mill_argument_5 rfl ?_
  refine c_Vr (as := [.int (nI X), .int (nI K)]) kv_Types_hasConstructor ml_Mill_70 rfl (x_at (k := 1) (by decide) rfl) (KT) rfl (Nat.le_of_ble_eq_true rfl) rfl d_Mill_argument_6 rfl ?_
  refine g_if_eq (tgt := 23) d_Mill_argument_9 (by decide) (fun c_9 => absurd c_9 (by decide)) (fun c_9 => ?_)
  refine g_aload_n d_Mill_argument_12 rfl ?_
  refine x_get (k := 0) (j := 0) (v := .ref (a + 1)) kc_Mill fl_Mill_15 (by decide) (by decide) rfl rfl d_Mill_argument_13 ?_
  refine g_iload_n d_Mill_argument_16 rfl ?_
  refine c_Vr (as := [.int (y)]) kv_Types_canBe ml_Mill_49 rfl (x_at (k := 1) (by decide) rfl) (KB) rfl (Nat.le_of_ble_eq_true rfl) rfl d_Mill_argument_17 rfl ?_
  refine g_if_ne (tgt := 31) d_Mill_argument_20 (by decide) (fun c_20 => absurd c_20 (by decide)) (fun c_20 => ?_)
  refine g_throw (th_Mill_IAE) d_Mill_argument_23 d_Mill_argument_26 d_Mill_argument_27 d_Mill_argument_30 rfl hF.1 hF.2 (by show 2 + 3 < _; omega) (Nat.le_of_ble_eq_true rfl) ?_
  intro k z1 z2
  exact ⟨rfl, rfl, z1, z2, rfl⟩
set_option maxHeartbeats 400000 in
set_option maxRecDepth 100000 in
theorem m_Y_argB (hF : gFit E (yW E G a c u n sl) 1 6) {y : Int32} {X K : Nat} (hX : X < 16) (hK : K < 8) (hh : tHas (c.2.1 0) (nI X) (nI K)) (hok : tOk (c.2.1 0)) (hy : ¬ y < 0 ∧ ¬ 16 ≤ y) {ar : Nat} (hA : c.2.1 1 (8 * X + K) = nI ar) (har : ar ≤ 4) (hb : ¬ c.1 0 = 0) : GM E Y_Mill_argument (d + 40) [.ref a, .int (nI X), .int (nI K), .int y] (yW E G a c u n sl) (tIs "java/lang/IllegalStateException" (yW E G a c u n sl)) := by
  refine g_entry (by decide) (by simp [Value.category]) (Nat.le_of_ble_eq_true rfl) ?_
  have KT := m_Types_hasConstructor (E := E) (d := d + 37) (G := yW E G a c u n sl) (x_at (k := 1) (by decide) rfl) (x_at (k := 2) (by decide) rfl) (nI X) (nI K)
  rw [b32, if_pos hh] at KT
  have KB := m_Types_canBe (E := E) (d := d + 39) (G := yW E G a c u n sl) (a := a + 1) y
  rw [b32, if_pos hy] at KB
  have KA := m_Types_arity (E := E) (d := d + 36) (G := yW E G a c u n sl) (x_at (k := 1) (by decide) rfl) (x_at (k := 2) (by decide) rfl) (x_at (k := 3) (by decide) rfl) hok (nI X) (nI K)
  rw [if_pos hh, tnI (by omega), tnI (by omega), hA] at KA
  refine g_aload_n d_Mill_argument_0 rfl ?_
  refine x_get (k := 0) (j := 0) (v := .ref (a + 1)) kc_Mill fl_Mill_15 (by decide) (by decide) rfl rfl d_Mill_argument_1 ?_
  refine g_iload_n d_Mill_argument_4 rfl ?_
  refine g_iload_n d_Mill_argument_5 rfl ?_
  refine c_Vr (as := [.int (nI X), .int (nI K)]) kv_Types_hasConstructor ml_Mill_70 rfl (x_at (k := 1) (by decide) rfl) (KT) rfl (Nat.le_of_ble_eq_true rfl) rfl d_Mill_argument_6 rfl ?_
  refine g_if_eq (tgt := 23) d_Mill_argument_9 (by decide) (fun c_9 => absurd c_9 (by decide)) (fun c_9 => ?_)
  refine g_aload_n d_Mill_argument_12 rfl ?_
  refine x_get (k := 0) (j := 0) (v := .ref (a + 1)) kc_Mill fl_Mill_15 (by decide) (by decide) rfl rfl d_Mill_argument_13 ?_
  refine g_iload_n d_Mill_argument_16 rfl ?_
  refine c_Vr (as := [.int (y)]) kv_Types_canBe ml_Mill_49 rfl (x_at (k := 1) (by decide) rfl) (KB) rfl (Nat.le_of_ble_eq_true rfl) rfl d_Mill_argument_17 rfl ?_
  refine g_if_ne (tgt := 31) d_Mill_argument_20 (by decide) (fun c_20 => ?_) (fun c_20 => absurd c_20 (by decide))
  refine g_aload_n d_Mill_argument_31 rfl ?_
  refine x_get (k := 0) (j := 6) (v := .int (c.1 0)) kc_Mill fl_Mill_56 (by decide) (by decide) rfl rfl d_Mill_argument_32 ?_
  refine g_if_ne (tgt := 51) d_Mill_argument_35 (by decide) (fun c_35 => ?_) (fun c_35 => ?_)
  rotate_left
  · exact absurd c_35 hb
  refine g_throw (th_Mill_ISE) d_Mill_argument_51 d_Mill_argument_54 d_Mill_argument_55 d_Mill_argument_58 rfl hF.1 hF.2 (by show 2 + 3 < _; omega) (Nat.le_of_ble_eq_true rfl) ?_
  intro k z1 z2
  exact ⟨rfl, rfl, z1, z2, rfl⟩
set_option maxHeartbeats 400000 in
set_option maxRecDepth 100000 in
theorem m_Y_argF (hF : gFit E (yW E G a c u n sl) 1 6) {y : Int32} {X K : Nat} (hX : X < 16) (hK : K < 8) (hh : tHas (c.2.1 0) (nI X) (nI K)) (hok : tOk (c.2.1 0)) (hy : ¬ y < 0 ∧ ¬ 16 ≤ y) {ar : Nat} (hA : c.2.1 1 (8 * X + K) = nI ar) (har : ar ≤ 4) (hb : c.1 0 = 0) (h4 : ar = 4) : GM E Y_Mill_argument (d + 40) [.ref a, .int (nI X), .int (nI K), .int y] (yW E G a c u n sl) (tIs "java/lang/IllegalStateException" (yW E G a c u n sl)) := by
  refine g_entry (by decide) (by simp [Value.category]) (Nat.le_of_ble_eq_true rfl) ?_
  have KT := m_Types_hasConstructor (E := E) (d := d + 37) (G := yW E G a c u n sl) (x_at (k := 1) (by decide) rfl) (x_at (k := 2) (by decide) rfl) (nI X) (nI K)
  rw [b32, if_pos hh] at KT
  have KB := m_Types_canBe (E := E) (d := d + 39) (G := yW E G a c u n sl) (a := a + 1) y
  rw [b32, if_pos hy] at KB
  have KA := m_Types_arity (E := E) (d := d + 36) (G := yW E G a c u n sl) (x_at (k := 1) (by decide) rfl) (x_at (k := 2) (by decide) rfl) (x_at (k := 3) (by decide) rfl) hok (nI X) (nI K)
  rw [if_pos hh, tnI (by omega), tnI (by omega), hA] at KA
  refine g_aload_n d_Mill_argument_0 rfl ?_
  refine x_get (k := 0) (j := 0) (v := .ref (a + 1)) kc_Mill fl_Mill_15 (by decide) (by decide) rfl rfl d_Mill_argument_1 ?_
  refine g_iload_n d_Mill_argument_4 rfl ?_
  refine g_iload_n d_Mill_argument_5 rfl ?_
  refine c_Vr (as := [.int (nI X), .int (nI K)]) kv_Types_hasConstructor ml_Mill_70 rfl (x_at (k := 1) (by decide) rfl) (KT) rfl (Nat.le_of_ble_eq_true rfl) rfl d_Mill_argument_6 rfl ?_
  refine g_if_eq (tgt := 23) d_Mill_argument_9 (by decide) (fun c_9 => absurd c_9 (by decide)) (fun c_9 => ?_)
  refine g_aload_n d_Mill_argument_12 rfl ?_
  refine x_get (k := 0) (j := 0) (v := .ref (a + 1)) kc_Mill fl_Mill_15 (by decide) (by decide) rfl rfl d_Mill_argument_13 ?_
  refine g_iload_n d_Mill_argument_16 rfl ?_
  refine c_Vr (as := [.int (y)]) kv_Types_canBe ml_Mill_49 rfl (x_at (k := 1) (by decide) rfl) (KB) rfl (Nat.le_of_ble_eq_true rfl) rfl d_Mill_argument_17 rfl ?_
  refine g_if_ne (tgt := 31) d_Mill_argument_20 (by decide) (fun c_20 => ?_) (fun c_20 => absurd c_20 (by decide))
  refine g_aload_n d_Mill_argument_31 rfl ?_
  refine x_get (k := 0) (j := 6) (v := .int (c.1 0)) kc_Mill fl_Mill_56 (by decide) (by decide) rfl rfl d_Mill_argument_32 ?_
  refine g_if_ne (tgt := 51) d_Mill_argument_35 (by decide) (fun c_35 => ?_) (fun c_35 => ?_)
  · exact absurd c_35 (fun e => e hb)
  refine g_aload_n d_Mill_argument_38 rfl ?_
  refine x_get (k := 0) (j := 0) (v := .ref (a + 1)) kc_Mill fl_Mill_15 (by decide) (by decide) rfl rfl d_Mill_argument_39 ?_
  refine g_iload_n d_Mill_argument_42 rfl ?_
  refine g_iload_n d_Mill_argument_43 rfl ?_
  refine c_Vr (as := [.int (nI X), .int (nI K)]) kv_Types_arity ml_Mill_74 rfl (x_at (k := 1) (by decide) rfl) (KA) rfl (Nat.le_of_ble_eq_true rfl) rfl d_Mill_argument_44 rfl ?_
  refine g_iconst (v := 4) d_Mill_argument_47 (by decide) ?_
  refine g_icmp_lt (tgt := 59) d_Mill_argument_48 (by decide) (fun c_48 => ?_) (fun c_48 => ?_)
  · exact absurd c_48 (by rw [h4]; decide)
  refine g_throw (th_Mill_ISE) d_Mill_argument_51 d_Mill_argument_54 d_Mill_argument_55 d_Mill_argument_58 rfl hF.1 hF.2 (by show 2 + 3 < _; omega) (Nat.le_of_ble_eq_true rfl) ?_
  intro k z1 z2
  exact ⟨rfl, rfl, z1, z2, rfl⟩
set_option maxHeartbeats 400000 in
set_option maxRecDepth 100000 in
theorem m_Y_arg {y : Int32} {X K : Nat} (hX : X < 16) (hK : K < 8) (hh : tHas (c.2.1 0) (nI X) (nI K)) (hok : tOk (c.2.1 0)) (hy : ¬ y < 0 ∧ ¬ 16 ≤ y) {ar : Nat} (hA : c.2.1 1 (8 * X + K) = nI ar) (har : ar ≤ 4) (hb : c.1 0 = 0) (h4 : ar < 4) : GM E Y_Mill_argument (d + 40) [.ref a, .int (nI X), .int (nI K), .int y] (yW E G a c u n sl) (rIs (some (.int (nI (ar + 1)))) (yW E G a (cA (cA c 2 (32 * X + 4 * K + ar) y) 1 (8 * X + K) (nI (ar + 1))) u n sl)) := by
  refine g_entry (by decide) (by simp [Value.category]) (Nat.le_of_ble_eq_true rfl) ?_
  have KT := m_Types_hasConstructor (E := E) (d := d + 37) (G := yW E G a c u n sl) (x_at (k := 1) (by decide) rfl) (x_at (k := 2) (by decide) rfl) (nI X) (nI K)
  rw [b32, if_pos hh] at KT
  have KB := m_Types_canBe (E := E) (d := d + 39) (G := yW E G a c u n sl) (a := a + 1) y
  rw [b32, if_pos hy] at KB
  have KA := m_Types_arity (E := E) (d := d + 36) (G := yW E G a c u n sl) (x_at (k := 1) (by decide) rfl) (x_at (k := 2) (by decide) rfl) (x_at (k := 3) (by decide) rfl) hok (nI X) (nI K)
  rw [if_pos hh, tnI (by omega), tnI (by omega), hA] at KA
  have KG : GM E Y_Types_addArgument (d + 39) [.ref (a + 1), .int (nI X), .int (nI K), .int y] (yW E G a c u n sl) (rIs (some (.int (nI (ar + 1)))) (yW E G a (cA (cA c 2 (32 * X + 4 * K + ar) y) 1 (8 * X + K) (nI (ar + 1))) u n sl)) := by
    have e8 : X * 8 + K = 8 * X + K := by omega
    have K0 := m_Types_addArgument (E := E) (d := d + 39) (G := yW E G a c u n sl) (a := a + 1) (aa := a + 3) (ag := a + 4) (ac := a + 2) (fa := c.2.1 1) (fg := c.2.1 2) (x_at (k := 1) (by decide) rfl) (x_at (k := 3) (by decide) rfl) (x_at (k := 4) (by decide) rfl) (by omega) (x := nI X) (c := nI K) (y := y) (X := X) (C := K) (N := ar) (nI_hi (by omega)) (nI_hi (by omega)) hX hK (by rw [e8, hA]; exact nI_hi (by omega)) h4
    rw [e8, hA, show (8 * X + K) * 4 + ar = 32 * X + 4 * K + ar by omega, nI_1] at K0
    rw [x_up (E := E) (G := zW E G u n sl) (a := a) (c := c) (c' := cA c 2 (32 * X + 4 * K + ar) y) (k := 4) (y := gAI E 512 (upd (c.2.1 2) (32 * X + 4 * K + ar) y)) (by decide) rfl xf_A2, x_up (E := E) (G := zW E G u n sl) (a := a) (c := cA c 2 (32 * X + 4 * K + ar) y) (c' := (cA (cA c 2 (32 * X + 4 * K + ar) y) 1 (8 * X + K) (nI (ar + 1)))) (k := 3) (y := gAI E 128 (upd (c.2.1 1) (8 * X + K) (nI (ar + 1)))) (by decide) rfl xf_A1] at K0
    exact K0
  refine g_aload_n d_Mill_argument_0 rfl ?_
  refine x_get (k := 0) (j := 0) (v := .ref (a + 1)) kc_Mill fl_Mill_15 (by decide) (by decide) rfl rfl d_Mill_argument_1 ?_
  refine g_iload_n d_Mill_argument_4 rfl ?_
  refine g_iload_n d_Mill_argument_5 rfl ?_
  refine c_Vr (as := [.int (nI X), .int (nI K)]) kv_Types_hasConstructor ml_Mill_70 rfl (x_at (k := 1) (by decide) rfl) (KT) rfl (Nat.le_of_ble_eq_true rfl) rfl d_Mill_argument_6 rfl ?_
  refine g_if_eq (tgt := 23) d_Mill_argument_9 (by decide) (fun c_9 => absurd c_9 (by decide)) (fun c_9 => ?_)
  refine g_aload_n d_Mill_argument_12 rfl ?_
  refine x_get (k := 0) (j := 0) (v := .ref (a + 1)) kc_Mill fl_Mill_15 (by decide) (by decide) rfl rfl d_Mill_argument_13 ?_
  refine g_iload_n d_Mill_argument_16 rfl ?_
  refine c_Vr (as := [.int (y)]) kv_Types_canBe ml_Mill_49 rfl (x_at (k := 1) (by decide) rfl) (KB) rfl (Nat.le_of_ble_eq_true rfl) rfl d_Mill_argument_17 rfl ?_
  refine g_if_ne (tgt := 31) d_Mill_argument_20 (by decide) (fun c_20 => ?_) (fun c_20 => absurd c_20 (by decide))
  refine g_aload_n d_Mill_argument_31 rfl ?_
  refine x_get (k := 0) (j := 6) (v := .int (c.1 0)) kc_Mill fl_Mill_56 (by decide) (by decide) rfl rfl d_Mill_argument_32 ?_
  refine g_if_ne (tgt := 51) d_Mill_argument_35 (by decide) (fun c_35 => ?_) (fun c_35 => ?_)
  · exact absurd c_35 (fun e => e hb)
  refine g_aload_n d_Mill_argument_38 rfl ?_
  refine x_get (k := 0) (j := 0) (v := .ref (a + 1)) kc_Mill fl_Mill_15 (by decide) (by decide) rfl rfl d_Mill_argument_39 ?_
  refine g_iload_n d_Mill_argument_42 rfl ?_
  refine g_iload_n d_Mill_argument_43 rfl ?_
  refine c_Vr (as := [.int (nI X), .int (nI K)]) kv_Types_arity ml_Mill_74 rfl (x_at (k := 1) (by decide) rfl) (KA) rfl (Nat.le_of_ble_eq_true rfl) rfl d_Mill_argument_44 rfl ?_
  refine g_iconst (v := 4) d_Mill_argument_47 (by decide) ?_
  refine g_icmp_lt (tgt := 59) d_Mill_argument_48 (by decide) (fun c_48 => ?_) (fun c_48 => ?_)
  rotate_left
  · exact absurd c_48 (fun e => e (by rw [lt_hi (nI_hi (n := ar) (by omega)) (show (4 : Int32).toInt = ((4 : Nat) : Int) by decide)]; exact h4))
  refine g_aload_n d_Mill_argument_59 rfl ?_
  refine x_get (k := 0) (j := 0) (v := .ref (a + 1)) kc_Mill fl_Mill_15 (by decide) (by decide) rfl rfl d_Mill_argument_60 ?_
  refine g_iload_n d_Mill_argument_63 rfl ?_
  refine g_iload_n d_Mill_argument_64 rfl ?_
  refine g_iload_n d_Mill_argument_65 rfl ?_
  refine c_Vr (as := [.int (nI X), .int (nI K), .int (y)]) kv_Types_addArgument ml_Mill_78 rfl (x_at (k := 1) (by decide) rfl) (KG) rfl (Nat.le_of_ble_eq_true rfl) rfl d_Mill_argument_66 rfl ?_
  refine g_iret rfl d_Mill_argument_69 ?_
  exact ⟨rfl, rfl⟩
set_option maxHeartbeats 400000 in
set_option maxRecDepth 100000 in
theorem m_Y_unused {x : Int32} {K : Nat} (h1 : ¬ c.1 1 = 0) (h3 : c.1 3 = nI K) (hK : K ≤ 20) : GM E Y_Mill_unused (d + 40) [.ref a, .int x] (yW E G a c u n sl) (rIs (some (.int (unF (c.1 9) x K 0 0))) (yW E G a c u n sl)) := by
  refine g_entry (by decide) (by simp [Value.category]) (Nat.le_of_ble_eq_true rfl) ?_
  refine g_aload_n d_Mill_unused_0 rfl ?_
  refine x_get (k := 0) (j := 7) (v := .int (c.1 1)) kc_Mill fl_Mill_157 (by decide) (by decide) rfl rfl d_Mill_unused_1 ?_
  refine g_if_eq (tgt := 18) d_Mill_unused_4 (by decide) (fun c_4 => ?_) (fun c_4 => ?_)
  · exact absurd c_4 h1
  refine g_aload_n d_Mill_unused_7 rfl ?_
  refine x_get (k := 0) (j := 4) (v := .ref (a + 12)) kc_Mill fl_Mill_38 (by decide) (by decide) rfl rfl d_Mill_unused_8 ?_
  refine g_iload_n d_Mill_unused_11 rfl ?_
  refine c_Vr (as := [.int (x)]) kv_Tree_unusedAt ml_Mill_193 rfl (x_at (k := 12) (by decide) rfl) (m_T_unused (d := d + 38) h3 hK) rfl (Nat.le_of_ble_eq_true rfl) rfl d_Mill_unused_12 rfl ?_
  refine g_goto (tgt := 19) d_Mill_unused_15 (by decide) ?_
  refine g_iret rfl d_Mill_unused_19 ?_
  exact ⟨rfl, rfl⟩
def fcF (u : uS) (q : Nat) (w : Int32) : Int32 := if w = 0 then u.2.2.1 q 1 else if w = 1 then u.2.2.1 q 7 else if w = 2 then u.2.2.1 q 8 else u.2.2.1 q 3
set_option maxHeartbeats 400000 in
set_option maxRecDepth 100000 in
theorem m_T_fact (hl : lOk E c u a n 20 2 6 1001 qs) {j q : Nat} {w : Int32} (hq : qs[j]? = some q) : GM E Y_Tree_factOf (d + 3) [.ref (a + 12), .int (nI j), .int w] (yW E G a c u n sl) (rIs (some (.int (fcF u q w))) (yW E G a c u n sl)) := by
  refine g_entry (by decide) (by simp [Value.category]) (Nat.le_of_ble_eq_true rfl) ?_
  have f6 : zIs u a q 6 := (lOk_get hl hq).2.2.2.2.1
  refine g_aload_n d_Tree_factOf_0 rfl ?_
  refine x_get (k := 12) (j := 4) (v := .ref (a + 17)) kc_Tree fl_Tree_28 (by decide) (by decide) rfl rfl d_Tree_factOf_1 ?_
  refine g_iload_n d_Tree_factOf_4 rfl ?_
  refine c_Vr (as := [.int (nI j)]) kv_ArrayList_get ml_Tree_63 rfl (x_at (k := 17) (by decide) rfl) (m_K_get lk_quests hl (by omega) hq) rfl (Nat.le_of_ble_eq_true rfl) rfl d_Tree_factOf_5 rfl ?_
  refine z_cast (kb := 6) cl_Tree_67 rfl f6 (by decide) d_Tree_factOf_8 ?_
  refine g_astore_n d_Tree_factOf_11 (by decide) rfl ?_
  refine g_iload_n d_Tree_factOf_12 rfl ?_
  have h_13 : (w).toInt = 0 ∨ (w).toInt = 1 ∨ (w).toInt = 2 ∨ ((w).toInt < 0 ∨ 2 < (w).toInt) := by omega
  rcases h_13 with h_13 | h_13 | h_13 | h_13
  · have e_13 : w = 0 := i_nI h_13
    refine g_tableIn (tgt := 40) (off := 27) d_Tree_factOf_13 (by rw [h_13]; decide) (by rw [h_13]; decide) (by rw [h_13]; rfl) (by decide) ?_
    refine g_aload_n d_Tree_factOf_40 rfl ?_
    refine z_get (k := 6) (j := 1) (v := .int (u.2.2.1 q 1)) kc_Question fl_Tree_195 (by decide) f6 (by decide) rfl rfl d_Tree_factOf_41 ?_
    refine g_iret rfl d_Tree_factOf_44 ?_
    subst e_13
    exact ⟨rfl, rfl⟩
  · have e_13 : w = 1 := i_nI h_13
    refine g_tableIn (tgt := 45) (off := 32) d_Tree_factOf_13 (by rw [h_13]; decide) (by rw [h_13]; decide) (by rw [h_13]; rfl) (by decide) ?_
    refine g_aload_n d_Tree_factOf_45 rfl ?_
    refine z_get (k := 6) (j := 7) (v := .int (u.2.2.1 q 7)) kc_Question fl_Tree_72 (by decide) f6 (by decide) rfl rfl d_Tree_factOf_46 ?_
    refine g_iret rfl d_Tree_factOf_49 ?_
    subst e_13
    exact ⟨rfl, rfl⟩
  · have e_13 : w = 2 := i_nI h_13
    refine g_tableIn (tgt := 50) (off := 37) d_Tree_factOf_13 (by rw [h_13]; decide) (by rw [h_13]; decide) (by rw [h_13]; rfl) (by decide) ?_
    refine g_aload_n d_Tree_factOf_50 rfl ?_
    refine z_get (k := 6) (j := 8) (v := .int (u.2.2.1 q 8)) kc_Question fl_Tree_192 (by decide) f6 (by decide) rfl rfl d_Tree_factOf_51 ?_
    refine g_iret rfl d_Tree_factOf_54 ?_
    subst e_13
    exact ⟨rfl, rfl⟩
  · have n_13_0 : ¬ w = 0 := fun e => by rw [e] at h_13; revert h_13; decide
    have n_13_1 : ¬ w = 1 := fun e => by rw [e] at h_13; revert h_13; decide
    have n_13_2 : ¬ w = 2 := fun e => by rw [e] at h_13; revert h_13; decide
    refine g_tableOut (tgt := 55) d_Tree_factOf_13 h_13 (by decide) ?_
    refine g_aload_n d_Tree_factOf_55 rfl ?_
    refine z_get (k := 6) (j := 3) (v := .int (u.2.2.1 q 3)) kc_Question fl_Tree_203 (by decide) f6 (by decide) rfl rfl d_Tree_factOf_56 ?_
    refine g_iret rfl d_Tree_factOf_59 ?_
    rw [fcF, if_neg n_13_0, if_neg n_13_1, if_neg n_13_2]
    exact ⟨rfl, rfl⟩
set_option maxHeartbeats 400000 in
set_option maxRecDepth 100000 in
theorem m_Y_questionX (hF : gFit E (yW E G a c u n sl) 1 6) {x w : Int32} (hx : c.1 1 = 0 ∨ x < 0 ∨ c.1 6 ≤ x ∨ w < 0 ∨ ¬ w ≤ 3) : GM E Y_Mill_question (d + 40) [.ref a, .int x, .int w] (yW E G a c u n sl) (tIs "java/lang/IllegalArgumentException" (yW E G a c u n sl)) := by
  refine g_entry (by decide) (by simp [Value.category]) (Nat.le_of_ble_eq_true rfl) ?_
  refine g_aload_n d_Mill_question_0 rfl ?_
  refine x_get (k := 0) (j := 7) (v := .int (c.1 1)) kc_Mill fl_Mill_157 (by decide) (by decide) rfl rfl d_Mill_question_1 ?_
  refine g_if_eq (tgt := 31) d_Mill_question_4 (by decide) (fun c_4 => ?_) (fun c_4 => ?_)
  · refine g_throw (th_Mill_IAE) d_Mill_question_31 d_Mill_question_34 d_Mill_question_35 d_Mill_question_38 rfl hF.1 hF.2 (by show 2 + 3 < _; omega) (Nat.le_of_ble_eq_true rfl) ?_
    intro k z1 z2
    exact ⟨rfl, rfl, z1, z2, rfl⟩
  · refine g_iload_n d_Mill_question_7 rfl ?_
    refine g_if_lt (tgt := 31) d_Mill_question_8 (by decide) (fun c_8 => ?_) (fun c_8 => ?_)
    · refine g_throw (th_Mill_IAE) d_Mill_question_31 d_Mill_question_34 d_Mill_question_35 d_Mill_question_38 rfl hF.1 hF.2 (by show 2 + 3 < _; omega) (Nat.le_of_ble_eq_true rfl) ?_
      intro k z1 z2
      exact ⟨rfl, rfl, z1, z2, rfl⟩
    · refine g_iload_n d_Mill_question_11 rfl ?_
      refine g_aload_n d_Mill_question_12 rfl ?_
      refine x_get (k := 0) (j := 4) (v := .ref (a + 12)) kc_Mill fl_Mill_38 (by decide) (by decide) rfl rfl d_Mill_question_13 ?_
      refine c_Vr (as := []) kv_Tree_size ml_Mill_170 rfl (x_at (k := 12) (by decide) rfl) (m_X_treeSize) rfl (Nat.le_of_ble_eq_true rfl) rfl d_Mill_question_16 rfl ?_
      refine g_icmp_ge (tgt := 31) d_Mill_question_19 (by decide) (fun c_19 => ?_) (fun c_19 => ?_)
      · refine g_throw (th_Mill_IAE) d_Mill_question_31 d_Mill_question_34 d_Mill_question_35 d_Mill_question_38 rfl hF.1 hF.2 (by show 2 + 3 < _; omega) (Nat.le_of_ble_eq_true rfl) ?_
        intro k z1 z2
        exact ⟨rfl, rfl, z1, z2, rfl⟩
      · refine g_iload_n d_Mill_question_22 rfl ?_
        refine g_if_lt (tgt := 31) d_Mill_question_23 (by decide) (fun c_23 => ?_) (fun c_23 => ?_)
        · refine g_throw (th_Mill_IAE) d_Mill_question_31 d_Mill_question_34 d_Mill_question_35 d_Mill_question_38 rfl hF.1 hF.2 (by show 2 + 3 < _; omega) (Nat.le_of_ble_eq_true rfl) ?_
          intro k z1 z2
          exact ⟨rfl, rfl, z1, z2, rfl⟩
        · refine g_iload_n d_Mill_question_26 rfl ?_
          refine g_iconst (v := 3) d_Mill_question_27 (by decide) ?_
          refine g_icmp_le (tgt := 39) d_Mill_question_28 (by decide) (fun c_28 => ?_) (fun c_28 => ?_)
          · exfalso
            rcases hx with h | h | h | h | h
            · exact c_4 h
            · exact c_8 h
            · exact c_19 h
            · exact c_23 h
            · exact h c_28
          · refine g_throw (th_Mill_IAE) d_Mill_question_31 d_Mill_question_34 d_Mill_question_35 d_Mill_question_38 rfl hF.1 hF.2 (by show 2 + 3 < _; omega) (Nat.le_of_ble_eq_true rfl) ?_
            intro k z1 z2
            exact ⟨rfl, rfl, z1, z2, rfl⟩
set_option maxHeartbeats 400000 in
set_option maxRecDepth 100000 in
theorem m_Y_question (hl : lOk E c u a n 20 2 6 1001 qs) {j q : Nat} {w : Int32} (hq : qs[j]? = some q) (h1 : ¬ c.1 1 = 0) {D : Nat} (h6 : c.1 6 = nI D) (hj : j < D) (hD : D < 2000) (hw : ¬ w < 0 ∧ w ≤ 3) : GM E Y_Mill_question (d + 40) [.ref a, .int (nI j), .int w] (yW E G a c u n sl) (rIs (some (.int (fcF u q w))) (yW E G a c u n sl)) := by
  refine g_entry (by decide) (by simp [Value.category]) (Nat.le_of_ble_eq_true rfl) ?_
  refine g_aload_n d_Mill_question_0 rfl ?_
  refine x_get (k := 0) (j := 7) (v := .int (c.1 1)) kc_Mill fl_Mill_157 (by decide) (by decide) rfl rfl d_Mill_question_1 ?_
  refine g_if_eq (tgt := 31) d_Mill_question_4 (by decide) (fun c_4 => ?_) (fun c_4 => ?_)
  · exact absurd c_4 h1
  refine g_iload_n d_Mill_question_7 rfl ?_
  refine g_if_lt (tgt := 31) d_Mill_question_8 (by decide) (fun c_8 => ?_) (fun c_8 => ?_)
  · exact absurd c_8 (nn_I (by omega))
  refine g_iload_n d_Mill_question_11 rfl ?_
  refine g_aload_n d_Mill_question_12 rfl ?_
  refine x_get (k := 0) (j := 4) (v := .ref (a + 12)) kc_Mill fl_Mill_38 (by decide) (by decide) rfl rfl d_Mill_question_13 ?_
  refine c_Vr (as := []) kv_Tree_size ml_Mill_170 rfl (x_at (k := 12) (by decide) rfl) (m_X_treeSize) rfl (Nat.le_of_ble_eq_true rfl) rfl d_Mill_question_16 rfl ?_
  refine g_icmp_ge (tgt := 31) d_Mill_question_19 (by decide) (fun c_19 => ?_) (fun c_19 => ?_)
  · exact absurd c_19 (by rw [h6]; exact ige (by omega) (by omega) hj)
  refine g_iload_n d_Mill_question_22 rfl ?_
  refine g_if_lt (tgt := 31) d_Mill_question_23 (by decide) (fun c_23 => ?_) (fun c_23 => ?_)
  · exact absurd c_23 hw.1
  refine g_iload_n d_Mill_question_26 rfl ?_
  refine g_iconst (v := 3) d_Mill_question_27 (by decide) ?_
  refine g_icmp_le (tgt := 39) d_Mill_question_28 (by decide) (fun c_28 => ?_) (fun c_28 => ?_)
  rotate_left
  · exact absurd c_28 (fun e => e hw.2)
  refine g_aload_n d_Mill_question_39 rfl ?_
  refine x_get (k := 0) (j := 4) (v := .ref (a + 12)) kc_Mill fl_Mill_38 (by decide) (by decide) rfl rfl d_Mill_question_40 ?_
  refine g_iload_n d_Mill_question_43 rfl ?_
  refine g_iload_n d_Mill_question_44 rfl ?_
  refine c_Vr (as := [.int (nI j), .int (w)]) kv_Tree_factOf ml_Mill_196 rfl (x_at (k := 12) (by decide) rfl) (m_T_fact (d := d + 36) hl hq) rfl (Nat.le_of_ble_eq_true rfl) rfl d_Mill_question_45 rfl ?_
  refine g_iret rfl d_Mill_question_48 ?_
  exact ⟨rfl, rfl⟩
set_option maxHeartbeats 400000 in
set_option maxRecDepth 100000 in
theorem m_Y_boundX (hF : gFit E (yW E G a c u n sl) 1 6) {x : Int32} (hx : ¬ (¬ x < 0 ∧ ¬ 8 ≤ x)) : GM E Y_Mill_bound (d + 40) [.ref a, .int x] (yW E G a c u n sl) (tIs "java/lang/IllegalArgumentException" (yW E G a c u n sl)) := by
  refine g_entry (by decide) (by simp [Value.category]) (Nat.le_of_ble_eq_true rfl) ?_
  have KN := m_Mill_isName (E := E) (d := d + 39) (G := yW E G a c u n sl) x
  rw [b32, if_neg hx] at KN
  refine g_iload_n d_Mill_bound_0 rfl ?_
  refine c_Sr (as := [.int (x)]) ks_Mill_isName ml_Mill_123 (KN) rfl (Nat.le_of_ble_eq_true rfl) rfl d_Mill_bound_1 rfl ?_
  refine g_if_ne (tgt := 15) d_Mill_bound_4 (by decide) (fun c_4 => absurd c_4 (by decide)) (fun c_4 => ?_)
  refine g_throw (th_Mill_IAE) d_Mill_bound_7 d_Mill_bound_10 d_Mill_bound_11 d_Mill_bound_14 rfl hF.1 hF.2 (by show 2 + 3 < _; omega) (Nat.le_of_ble_eq_true rfl) ?_
  intro k z1 z2
  exact ⟨rfl, rfl, z1, z2, rfl⟩
set_option maxHeartbeats 400000 in
set_option maxRecDepth 100000 in
theorem m_Y_bound {x v : Int32} (hx : ¬ x < 0 ∧ ¬ 8 ≤ x) (KL : GM E Y_Passage_lengthOf (d + 39) [.ref (a + 20), .int x] (yW E G a c u n sl) (rIs (some (.int v)) (yW E G a c u n sl))) : GM E Y_Mill_bound (d + 40) [.ref a, .int x] (yW E G a c u n sl) (rIs (some (.int v)) (yW E G a c u n sl)) := by
  refine g_entry (by decide) (by simp [Value.category]) (Nat.le_of_ble_eq_true rfl) ?_
  have KN := m_Mill_isName (E := E) (d := d + 39) (G := yW E G a c u n sl) x
  rw [b32, if_pos hx] at KN
  refine g_iload_n d_Mill_bound_0 rfl ?_
  refine c_Sr (as := [.int (x)]) ks_Mill_isName ml_Mill_123 (KN) rfl (Nat.le_of_ble_eq_true rfl) rfl d_Mill_bound_1 rfl ?_
  refine g_if_ne (tgt := 15) d_Mill_bound_4 (by decide) (fun c_4 => ?_) (fun c_4 => absurd c_4 (by decide))
  refine g_aload_n d_Mill_bound_15 rfl ?_
  refine x_get (k := 0) (j := 5) (v := .ref (a + 20)) kc_Mill fl_Mill_45 (by decide) (by decide) rfl rfl d_Mill_bound_16 ?_
  refine g_iload_n d_Mill_bound_19 rfl ?_
  refine c_Vr (as := [.int (x)]) kv_Passage_lengthOf ml_Mill_184 rfl (x_at (k := 20) (by decide) rfl) (KL) rfl (Nat.le_of_ble_eq_true rfl) rfl d_Mill_bound_20 rfl ?_
  refine g_iret rfl d_Mill_bound_23 ?_
  exact ⟨rfl, rfl⟩
set_option maxHeartbeats 400000 in
set_option maxRecDepth 100000 in
theorem m_Y_boundAtX (hF : gFit E (yW E G a c u n sl) 1 6) {x y : Int32} (hx : ¬ (¬ x < 0 ∧ ¬ 8 ≤ x)) : GM E Y_Mill_boundAt (d + 40) [.ref a, .int x, .int y] (yW E G a c u n sl) (tIs "java/lang/IllegalArgumentException" (yW E G a c u n sl)) := by
  refine g_entry (by decide) (by simp [Value.category]) (Nat.le_of_ble_eq_true rfl) ?_
  have KN := m_Mill_isName (E := E) (d := d + 39) (G := yW E G a c u n sl) x
  rw [b32, if_neg hx] at KN
  refine g_iload_n d_Mill_boundAt_0 rfl ?_
  refine c_Sr (as := [.int (x)]) ks_Mill_isName ml_Mill_123 (KN) rfl (Nat.le_of_ble_eq_true rfl) rfl d_Mill_boundAt_1 rfl ?_
  refine g_if_ne (tgt := 15) d_Mill_boundAt_4 (by decide) (fun c_4 => absurd c_4 (by decide)) (fun c_4 => ?_)
  refine g_throw (th_Mill_IAE) d_Mill_boundAt_7 d_Mill_boundAt_10 d_Mill_boundAt_11 d_Mill_boundAt_14 rfl hF.1 hF.2 (by show 2 + 3 < _; omega) (Nat.le_of_ble_eq_true rfl) ?_
  intro k z1 z2
  exact ⟨rfl, rfl, z1, z2, rfl⟩
set_option maxHeartbeats 400000 in
set_option maxRecDepth 100000 in
theorem m_Y_boundAt {x y v : Int32} (hx : ¬ x < 0 ∧ ¬ 8 ≤ x) (KL : GM E Y_Passage_toldOf (d + 39) [.ref (a + 20), .int x, .int y] (yW E G a c u n sl) (rIs (some (.int v)) (yW E G a c u n sl))) : GM E Y_Mill_boundAt (d + 40) [.ref a, .int x, .int y] (yW E G a c u n sl) (rIs (some (.int v)) (yW E G a c u n sl)) := by
  refine g_entry (by decide) (by simp [Value.category]) (Nat.le_of_ble_eq_true rfl) ?_
  have KN := m_Mill_isName (E := E) (d := d + 39) (G := yW E G a c u n sl) x
  rw [b32, if_pos hx] at KN
  refine g_iload_n d_Mill_boundAt_0 rfl ?_
  refine c_Sr (as := [.int (x)]) ks_Mill_isName ml_Mill_123 (KN) rfl (Nat.le_of_ble_eq_true rfl) rfl d_Mill_boundAt_1 rfl ?_
  refine g_if_ne (tgt := 15) d_Mill_boundAt_4 (by decide) (fun c_4 => ?_) (fun c_4 => absurd c_4 (by decide))
  refine g_aload_n d_Mill_boundAt_15 rfl ?_
  refine x_get (k := 0) (j := 5) (v := .ref (a + 20)) kc_Mill fl_Mill_45 (by decide) (by decide) rfl rfl d_Mill_boundAt_16 ?_
  refine g_iload_n d_Mill_boundAt_19 rfl ?_
  refine g_iload_n d_Mill_boundAt_20 rfl ?_
  refine c_Vr (as := [.int (x), .int (y)]) kv_Passage_toldOf ml_Mill_187 rfl (x_at (k := 20) (by decide) rfl) (KL) rfl (Nat.le_of_ble_eq_true rfl) rfl d_Mill_boundAt_21 rfl ?_
  refine g_iret rfl d_Mill_boundAt_24 ?_
  exact ⟨rfl, rfl⟩
set_option maxHeartbeats 400000 in
set_option maxRecDepth 100000 in
theorem m_Y_clear (h : hpOk E a B SS c u n sl ks sp ps qs ms) : GM E Y_Mill_clear (d + 40) [.ref a] (yW E G a c u n sl) (rPost none (fun G' => ∃ c' u', G' = yW E G a (cF (cF (cF c' 0 0) 1 0) 2 0) u' n sl ∧ pgP E a B SS (cF (kCl1 c) 3 0) u n ks sp ps qs [] c' u' n sl ∧ c'.1 21 = 0 ∧ ∀ k, k < 8 → c'.2.2.1 3 k = none)) := by
  refine g_entry (by decide) (by simp [Value.category]) (Nat.le_of_ble_eq_true rfl) ?_
  have hp3 : hpOk E a B SS (cF (kCl1 c) 3 0) u n sl ks sp ps qs ms := (hpOk_k (K := fun k => k = 5) h kFr_rf (fun k z => Or.inl z) (fun _ => rfl) (fun j hj => by rcases hj with rfl | rfl | rfl | rfl | rfl <;> rfl) (fun _ => rfl)).1
  refine g_aload_n d_Mill_clear_0 rfl ?_
  refine x_get (k := 0) (j := 0) (v := .ref (a + 1)) kc_Mill fl_Mill_15 (by decide) (by decide) rfl rfl d_Mill_clear_1 ?_
  refine c_Vr (as := []) kv_Types_forget ml_Mill_202 rfl (x_at (k := 1) (by decide) rfl) (m_X_forgetT (d := d + 38)) rfl (Nat.le_of_ble_eq_true rfl) rfl d_Mill_clear_4 rfl ?_
  refine g_aload_n d_Mill_clear_7 rfl ?_
  refine x_get (k := 0) (j := 1) (v := .ref (a + 8)) kc_Mill fl_Mill_26 (by decide) (by decide) rfl rfl d_Mill_clear_8 ?_
  refine g_aload_n d_Mill_clear_11 rfl ?_
  refine x_get (k := 0) (j := 1) (v := .ref (a + 8)) kc_Mill fl_Mill_26 (by decide) (by decide) rfl rfl d_Mill_clear_12 ?_
  refine c_Vr (as := []) kv_Pile_height ml_Mill_113 rfl (x_at (k := 8) (by decide) rfl) (m_X_height_8 (c := (kForT c))) rfl (Nat.le_of_ble_eq_true rfl) rfl d_Mill_clear_15 rfl ?_
  refine c_Vr (as := [.int ((kForT c).1 4)]) kv_Pile_drop ml_Mill_136 rfl (x_at (k := 8) (by decide) rfl) (m_X_drop_8 (d := d + 38) (c := (kForT c)) ((kForT c).1 4)) rfl (Nat.le_of_ble_eq_true rfl) rfl d_Mill_clear_18 rfl ?_
  refine g_aload_n d_Mill_clear_21 rfl ?_
  refine x_get (k := 0) (j := 2) (v := .ref (a + 10)) kc_Mill fl_Mill_30 (by decide) (by decide) rfl rfl d_Mill_clear_22 ?_
  refine g_aload_n d_Mill_clear_25 rfl ?_
  refine x_get (k := 0) (j := 2) (v := .ref (a + 10)) kc_Mill fl_Mill_30 (by decide) (by decide) rfl rfl d_Mill_clear_26 ?_
  refine c_Vr (as := []) kv_Pile_height ml_Mill_113 rfl (x_at (k := 10) (by decide) rfl) (m_X_height_10 (c := (kDrop (kForT c) 4))) rfl (Nat.le_of_ble_eq_true rfl) rfl d_Mill_clear_29 rfl ?_
  refine c_Vr (as := [.int ((kDrop (kForT c) 4).1 5)]) kv_Pile_drop ml_Mill_136 rfl (x_at (k := 10) (by decide) rfl) (m_X_drop_10 (d := d + 38) (c := (kDrop (kForT c) 4)) ((kDrop (kForT c) 4).1 5)) rfl (Nat.le_of_ble_eq_true rfl) rfl d_Mill_clear_32 rfl ?_
  refine g_aload_n d_Mill_clear_35 rfl ?_
  refine x_get (k := 0) (j := 3) (v := .ref (a + 5)) kc_Mill fl_Mill_19 (by decide) (by decide) rfl rfl d_Mill_clear_36 ?_
  refine c_Vr (as := []) kv_Cases_forget ml_Mill_205 rfl (x_at (k := 5) (by decide) rfl) (m_X_forgetC (c := kCl1 c)) rfl (Nat.le_of_ble_eq_true rfl) rfl d_Mill_clear_39 rfl ?_
  refine g_aload_n d_Mill_clear_42 rfl ?_
  refine x_get (k := 0) (j := 5) (v := .ref (a + 20)) kc_Mill fl_Mill_45 (by decide) (by decide) rfl rfl d_Mill_clear_43 ?_
  refine c_Vx (as := []) kv_Passage_forget ml_Mill_206 rfl (x_at (k := 20) (by decide) rfl) (m_Pg_forget (d := d + 38) hp3) rfl (Nat.le_of_ble_eq_true rfl) rfl d_Mill_clear_46 rfl (fun G_46 h_46 => ?_)
  obtain ⟨c2, u2, rfl, q1, q2, q3⟩ := h_46
  refine g_aload_n d_Mill_clear_49 rfl ?_
  refine g_iconst (v := 0) d_Mill_clear_50 (by decide) ?_
  refine x_put (c' := (cF c2 0 (0))) (k := 0) (j := 6) kc_Mill fl_Mill_56 (by decide) (by decide) rfl rfl rfl rfl (Nat.le_of_ble_eq_true rfl) rfl rfl xf_F0 d_Mill_clear_51 ?_
  refine g_aload_n d_Mill_clear_54 rfl ?_
  refine c_Vr (as := []) kv_Mill_forgetTree ml_Mill_148 rfl (x_at (k := 0) (by decide) rfl) (m_X_forgetTree (c := (cF c2 0 (0)))) rfl (Nat.le_of_ble_eq_true rfl) rfl d_Mill_clear_55 rfl ?_
  refine g_vret rfl d_Mill_clear_58 ?_
  exact ⟨rfl, c2, u2, rfl, q1, q2, q3⟩
end DD
