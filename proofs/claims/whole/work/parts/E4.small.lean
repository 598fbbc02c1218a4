/-! Cases.add, put, unusedAt, lengthOf, areArguments -/
theorem d_Mill_put_0 : decode Y_Mill_put.2.1 0 = .ok (.aload_n 1, 1) := by decide +kernel
theorem d_Mill_put_1 : decode Y_Mill_put.2.1 1 = .ok (.invokevirtual 207, 3) := by decide +kernel
theorem d_Mill_put_4 : decode Y_Mill_put.2.1 4 = .ok (.ifCond .eq 11, 3) := by decide +kernel
theorem d_Mill_put_7 : decode Y_Mill_put.2.1 7 = .ok (.new 63, 3) := by decide +kernel
theorem d_Mill_put_10 : decode Y_Mill_put.2.1 10 = .ok (.dup, 1) := by decide +kernel
theorem d_Mill_put_11 : decode Y_Mill_put.2.1 11 = .ok (.invokespecial 65, 3) := by decide +kernel
theorem d_Mill_put_14 : decode Y_Mill_put.2.1 14 = .ok (.athrow, 1) := by decide +kernel
theorem d_Mill_put_15 : decode Y_Mill_put.2.1 15 = .ok (.aload_n 0, 1) := by decide +kernel
theorem d_Mill_put_16 : decode Y_Mill_put.2.1 16 = .ok (.iconst 1, 1) := by decide +kernel
theorem d_Mill_put_17 : decode Y_Mill_put.2.1 17 = .ok (.putfield 56, 3) := by decide +kernel
theorem d_Mill_put_20 : decode Y_Mill_put.2.1 20 = .ok (.aload_n 1, 1) := by decide +kernel
theorem d_Mill_put_21 : decode Y_Mill_put.2.1 21 = .ok (.aload_n 2, 1) := by decide +kernel
theorem d_Mill_put_22 : decode Y_Mill_put.2.1 22 = .ok (.invokevirtual 210, 3) := by decide +kernel
theorem d_Mill_put_25 : decode Y_Mill_put.2.1 25 = .ok (.ireturn, 1) := by decide +kernel
theorem d_Tree_unusedAt_0 : decode Y_Tree_unusedAt.2.1 0 = .ok (.iconst 0, 1) := by decide +kernel
theorem d_Tree_unusedAt_1 : decode Y_Tree_unusedAt.2.1 1 = .ok (.istore_n 2, 1) := by decide +kernel
theorem d_Tree_unusedAt_2 : decode Y_Tree_unusedAt.2.1 2 = .ok (.iconst 0, 1) := by decide +kernel
theorem d_Tree_unusedAt_3 : decode Y_Tree_unusedAt.2.1 3 = .ok (.istore_n 3, 1) := by decide +kernel
theorem d_Tree_unusedAt_4 : decode Y_Tree_unusedAt.2.1 4 = .ok (.iload_n 3, 1) := by decide +kernel
theorem d_Tree_unusedAt_5 : decode Y_Tree_unusedAt.2.1 5 = .ok (.aload_n 0, 1) := by decide +kernel
theorem d_Tree_unusedAt_6 : decode Y_Tree_unusedAt.2.1 6 = .ok (.getfield 43, 3) := by decide +kernel
theorem d_Tree_unusedAt_9 : decode Y_Tree_unusedAt.2.1 9 = .ok (.invokevirtual 266, 3) := by decide +kernel
theorem d_Tree_unusedAt_12 : decode Y_Tree_unusedAt.2.1 12 = .ok (.if_icmp .ge 30, 3) := by decide +kernel
theorem d_Tree_unusedAt_15 : decode Y_Tree_unusedAt.2.1 15 = .ok (.aload_n 0, 1) := by decide +kernel
theorem d_Tree_unusedAt_16 : decode Y_Tree_unusedAt.2.1 16 = .ok (.getfield 99, 3) := by decide +kernel
theorem d_Tree_unusedAt_19 : decode Y_Tree_unusedAt.2.1 19 = .ok (.iload_n 3, 1) := by decide +kernel
theorem d_Tree_unusedAt_20 : decode Y_Tree_unusedAt.2.1 20 = .ok (.ishr, 1) := by decide +kernel
theorem d_Tree_unusedAt_21 : decode Y_Tree_unusedAt.2.1 21 = .ok (.iconst 1, 1) := by decide +kernel
theorem d_Tree_unusedAt_22 : decode Y_Tree_unusedAt.2.1 22 = .ok (.iand, 1) := by decide +kernel
theorem d_Tree_unusedAt_23 : decode Y_Tree_unusedAt.2.1 23 = .ok (.ifCond .ne 13, 3) := by decide +kernel
theorem d_Tree_unusedAt_26 : decode Y_Tree_unusedAt.2.1 26 = .ok (.iload_n 2, 1) := by decide +kernel
theorem d_Tree_unusedAt_27 : decode Y_Tree_unusedAt.2.1 27 = .ok (.iload_n 1, 1) := by decide +kernel
theorem d_Tree_unusedAt_28 : decode Y_Tree_unusedAt.2.1 28 = .ok (.if_icmp .ne 5, 3) := by decide +kernel
theorem d_Tree_unusedAt_31 : decode Y_Tree_unusedAt.2.1 31 = .ok (.iload_n 3, 1) := by decide +kernel
theorem d_Tree_unusedAt_32 : decode Y_Tree_unusedAt.2.1 32 = .ok (.ireturn, 1) := by decide +kernel
theorem d_Tree_unusedAt_33 : decode Y_Tree_unusedAt.2.1 33 = .ok (.iinc 2 1, 3) := by decide +kernel
theorem d_Tree_unusedAt_36 : decode Y_Tree_unusedAt.2.1 36 = .ok (.iinc 3 1, 3) := by decide +kernel
theorem d_Tree_unusedAt_39 : decode Y_Tree_unusedAt.2.1 39 = .ok (.goto (-35), 3) := by decide +kernel
theorem d_Tree_unusedAt_42 : decode Y_Tree_unusedAt.2.1 42 = .ok (.iconst (-1), 1) := by decide +kernel
theorem d_Tree_unusedAt_43 : decode Y_Tree_unusedAt.2.1 43 = .ok (.ireturn, 1) := by decide +kernel
theorem d_Types_areArguments_0 : decode Y_Types_areArguments.2.1 0 = .ok (.aload_n 0, 1) := by decide +kernel
theorem d_Types_areArguments_1 : decode Y_Types_areArguments.2.1 1 = .ok (.iload_n 1, 1) := by decide +kernel
theorem d_Types_areArguments_2 : decode Y_Types_areArguments.2.1 2 = .ok (.iload_n 2, 1) := by decide +kernel
theorem d_Types_areArguments_3 : decode Y_Types_areArguments.2.1 3 = .ok (.invokevirtual 38, 3) := by decide +kernel
theorem d_Types_areArguments_6 : decode Y_Types_areArguments.2.1 6 = .ok (.istore 4, 2) := by decide +kernel
theorem d_Types_areArguments_8 : decode Y_Types_areArguments.2.1 8 = .ok (.aload_n 3, 1) := by decide +kernel
theorem d_Types_areArguments_9 : decode Y_Types_areArguments.2.1 9 = .ok (.invokevirtual 42, 3) := by decide +kernel
theorem d_Types_areArguments_12 : decode Y_Types_areArguments.2.1 12 = .ok (.iload 4, 2) := by decide +kernel
theorem d_Types_areArguments_14 : decode Y_Types_areArguments.2.1 14 = .ok (.if_icmp .ge 5, 3) := by decide +kernel
theorem d_Types_areArguments_17 : decode Y_Types_areArguments.2.1 17 = .ok (.iconst 0, 1) := by decide +kernel
theorem d_Types_areArguments_18 : decode Y_Types_areArguments.2.1 18 = .ok (.ireturn, 1) := by decide +kernel
theorem d_Types_areArguments_19 : decode Y_Types_areArguments.2.1 19 = .ok (.iload_n 1, 1) := by decide +kernel
theorem d_Types_areArguments_20 : decode Y_Types_areArguments.2.1 20 = .ok (.bipush 8, 2) := by decide +kernel
theorem d_Types_areArguments_22 : decode Y_Types_areArguments.2.1 22 = .ok (.imul, 1) := by decide +kernel
theorem d_Types_areArguments_23 : decode Y_Types_areArguments.2.1 23 = .ok (.iload_n 2, 1) := by decide +kernel
theorem d_Types_areArguments_24 : decode Y_Types_areArguments.2.1 24 = .ok (.iadd, 1) := by decide +kernel
theorem d_Types_areArguments_25 : decode Y_Types_areArguments.2.1 25 = .ok (.iconst 4, 1) := by decide +kernel
theorem d_Types_areArguments_26 : decode Y_Types_areArguments.2.1 26 = .ok (.imul, 1) := by decide +kernel
theorem d_Types_areArguments_27 : decode Y_Types_areArguments.2.1 27 = .ok (.istore 5, 2) := by decide +kernel
theorem d_Types_areArguments_29 : decode Y_Types_areArguments.2.1 29 = .ok (.iconst 0, 1) := by decide +kernel
theorem d_Types_areArguments_30 : decode Y_Types_areArguments.2.1 30 = .ok (.istore 6, 2) := by decide +kernel
theorem d_Types_areArguments_32 : decode Y_Types_areArguments.2.1 32 = .ok (.iload 6, 2) := by decide +kernel
theorem d_Types_areArguments_34 : decode Y_Types_areArguments.2.1 34 = .ok (.iload 4, 2) := by decide +kernel
theorem d_Types_areArguments_36 : decode Y_Types_areArguments.2.1 36 = .ok (.if_icmp .ge 35, 3) := by decide +kernel
theorem d_Types_areArguments_39 : decode Y_Types_areArguments.2.1 39 = .ok (.aload_n 3, 1) := by decide +kernel
theorem d_Types_areArguments_40 : decode Y_Types_areArguments.2.1 40 = .ok (.iload 4, 2) := by decide +kernel
theorem d_Types_areArguments_42 : decode Y_Types_areArguments.2.1 42 = .ok (.iconst 1, 1) := by decide +kernel
theorem d_Types_areArguments_43 : decode Y_Types_areArguments.2.1 43 = .ok (.isub, 1) := by decide +kernel
theorem d_Types_areArguments_44 : decode Y_Types_areArguments.2.1 44 = .ok (.iload 6, 2) := by decide +kernel
theorem d_Types_areArguments_46 : decode Y_Types_areArguments.2.1 46 = .ok (.isub, 1) := by decide +kernel
theorem d_Types_areArguments_47 : decode Y_Types_areArguments.2.1 47 = .ok (.invokevirtual 48, 3) := by decide +kernel
theorem d_Types_areArguments_50 : decode Y_Types_areArguments.2.1 50 = .ok (.aload_n 0, 1) := by decide +kernel
theorem d_Types_areArguments_51 : decode Y_Types_areArguments.2.1 51 = .ok (.getfield 18, 3) := by decide +kernel
theorem d_Types_areArguments_54 : decode Y_Types_areArguments.2.1 54 = .ok (.iload 5, 2) := by decide +kernel
theorem d_Types_areArguments_56 : decode Y_Types_areArguments.2.1 56 = .ok (.iload 6, 2) := by decide +kernel
theorem d_Types_areArguments_58 : decode Y_Types_areArguments.2.1 58 = .ok (.iadd, 1) := by decide +kernel
theorem d_Types_areArguments_59 : decode Y_Types_areArguments.2.1 59 = .ok (.iaload, 1) := by decide +kernel
theorem d_Types_areArguments_60 : decode Y_Types_areArguments.2.1 60 = .ok (.if_icmp .eq 5, 3) := by decide +kernel
theorem d_Types_areArguments_63 : decode Y_Types_areArguments.2.1 63 = .ok (.iconst 0, 1) := by decide +kernel
theorem d_Types_areArguments_64 : decode Y_Types_areArguments.2.1 64 = .ok (.ireturn, 1) := by decide +kernel
theorem d_Types_areArguments_65 : decode Y_Types_areArguments.2.1 65 = .ok (.iinc 6 1, 3) := by decide +kernel
theorem d_Types_areArguments_68 : decode Y_Types_areArguments.2.1 68 = .ok (.goto (-36), 3) := by decide +kernel
theorem d_Types_areArguments_71 : decode Y_Types_areArguments.2.1 71 = .ok (.iconst 1, 1) := by decide +kernel
theorem d_Types_areArguments_72 : decode Y_Types_areArguments.2.1 72 = .ok (.ireturn, 1) := by decide +kernel
section DA
variable {E : gE} {d : Nat} {G G0 G1 : gS} {a : Nat} {c c' c0 c1 : cS} {u u' u2 u0 : uS} {n n' n2 n1 sl sl' sl2 : Nat} {Q : gO → gS → Prop} {tp l l0 : List Nat}
set_option maxHeartbeats 400000 in
set_option maxRecDepth 100000 in
theorem m_C_add {k t : Nat} {x : Int32} (hk : k < 20) (h3 : c.1 3 = nI k) (ht : zIs u a t 7) (hx : x = 0 ∨ x = 1) : GM E Y_Cases_add d [.ref (a + 5), .ref t, .int x] (yW E G a c u n sl) (rIs (some (.int (nI k))) (yW E G a (cF (cA (cT c 0 k (some t)) 3 k x) 3 (nI (k + 1))) u n sl)) := by
  refine g_entry (by decide) (by simp [Value.category]) (Nat.le_of_ble_eq_true rfl) ?_
  refine g_aload_n d_Cases_add_0 rfl ?_
  refine x_get (k := 5) (j := 0) (v := .ref (a + 6)) kc_Cases fl_Cases_11 (by decide) (by decide) rfl rfl d_Cases_add_1 ?_
  refine g_aload_n d_Cases_add_4 rfl ?_
  refine x_get (k := 5) (j := 2) (v := .int (c.1 3)) kc_Cases fl_Cases_21 (by decide) (by decide) rfl rfl d_Cases_add_5 ?_
  rw [h3]
  refine g_aload_n d_Cases_add_8 rfl ?_
  refine x_tst (c' := (cT c 0 (k) (some (t)))) (k := 6) (q := k) (by decide) rfl (nI_hi (by omega)) hk (z_at ht (by decide)) rfl xf_T0 d_Cases_add_9 ?_
  refine g_aload_n d_Cases_add_10 rfl ?_
  refine x_get (k := 5) (j := 1) (v := .ref (a + 7)) kc_Cases fl_Cases_17 (by decide) (by decide) rfl rfl d_Cases_add_11 ?_
  refine g_aload_n d_Cases_add_14 rfl ?_
  refine x_get (k := 5) (j := 2) (v := .int (c.1 3)) kc_Cases fl_Cases_21 (by decide) (by decide) rfl rfl d_Cases_add_15 ?_
  rw [h3]
  refine g_iload_n d_Cases_add_18 rfl ?_
  refine g_zast (j := k) (x_at (k := 7) (by decide) rfl) (nI_hi (by omega)) hk (by rcases hx with z | z <;> rw [z] <;> rfl) d_Cases_add_19 ?_
  rw [x_up (k := 7) (c' := (cA (cT c 0 k (some t)) 3 k x)) (y := gAZ E 20 (upd ((cT c 0 k (some t)).2.1 3) k x)) (by decide) rfl xf_A3]
  refine g_aload_n d_Cases_add_20 rfl ?_
  refine g_dup d_Cases_add_21 rfl ?_
  refine x_get (k := 5) (j := 2) (v := .int (c.1 3)) kc_Cases fl_Cases_21 (by decide) (by decide) rfl rfl d_Cases_add_22 ?_
  rw [h3]
  refine g_iconst (v := 1) d_Cases_add_25 (by decide) ?_
  refine g_iadd d_Cases_add_26 ?_
  refine g_top (nI (k + 1)) (nI_1 k) ?_
  refine x_put (c' := (cF (cA (cT c 0 (k) (some t)) 3 (k) (x)) 3 (nI (k + 1)))) (k := 5) (j := 2) kc_Cases fl_Cases_21 (by decide) (by decide) rfl rfl rfl rfl (Nat.le_of_ble_eq_true rfl) rfl rfl xf_F3 d_Cases_add_27 ?_
  refine g_aload_n d_Cases_add_30 rfl ?_
  refine x_get (k := 5) (j := 2) (v := .int (nI (k + 1))) kc_Cases fl_Cases_21 (by decide) (by decide) rfl rfl d_Cases_add_31 ?_
  refine g_iconst (v := 1) d_Cases_add_34 (by decide) ?_
  refine g_isub d_Cases_add_35 ?_
  refine g_top (nI k) (nI_s1 (by omega)) ?_
  refine g_iret rfl d_Cases_add_36 ?_
  exact ⟨rfl, rfl⟩
set_option maxHeartbeats 400000 in
set_option maxRecDepth 100000 in
theorem m_M_put_8 (hp : pil c 1 4 l) (hz : pilT u a l) {t : Nat} (hl : l.length < 40) (ht : zIs u a t 7) : GM E Y_Mill_put (d + 1) [.ref a, .ref (a + 8), .ref t] (yW E G a c u n sl) (rPost (some (.int (nI (l.length + 1)))) (fun G' => ∃ c', G' = yW E G a c' u n sl ∧ pil c' 1 4 (l ++ [t]) ∧ c'.1 0 = 1 ∧ (∀ i, i ≠ 0 → i ≠ 4 → c'.1 i = c.1 i) ∧ c'.2.1 = c.2.1 ∧ (∀ i, i ≠ 1 → c'.2.2.1 i = c.2.2.1 i) ∧ c'.2.2.2 = c.2.2.2)) := by
  refine g_entry (by decide) (by simp [Value.category]) (Nat.le_of_ble_eq_true rfl) ?_
  have KF := m_Y_full_8 (E := E) (d := d) (G := G) (n := n) (sl := sl) hp hz
  rw [if_neg (by omega)] at KF
  have hp1 : pil (cF c 0 1) 1 4 l := hp
  refine g_aload_n d_Mill_put_0 rfl ?_
  refine c_Vr (as := []) kv_Pile_isFull ml_Mill_207 rfl (x_at (k := 8) (by decide) rfl) (KF) rfl (Nat.le_of_ble_eq_true rfl) rfl d_Mill_put_1 rfl ?_
  refine g_if_eq (tgt := 15) d_Mill_put_4 (by decide) (fun c_4 => ?_) (fun c_4 => absurd c_4 (by decide))
  refine g_aload_n d_Mill_put_15 rfl ?_
  refine g_iconst (v := 1) d_Mill_put_16 (by decide) ?_
  refine x_put (c' := (cF c 0 (1))) (k := 0) (j := 6) kc_Mill fl_Mill_56 (by decide) (by decide) rfl rfl rfl rfl (Nat.le_of_ble_eq_true rfl) rfl rfl xf_F0 d_Mill_put_17 ?_
  refine g_aload_n d_Mill_put_20 rfl ?_
  refine g_aload_n d_Mill_put_21 rfl ?_
  refine c_Vx (as := [.ref (t)]) kv_Pile_lay ml_Mill_210 rfl (x_at (k := 8) (by decide) rfl) (m_Y_lay_8 hp1 hz hl ht) rfl (Nat.le_of_ble_eq_true rfl) rfl d_Mill_put_22 rfl (fun G_22 h_22 => ?_)
  obtain ⟨c2, rfl, q1, q2, q3, q4, q5⟩ := h_22
  refine g_iret rfl d_Mill_put_25 ?_
  exact ⟨rfl, c2, rfl, q1, by rw [q2 0 (by decide)]; rfl, fun i h0 hh => (q2 i hh).trans (up_ne h0), q3, q4, q5⟩
set_option maxHeartbeats 400000 in
set_option maxRecDepth 100000 in
theorem m_M_put_10 (hp : pil c 2 5 l) (hz : pilT u a l) {t : Nat} (hl : l.length < 40) (ht : zIs u a t 7) : GM E Y_Mill_put (d + 1) [.ref a, .ref (a + 10), .ref t] (yW E G a c u n sl) (rPost (some (.int (nI (l.length + 1)))) (fun G' => ∃ c', G' = yW E G a c' u n sl ∧ pil c' 2 5 (l ++ [t]) ∧ c'.1 0 = 1 ∧ (∀ i, i ≠ 0 → i ≠ 5 → c'.1 i = c.1 i) ∧ c'.2.1 = c.2.1 ∧ (∀ i, i ≠ 2 → c'.2.2.1 i = c.2.2.1 i) ∧ c'.2.2.2 = c.2.2.2)) := by
  refine g_entry (by decide) (by simp [Value.category]) (Nat.le_of_ble_eq_true rfl) ?_
  have KF := m_Y_full_10 (E := E) (d := d) (G := G) (n := n) (sl := sl) hp hz
  rw [if_neg (by omega)] at KF
  have hp1 : pil (cF c 0 1) 2 5 l := hp
  refine g_aload_n d_Mill_put_0 rfl ?_
  refine c_Vr (as := []) kv_Pile_isFull ml_Mill_207 rfl (x_at (k := 10) (by decide) rfl) (KF) rfl (Nat.le_of_ble_eq_true rfl) rfl d_Mill_put_1 rfl ?_
  refine g_if_eq (tgt := 15) d_Mill_put_4 (by decide) (fun c_4 => ?_) (fun c_4 => absurd c_4 (by decide))
  refine g_aload_n d_Mill_put_15 rfl ?_
  refine g_iconst (v := 1) d_Mill_put_16 (by decide) ?_
  refine x_put (c' := (cF c 0 (1))) (k := 0) (j := 6) kc_Mill fl_Mill_56 (by decide) (by decide) rfl rfl rfl rfl (Nat.le_of_ble_eq_true rfl) rfl rfl xf_F0 d_Mill_put_17 ?_
  refine g_aload_n d_Mill_put_20 rfl ?_
  refine g_aload_n d_Mill_put_21 rfl ?_
  refine c_Vx (as := [.ref (t)]) kv_Pile_lay ml_Mill_210 rfl (x_at (k := 10) (by decide) rfl) (m_Y_lay_10 hp1 hz hl ht) rfl (Nat.le_of_ble_eq_true rfl) rfl d_Mill_put_22 rfl (fun G_22 h_22 => ?_)
  obtain ⟨c2, rfl, q1, q2, q3, q4, q5⟩ := h_22
  refine g_iret rfl d_Mill_put_25 ?_
  exact ⟨rfl, c2, rfl, q1, by rw [q2 0 (by decide)]; rfl, fun i h0 hh => (q2 i hh).trans (up_ne h0), q3, q4, q5⟩
/-- the i-th case that was never taken -/
def unF (tk : Int32) (x : Int32) : Nat → Nat → Int32 → Int32
  | 0, _, _ => -1
  | w + 1, k, b => if (tk >>> (nI k &&& 31)) &&& 1 = 0 then (if b = x then nI k else unF tk x w (k + 1) (b + 1)) else unF tk x w (k + 1) b
set_option maxHeartbeats 400000 in
set_option maxRecDepth 100000 in
theorem m_T_un4 {x : Int32} {K : Nat} (h3 : c.1 3 = nI K) (hK : K ≤ 20) : ∀ (w k : Nat) (b : Int32), k + w = K → GT E Y_Tree_unusedAt (d + 1) G0 4 [(0, .ref (a + 12)), (1, .int x), (2, .int b), (3, .int (nI k))] [] (yW E G a c u n sl) (rIs (some (.int (unF (c.1 9) x w k b))) (yW E G a c u n sl)) := by
  intro w
  induction w with
  | zero =>
    intro k b hk
    obtain rfl : k = K := by omega
    refine g_iload_n d_Tree_unusedAt_4 rfl ?_
    refine g_aload_n d_Tree_unusedAt_5 rfl ?_
    refine x_get (k := 12) (j := 1) (v := .ref (a + 5)) kc_Tree fl_Tree_43 (by decide) (by decide) rfl rfl d_Tree_unusedAt_6 ?_
    refine c_Vr (as := []) kv_Cases_size ml_Tree_266 rfl (x_at (k := 5) (by decide) rfl) (m_C_size) rfl (Nat.le_of_ble_eq_true rfl) rfl d_Tree_unusedAt_9 rfl ?_
    rw [h3]
    refine g_icmp_ge (tgt := 42) d_Tree_unusedAt_12 (by decide) (fun c_12 => ?_) (fun c_12 => ?_)
    rotate_left
    · exact absurd c_12 (fun q => q (Int32.le_refl _))
    refine g_iconst (v := (-1)) d_Tree_unusedAt_42 (by decide) ?_
    refine g_iret rfl d_Tree_unusedAt_43 ?_
    exact ⟨rfl, rfl⟩
  | succ w ih =>
    intro k b hk
    simp only [unF]
    by_cases hb : (c.1 9 >>> (nI k &&& 31)) &&& 1 = 0
    · rw [if_pos hb]
      by_cases hx : b = x
      · rw [if_pos hx]
        refine g_iload_n d_Tree_unusedAt_4 rfl ?_
        refine g_aload_n d_Tree_unusedAt_5 rfl ?_
        refine x_get (k := 12) (j := 1) (v := .ref (a + 5)) kc_Tree fl_Tree_43 (by decide) (by decide) rfl rfl d_Tree_unusedAt_6 ?_
        refine c_Vr (as := []) kv_Cases_size ml_Tree_266 rfl (x_at (k := 5) (by decide) rfl) (m_C_size) rfl (Nat.le_of_ble_eq_true rfl) rfl d_Tree_unusedAt_9 rfl ?_
        rw [h3]
        refine g_icmp_ge (tgt := 42) d_Tree_unusedAt_12 (by decide) (fun c_12 => ?_) (fun c_12 => ?_)
        · exact absurd c_12 (ige (by omega) (by omega) (by omega))
        refine g_aload_n d_Tree_unusedAt_15 rfl ?_
        refine x_get (k := 12) (j := 10) (v := .int (c.1 9)) kc_Tree fl_Tree_99 (by decide) (by decide) rfl rfl d_Tree_unusedAt_16 ?_
        refine g_iload_n d_Tree_unusedAt_19 rfl ?_
        refine g_ishr d_Tree_unusedAt_20 ?_
        refine g_iconst (v := 1) d_Tree_unusedAt_21 (by decide) ?_
        refine g_iand d_Tree_unusedAt_22 ?_
        refine g_if_ne (tgt := 36) d_Tree_unusedAt_23 (by decide) (fun c_23 => ?_) (fun c_23 => ?_)
        · exact absurd c_23 (fun q => q hb)
        refine g_iload_n d_Tree_unusedAt_26 rfl ?_
        refine g_iload_n d_Tree_unusedAt_27 rfl ?_
        refine g_icmp_ne (tgt := 33) d_Tree_unusedAt_28 (by decide) (fun c_28 => ?_) (fun c_28 => ?_)
        · exact absurd c_28 (fun q => q hx)
        refine g_iload_n d_Tree_unusedAt_31 rfl ?_
        refine g_iret rfl d_Tree_unusedAt_32 ?_
        exact ⟨rfl, rfl⟩
      · rw [if_neg hx]
        refine g_iload_n d_Tree_unusedAt_4 rfl ?_
        refine g_aload_n d_Tree_unusedAt_5 rfl ?_
        refine x_get (k := 12) (j := 1) (v := .ref (a + 5)) kc_Tree fl_Tree_43 (by decide) (by decide) rfl rfl d_Tree_unusedAt_6 ?_
        refine c_Vr (as := []) kv_Cases_size ml_Tree_266 rfl (x_at (k := 5) (by decide) rfl) (m_C_size) rfl (Nat.le_of_ble_eq_true rfl) rfl d_Tree_unusedAt_9 rfl ?_
        rw [h3]
        refine g_icmp_ge (tgt := 42) d_Tree_unusedAt_12 (by decide) (fun c_12 => ?_) (fun c_12 => ?_)
        · exact absurd c_12 (ige (by omega) (by omega) (by omega))
        refine g_aload_n d_Tree_unusedAt_15 rfl ?_
        refine x_get (k := 12) (j := 10) (v := .int (c.1 9)) kc_Tree fl_Tree_99 (by decide) (by decide) rfl rfl d_Tree_unusedAt_16 ?_
        refine g_iload_n d_Tree_unusedAt_19 rfl ?_
        refine g_ishr d_Tree_unusedAt_20 ?_
        refine g_iconst (v := 1) d_Tree_unusedAt_21 (by decide) ?_
        refine g_iand d_Tree_unusedAt_22 ?_
        refine g_if_ne (tgt := 36) d_Tree_unusedAt_23 (by decide) (fun c_23 => ?_) (fun c_23 => ?_)
        · exact absurd c_23 (fun q => q hb)
        refine g_iload_n d_Tree_unusedAt_26 rfl ?_
        refine g_iload_n d_Tree_unusedAt_27 rfl ?_
        refine g_icmp_ne (tgt := 33) d_Tree_unusedAt_28 (by decide) (fun c_28 => ?_) (fun c_28 => ?_)
        rotate_left
        · exact absurd c_28 (fun q => hx q)
        refine g_iinc (v := b + 1) d_Tree_unusedAt_33 rfl (by rfl) (by decide) rfl ?_
        refine g_iinc (v := nI (k + 1)) d_Tree_unusedAt_36 rfl (nI_1 k) (by decide) rfl ?_
        refine g_goto (tgt := 4) d_Tree_unusedAt_39 (by decide) ?_
        exact ih (k + 1) (b + 1) (by omega)
    · rw [if_neg hb]
      refine g_iload_n d_Tree_unusedAt_4 rfl ?_
      refine g_aload_n d_Tree_unusedAt_5 rfl ?_
      refine x_get (k := 12) (j := 1) (v := .ref (a + 5)) kc_Tree fl_Tree_43 (by decide) (by decide) rfl rfl d_Tree_unusedAt_6 ?_
      refine c_Vr (as := []) kv_Cases_size ml_Tree_266 rfl (x_at (k := 5) (by decide) rfl) (m_C_size) rfl (Nat.le_of_ble_eq_true rfl) rfl d_Tree_unusedAt_9 rfl ?_
      rw [h3]
      refine g_icmp_ge (tgt := 42) d_Tree_unusedAt_12 (by decide) (fun c_12 => ?_) (fun c_12 => ?_)
      · exact absurd c_12 (ige (by omega) (by omega) (by omega))
      refine g_aload_n d_Tree_unusedAt_15 rfl ?_
      refine x_get (k := 12) (j := 10) (v := .int (c.1 9)) kc_Tree fl_Tree_99 (by decide) (by decide) rfl rfl d_Tree_unusedAt_16 ?_
      refine g_iload_n d_Tree_unusedAt_19 rfl ?_
      refine g_ishr d_Tree_unusedAt_20 ?_
      refine g_iconst (v := 1) d_Tree_unusedAt_21 (by decide) ?_
      refine g_iand d_Tree_unusedAt_22 ?_
      refine g_if_ne (tgt := 36) d_Tree_unusedAt_23 (by decide) (fun c_23 => ?_) (fun c_23 => ?_)
      rotate_left
      · exact absurd c_23 (fun q => hb q)
      refine g_iinc (v := nI (k + 1)) d_Tree_unusedAt_36 rfl (nI_1 k) (by decide) rfl ?_
      refine g_goto (tgt := 4) d_Tree_unusedAt_39 (by decide) ?_
      exact ih (k + 1) b (by omega)
set_option maxHeartbeats 400000 in
set_option maxRecDepth 100000 in
theorem m_T_unused {x : Int32} {K : Nat} (h3 : c.1 3 = nI K) (hK : K ≤ 20) : GM E Y_Tree_unusedAt (d + 1) [.ref (a + 12), .int x] (yW E G a c u n sl) (rIs (some (.int (unF (c.1 9) x K 0 0))) (yW E G a c u n sl)) := by
  refine g_entry (by decide) (by simp [Value.category]) (Nat.le_of_ble_eq_true rfl) ?_
  refine g_iconst (v := 0) d_Tree_unusedAt_0 (by decide) ?_
  refine g_istore_n d_Tree_unusedAt_1 (by decide) rfl ?_
  refine g_iconst (v := 0) d_Tree_unusedAt_2 (by decide) ?_
  refine g_istore_n d_Tree_unusedAt_3 (by decide) rfl ?_
  exact m_T_un4 h3 hK K 0 0 (by omega)
set_option maxHeartbeats 400000 in
set_option maxRecDepth 100000 in
theorem m_Pg_len {k t : Nat} (hk : k < 8) (h : c.2.2.1 3 k = some t) (ht : zIs u a t 7) : GM E Y_Passage_lengthOf d [.ref (a + 20), .int (nI k)] (yW E G a c u n sl) (rIs (some (.int (2 * u.2.2.1 t 4))) (yW E G a c u n sl)) := by
  refine g_entry (by decide) (by simp [Value.category]) (Nat.le_of_ble_eq_true rfl) ?_
  refine g_aload_n d_Passage_lengthOf_0 rfl ?_
  refine x_get (k := 20) (j := 1) (v := .ref (a + 22)) kc_Passage fl_Passage_17 (by decide) (by decide) rfl rfl d_Passage_lengthOf_1 ?_
  refine g_iload_n d_Passage_lengthOf_4 rfl ?_
  refine g_taldS (j := k) (x_at (k := 22) (by decide) rfl) (nI_hi (by omega)) hk h d_Passage_lengthOf_5 ?_
  refine g_astore_n d_Passage_lengthOf_6 (by decide) rfl ?_
  refine g_aload_n d_Passage_lengthOf_7 rfl ?_
  refine g_ifnonnull (tgt := 15) d_Passage_lengthOf_8 (by decide) ?_
  refine g_iconst (v := 2) d_Passage_lengthOf_15 (by decide) ?_
  refine g_aload_n d_Passage_lengthOf_16 rfl ?_
  refine z_get (k := 7) (j := 4) (v := .int (u.2.2.1 t 4)) kc_Term fl_Passage_58 (by decide) ht (by decide) rfl rfl d_Passage_lengthOf_17 ?_
  refine g_imul d_Passage_lengthOf_20 ?_
  refine g_iret rfl d_Passage_lengthOf_21 ?_
  exact ⟨rfl, rfl⟩
end DA
