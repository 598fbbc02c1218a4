/-! Types.areArguments, Tree.factOf -/
theorem d_Tree_factOf_0 : decode Y_Tree_factOf.2.1 0 = .ok (.aload_n 0, 1) := by decide +kernel
theorem d_Tree_factOf_1 : decode Y_Tree_factOf.2.1 1 = .ok (.getfield 28, 3) := by decide +kernel
theorem d_Tree_factOf_4 : decode Y_Tree_factOf.2.1 4 = .ok (.iload_n 1, 1) := by decide +kernel
theorem d_Tree_factOf_5 : decode Y_Tree_factOf.2.1 5 = .ok (.invokevirtual 63, 3) := by decide +kernel
theorem d_Tree_factOf_8 : decode Y_Tree_factOf.2.1 8 = .ok (.checkcast 67, 3) := by decide +kernel
theorem d_Tree_factOf_11 : decode Y_Tree_factOf.2.1 11 = .ok (.astore_n 3, 1) := by decide +kernel
theorem d_Tree_factOf_12 : decode Y_Tree_factOf.2.1 12 = .ok (.iload_n 2, 1) := by decide +kernel
theorem d_Tree_factOf_13 : decode Y_Tree_factOf.2.1 13 = .ok (.tableswitch 42 0 2 #[27, 32, 37], 27) := by decide +kernel
theorem d_Tree_factOf_40 : decode Y_Tree_factOf.2.1 40 = .ok (.aload_n 3, 1) := by decide +kernel
theorem d_Tree_factOf_41 : decode Y_Tree_factOf.2.1 41 = .ok (.getfield 195, 3) := by decide +kernel
theorem d_Tree_factOf_44 : decode Y_Tree_factOf.2.1 44 = .ok (.ireturn, 1) := by decide +kernel
theorem d_Tree_factOf_45 : decode Y_Tree_factOf.2.1 45 = .ok (.aload_n 3, 1) := by decide +kernel
theorem d_Tree_factOf_46 : decode Y_Tree_factOf.2.1 46 = .ok (.getfield 72, 3) := by decide +kernel
theorem d_Tree_factOf_49 : decode Y_Tree_factOf.2.1 49 = .ok (.ireturn, 1) := by decide +kernel
theorem d_Tree_factOf_50 : decode Y_Tree_factOf.2.1 50 = .ok (.aload_n 3, 1) := by decide +kernel
theorem d_Tree_factOf_51 : decode Y_Tree_factOf.2.1 51 = .ok (.getfield 192, 3) := by decide +kernel
theorem d_Tree_factOf_54 : decode Y_Tree_factOf.2.1 54 = .ok (.ireturn, 1) := by decide +kernel
theorem d_Tree_factOf_55 : decode Y_Tree_factOf.2.1 55 = .ok (.aload_n 3, 1) := by decide +kernel
theorem d_Tree_factOf_56 : decode Y_Tree_factOf.2.1 56 = .ok (.getfield 203, 3) := by decide +kernel
theorem d_Tree_factOf_59 : decode Y_Tree_factOf.2.1 59 = .ok (.ireturn, 1) := by decide +kernel
section DB
variable {E : gE} {d : Nat} {G G0 G1 : gS} {a : Nat} {c c' c0 c1 : cS} {u u' u2 u0 : uS} {n n' n2 n1 sl sl' sl2 : Nat} {Q : gO → gS → Prop} {tp l l0 : List Nat}
/-- types one behind another are the arguments from b on -/
def arF (u : uS) (g : Nat → Int32) : List Nat → Nat → Int32
  | [], _ => 1
  | t :: r, b => if u.2.2.1 t 0 = g b then arF u g r (b + 1) else 0
set_option maxHeartbeats 400000 in
set_option maxRecDepth 100000 in
theorem m_Ty_args32_8 {x q : Int32} {b : Nat} (hp : pil c 1 4 (l0 ++ tp)) (hz : pilT u a (l0 ++ tp)) (hb : b + tp.length ≤ 512) : ∀ (r lt : List Nat), tp = lt ++ r → GT E Y_Types_areArguments (d + 2) G0 32 [(0, .ref (a + 1)), (1, .int x), (2, .int q), (3, .ref (a + 8)), (4, .int (nI (lt.length + r.length))), (5, .int (nI b)), (6, .int (nI lt.length))] [] (yW E G a c u n sl) (rIs (some (.int (arF u (c.2.1 2) r (b + lt.length)))) (yW E G a c u n sl)) := by
  have h40 := hp.2.1
  have hl : (l0 ++ tp).length = l0.length + tp.length := List.length_append
  intro r
  induction r with
  | nil =>
    intro lt e
    refine g_iload d_Types_areArguments_32 rfl ?_
    refine g_iload d_Types_areArguments_34 rfl ?_
    refine g_icmp_ge (tgt := 71) d_Types_areArguments_36 (by decide) (fun c_36 => ?_) (fun c_36 => ?_)
    rotate_left
    · exact absurd c_36 (fun q => q (Int32.le_refl _))
    refine g_iconst (v := 1) d_Types_areArguments_71 (by decide) ?_
    refine g_zret rfl rfl d_Types_areArguments_72 ?_
    exact ⟨rfl, rfl⟩
  | cons t r ih =>
    intro lt e
    have hlt : tp.length = lt.length + (r.length + 1) := by rw [e]; simp
    have hlc : (t :: r).length = r.length + 1 := rfl
    have hti : (l0 ++ tp)[(l0 ++ tp).length - 1 - r.length]? = some t := by
      rw [hl, show l0.length + tp.length - 1 - r.length = l0.length + lt.length by omega, List.getElem?_append_right (by omega), Nat.add_sub_cancel_left, e]
      exact mid_at
    have K := ih (lt ++ [t]) (by rw [e]; simp)
    have hl2 : (lt ++ [t]).length = lt.length + 1 := by simp
    rw [hl2, show lt.length + 1 + r.length = lt.length + (t :: r).length by simp; omega, ← Nat.add_assoc] at K
    have KT := m_Y_type_8 (E := E) (d := d) (G := G) (c := c) (n := n) (sl := sl) hp hz (k := r.length) (by omega) hti
    simp only [arF]
    by_cases hy : u.2.2.1 t 0 = c.2.1 2 (b + lt.length)
    · rw [if_pos hy]
      refine g_iload d_Types_areArguments_32 rfl ?_
      refine g_iload d_Types_areArguments_34 rfl ?_
      refine g_icmp_ge (tgt := 71) d_Types_areArguments_36 (by decide) (fun c_36 => ?_) (fun c_36 => ?_)
      · exact absurd c_36 (ige (by omega) (by omega) (by omega))
      refine g_aload_n d_Types_areArguments_39 rfl ?_
      refine g_iload d_Types_areArguments_40 rfl ?_
      refine g_iconst (v := 1) d_Types_areArguments_42 (by decide) ?_
      refine g_isub d_Types_areArguments_43 ?_
      refine g_iload d_Types_areArguments_44 rfl ?_
      refine g_isub d_Types_areArguments_46 ?_
      refine g_top (nI r.length) (by rw [show nI (lt.length + (t :: r).length) - 1 = nI (lt.length + r.length) from sub_nI (x := lt.length + (t :: r).length) (y := 1) (by simp; omega) (by simp; omega), sub_nI (by omega) (by omega), Nat.add_sub_cancel_left]) ?_
      refine c_Vr (as := [.int (nI r.length)]) kv_Pile_typeAt ml_Types_48 rfl (x_at (k := 8) (by decide) rfl) (KT) rfl (Nat.le_of_ble_eq_true rfl) rfl d_Types_areArguments_47 rfl ?_
      refine g_aload_n d_Types_areArguments_50 rfl ?_
      refine x_get (k := 1) (j := 2) (v := .ref (a + 4)) kc_Types fl_Types_18 (by decide) (by decide) rfl rfl d_Types_areArguments_51 ?_
      refine g_iload d_Types_areArguments_54 rfl ?_
      refine g_iload d_Types_areArguments_56 rfl ?_
      refine g_iadd d_Types_areArguments_58 ?_
      refine x_ald (k := 4) (q := b + lt.length) (x := c.2.1 2 (b + lt.length)) (by decide) rfl (add_hi (nI_hi (by omega)) (nI_hi (by omega)) (by omega)) (by omega) rfl d_Types_areArguments_59 ?_
      refine g_icmp_eq (tgt := 65) d_Types_areArguments_60 (by decide) (fun c_60 => ?_) (fun c_60 => ?_)
      rotate_left
      · exact absurd c_60 (fun q => q hy)
      refine g_iinc (v := nI (lt.length + 1)) d_Types_areArguments_65 rfl (nI_1 _) (by decide) rfl ?_
      refine g_goto (tgt := 32) d_Types_areArguments_68 (by decide) ?_
      exact K
    · rw [if_neg hy]
      refine g_iload d_Types_areArguments_32 rfl ?_
      refine g_iload d_Types_areArguments_34 rfl ?_
      refine g_icmp_ge (tgt := 71) d_Types_areArguments_36 (by decide) (fun c_36 => ?_) (fun c_36 => ?_)
      · exact absurd c_36 (ige (by omega) (by omega) (by omega))
      refine g_aload_n d_Types_areArguments_39 rfl ?_
      refine g_iload d_Types_areArguments_40 rfl ?_
      refine g_iconst (v := 1) d_Types_areArguments_42 (by decide) ?_
      refine g_isub d_Types_areArguments_43 ?_
      refine g_iload d_Types_areArguments_44 rfl ?_
      refine g_isub d_Types_areArguments_46 ?_
      refine g_top (nI r.length) (by rw [show nI (lt.length + (t :: r).length) - 1 = nI (lt.length + r.length) from sub_nI (x := lt.length + (t :: r).length) (y := 1) (by simp; omega) (by simp; omega), sub_nI (by omega) (by omega), Nat.add_sub_cancel_left]) ?_
      refine c_Vr (as := [.int (nI r.length)]) kv_Pile_typeAt ml_Types_48 rfl (x_at (k := 8) (by decide) rfl) (KT) rfl (Nat.le_of_ble_eq_true rfl) rfl d_Types_areArguments_47 rfl ?_
      refine g_aload_n d_Types_areArguments_50 rfl ?_
      refine x_get (k := 1) (j := 2) (v := .ref (a + 4)) kc_Types fl_Types_18 (by decide) (by decide) rfl rfl d_Types_areArguments_51 ?_
      refine g_iload d_Types_areArguments_54 rfl ?_
      refine g_iload d_Types_areArguments_56 rfl ?_
      refine g_iadd d_Types_areArguments_58 ?_
      refine x_ald (k := 4) (q := b + lt.length) (x := c.2.1 2 (b + lt.length)) (by decide) rfl (add_hi (nI_hi (by omega)) (nI_hi (by omega)) (by omega)) (by omega) rfl d_Types_areArguments_59 ?_
      refine g_icmp_eq (tgt := 65) d_Types_areArguments_60 (by decide) (fun c_60 => ?_) (fun c_60 => ?_)
      · exact absurd c_60 hy
      refine g_iconst (v := 0) d_Types_areArguments_63 (by decide) ?_
      refine g_zret rfl rfl d_Types_areArguments_64 ?_
      exact ⟨rfl, rfl⟩
set_option maxHeartbeats 400000 in
set_option maxRecDepth 100000 in
theorem m_Ty_args0_8 (hp : pil c 1 4 l) {X K ar : Nat} (hX : X < 16) (hK : K < 8) (hh : tHas (c.2.1 0) (nI X) (nI K)) (hok : tOk (c.2.1 0)) (hA : c.2.1 1 (8 * X + K) = nI ar) (har : ar ≤ 4) (hlt : l.length < ar) : GM E Y_Types_areArguments (d + 4) [.ref (a + 1), .int (nI X), .int (nI K), .ref (a + 8)] (yW E G a c u n sl) (rIs (some (.int 0)) (yW E G a c u n sl)) := by
  refine g_entry (by decide) (by simp [Value.category]) (Nat.le_of_ble_eq_true rfl) ?_
  have KA := m_Types_arity (E := E) (d := d) (G := yW E G a c u n sl) (x_at (k := 1) (by decide) rfl) (x_at (k := 2) (by decide) rfl) (x_at (k := 3) (by decide) rfl) hok (nI X) (nI K)
  rw [if_pos hh, tnI (by omega), tnI (by omega), hA] at KA
  refine g_aload_n d_Types_areArguments_0 rfl ?_
  refine g_iload_n d_Types_areArguments_1 rfl ?_
  refine g_iload_n d_Types_areArguments_2 rfl ?_
  refine c_Vr (as := [.int (nI X), .int (nI K)]) kv_Types_arity ml_Types_38 rfl (x_at (k := 1) (by decide) rfl) (KA) rfl (Nat.le_of_ble_eq_true rfl) rfl d_Types_areArguments_3 rfl ?_
  refine g_istore d_Types_areArguments_6 (by decide) rfl ?_
  refine g_aload_n d_Types_areArguments_8 rfl ?_
  refine c_Vr (as := []) kv_Pile_height ml_Types_42 rfl (x_at (k := 8) (by decide) rfl) (m_X_height_8) rfl (Nat.le_of_ble_eq_true rfl) rfl d_Types_areArguments_9 rfl ?_
  refine g_iload d_Types_areArguments_12 rfl ?_
  refine g_icmp_ge (tgt := 19) d_Types_areArguments_14 (by decide) (fun c_14 => ?_) (fun c_14 => ?_)
  · exact absurd c_14 (by rw [hp.1]; exact ige (by omega) (by omega) hlt)
  refine g_iconst (v := 0) d_Types_areArguments_17 (by decide) ?_
  refine g_zret rfl rfl d_Types_areArguments_18 ?_
  exact ⟨rfl, rfl⟩
set_option maxHeartbeats 400000 in
set_option maxRecDepth 100000 in
theorem m_Ty_args_8 (hp : pil c 1 4 (l0 ++ tp)) (hz : pilT u a (l0 ++ tp)) {X K ar : Nat} (hX : X < 16) (hK : K < 8) (hh : tHas (c.2.1 0) (nI X) (nI K)) (hok : tOk (c.2.1 0)) (hA : c.2.1 1 (8 * X + K) = nI ar) (har : ar ≤ 4) (htp : tp.length = ar) : GM E Y_Types_areArguments (d + 4) [.ref (a + 1), .int (nI X), .int (nI K), .ref (a + 8)] (yW E G a c u n sl) (rIs (some (.int (arF u (c.2.1 2) tp (32 * X + 4 * K)))) (yW E G a c u n sl)) := by
  refine g_entry (by decide) (by simp [Value.category]) (Nat.le_of_ble_eq_true rfl) ?_
  have KA := m_Types_arity (E := E) (d := d) (G := yW E G a c u n sl) (x_at (k := 1) (by decide) rfl) (x_at (k := 2) (by decide) rfl) (x_at (k := 3) (by decide) rfl) hok (nI X) (nI K)
  rw [if_pos hh, tnI (by omega), tnI (by omega), hA] at KA
  have h40 := hp.2.1
  have hl : (l0 ++ tp).length = l0.length + tp.length := List.length_append
  refine g_aload_n d_Types_areArguments_0 rfl ?_
  refine g_iload_n d_Types_areArguments_1 rfl ?_
  refine g_iload_n d_Types_areArguments_2 rfl ?_
  refine c_Vr (as := [.int (nI X), .int (nI K)]) kv_Types_arity ml_Types_38 rfl (x_at (k := 1) (by decide) rfl) (KA) rfl (Nat.le_of_ble_eq_true rfl) rfl d_Types_areArguments_3 rfl ?_
  refine g_istore d_Types_areArguments_6 (by decide) rfl ?_
  refine g_aload_n d_Types_areArguments_8 rfl ?_
  refine c_Vr (as := []) kv_Pile_height ml_Types_42 rfl (x_at (k := 8) (by decide) rfl) (m_X_height_8) rfl (Nat.le_of_ble_eq_true rfl) rfl d_Types_areArguments_9 rfl ?_
  refine g_iload d_Types_areArguments_12 rfl ?_
  refine g_icmp_ge (tgt := 19) d_Types_areArguments_14 (by decide) (fun c_14 => ?_) (fun c_14 => ?_)
  rotate_left
  · exact absurd c_14 (by rw [hp.1, hl]; exact ilt (by omega) (by omega) (by omega))
  refine g_iload_n d_Types_areArguments_19 rfl ?_
  refine g_bipush (v := 8) d_Types_areArguments_20 (by decide) ?_
  refine g_imul d_Types_areArguments_22 ?_
  refine g_iload_n d_Types_areArguments_23 rfl ?_
  refine g_iadd d_Types_areArguments_24 ?_
  refine g_iconst (v := 4) d_Types_areArguments_25 (by decide) ?_
  refine g_imul d_Types_areArguments_26 ?_
  refine g_top (nI (32 * X + 4 * K)) (by rw [show nI X * 8 + nI K = nI (8 * X + K) from i_nI (by have h1 := mul_hi (nI_hi (n := X) (by omega)) (show (8 : Int32).toInt = ((8 : Nat) : Int) by decide) (by omega); have h2 := add_hi h1 (nI_hi (n := K) (by omega)) (by omega); rw [h2]; norm_cast; omega)]; exact i_nI (by have h1 := mul_hi (nI_hi (n := 8 * X + K) (by omega)) (show (4 : Int32).toInt = ((4 : Nat) : Int) by decide) (by omega); rw [h1]; norm_cast; omega)) ?_
  refine g_istore d_Types_areArguments_27 (by decide) rfl ?_
  refine g_iconst (v := 0) d_Types_areArguments_29 (by decide) ?_
  refine g_istore d_Types_areArguments_30 (by decide) rfl ?_
  have K2 := m_Ty_args32_8 (E := E) (d := d + 2) (G := G) (G0 := yW E G a c u n sl) (n := n) (sl := sl) (x := nI X) (q := nI K) (b := 32 * X + 4 * K) hp hz (by omega) tp [] rfl
  rw [show ([] : List Nat).length + tp.length = ar by simp; omega, List.length_nil, Nat.add_zero] at K2
  exact K2
set_option maxHeartbeats 400000 in
set_option maxRecDepth 100000 in
theorem m_Ty_args32_10 {x q : Int32} {b : Nat} (hp : pil c 2 5 (l0 ++ tp)) (hz : pilT u a (l0 ++ tp)) (hb : b + tp.length ≤ 512) : ∀ (r lt : List Nat), tp = lt ++ r → GT E Y_Types_areArguments (d + 2) G0 32 [(0, .ref (a + 1)), (1, .int x), (2, .int q), (3, .ref (a + 10)), (4, .int (nI (lt.length + r.length))), (5, .int (nI b)), (6, .int (nI lt.length))] [] (yW E G a c u n sl) (rIs (some (.int (arF u (c.2.1 2) r (b + lt.length)))) (yW E G a c u n sl)) := by
  have h40 := hp.2.1
  have hl : (l0 ++ tp).length = l0.length + tp.length := List.length_append
  intro r
  induction r with
  | nil =>
    intro lt e
    refine g_iload d_Types_areArguments_32 rfl ?_
    refine g_iload d_Types_areArguments_34 rfl ?_
    refine g_icmp_ge (tgt := 71) d_Types_areArguments_36 (by decide) (fun c_36 => ?_) (fun c_36 => ?_)
    rotate_left
    · exact absurd c_36 (fun q => q (Int32.le_refl _))
    refine g_iconst (v := 1) d_Types_areArguments_71 (by decide) ?_
    refine g_zret rfl rfl d_Types_areArguments_72 ?_
    exact ⟨rfl, rfl⟩
  | cons t r ih =>
    intro lt e
    have hlt : tp.length = lt.length + (r.length + 1) := by rw [e]; simp
    have hlc : (t :: r).length = r.length + 1 := rfl
    have hti : (l0 ++ tp)[(l0 ++ tp).length - 1 - r.length]? = some t := by
      rw [hl, show l0.length + tp.length - 1 - r.length = l0.length + lt.length by omega, List.getElem?_append_right (by omega), Nat.add_sub_cancel_left, e]
      exact mid_at
    have K := ih (lt ++ [t]) (by rw [e]; simp)
    have hl2 : (lt ++ [t]).length = lt.length + 1 := by simp
    rw [hl2, show lt.length + 1 + r.length = lt.length + (t :: r).length by simp; omega, ← Nat.add_assoc] at K
    have KT := m_Y_type_10 (E := E) (d := d) (G := G) (c := c) (n := n) (sl := sl) hp hz (k := r.length) (by omega) hti
    simp only [arF]
    by_cases hy : u.2.2.1 t 0 = c.2.1 2 (b + lt.length)
    · rw [if_pos hy]
      refine g_iload d_Types_areArguments_32 rfl ?_
      refine g_iload d_Types_areArguments_34 rfl ?_
      refine g_icmp_ge (tgt := 71) d_Types_areArguments_36 (by decide) (fun c_36 => ?_) (fun c_36 => ?_)
      · exact absurd c_36 (ige (by omega) (by omega) (by omega))
      refine g_aload_n d_Types_areArguments_39 rfl ?_
      refine g_iload d_Types_areArguments_40 rfl ?_
      refine g_iconst (v := 1) d_Types_areArguments_42 (by decide) ?_
      refine g_isub d_Types_areArguments_43 ?_
      refine g_iload d_Types_areArguments_44 rfl ?_
      refine g_isub d_Types_areArguments_46 ?_
      refine g_top (nI r.length) (by rw [show nI (lt.length + (t :: r).length) - 1 = nI (lt.length + r.length) from sub_nI (x := lt.length + (t :: r).length) (y := 1) (by simp; omega) (by simp; omega), sub_nI (by omega) (by omega), Nat.add_sub_cancel_left]) ?_
      refine c_Vr (as := [.int (nI r.length)]) kv_Pile_typeAt ml_Types_48 rfl (x_at (k := 10) (by decide) rfl) (KT) rfl (Nat.le_of_ble_eq_true rfl) rfl d_Types_areArguments_47 rfl ?_
      refine g_aload_n d_Types_areArguments_50 rfl ?_
      refine x_get (k := 1) (j := 2) (v := .ref (a + 4)) kc_Types fl_Types_18 (by decide) (by decide) rfl rfl d_Types_areArguments_51 ?_
      refine g_iload d_Types_areArguments_54 rfl ?_
      refine g_iload d_Types_areArguments_56 rfl ?_
      refine g_iadd d_Types_areArguments_58 ?_
      refine x_ald (k := 4) (q := b + lt.length) (x := c.2.1 2 (b + lt.length)) (by decide) rfl (add_hi (nI_hi (by omega)) (nI_hi (by omega)) (by omega)) (by omega) rfl d_Types_areArguments_59 ?_
      refine g_icmp_eq (tgt := 65) d_Types_areArguments_60 (by decide) (fun c_60 => ?_) (fun c_60 => ?_)
      rotate_left
      · exact absurd c_60 (fun q => q hy)
      refine g_iinc (v := nI (lt.length + 1)) d_Types_areArguments_65 rfl (nI_1 _) (by decide) rfl ?_
      refine g_goto (tgt := 32) d_Types_areArguments_68 (by decide) ?_
      exact K
    · rw [if_neg hy]
      refine g_iload d_Types_areArguments_32 rfl ?_
      refine g_iload d_Types_areArguments_34 rfl ?_
      refine g_icmp_ge (tgt := 71) d_Types_areArguments_36 (by decide) (fun c_36 => ?_) (fun c_36 => ?_)
      · exact absurd c_36 (ige (by omega) (by omega) (by omega))
      refine g_aload_n d_Types_areArguments_39 rfl ?_
      refine g_iload d_Types_areArguments_40 rfl ?_
      refine g_iconst (v := 1) d_Types_areArguments_42 (by decide) ?_
      refine g_isub d_Types_areArguments_43 ?_
      refine g_iload d_Types_areArguments_44 rfl ?_
      refine g_isub d_Types_areArguments_46 ?_
      refine g_top (nI r.length) (by rw [show nI (lt.length + (t :: r).length) - 1 = nI (lt.length + r.length) from sub_nI (x := lt.length + (t :: r).length) (y := 1) (by simp; omega) (by simp; omega), sub_nI (by omega) (by omega), Nat.add_sub_cancel_left]) ?_
      refine c_Vr (as := [.int (nI r.length)]) kv_Pile_typeAt ml_Types_48 rfl (x_at (k := 10) (by decide) rfl) (KT) rfl (Nat.le_of_ble_eq_true rfl) rfl d_Types_areArguments_47 rfl ?_
      refine g_aload_n d_Types_areArguments_50 rfl ?_
      refine x_get (k := 1) (j := 2) (v := .ref (a + 4)) kc_Types fl_Types_18 (by decide) (by decide) rfl rfl d_Types_areArguments_51 ?_
      refine g_iload d_Types_areArguments_54 rfl ?_
      refine g_iload d_Types_areArguments_56 rfl ?_
      refine g_iadd d_Types_areArguments_58 ?_
      refine x_ald (k := 4) (q := b + lt.length) (x := c.2.1 2 (b + lt.length)) (by decide) rfl (add_hi (nI_hi (by omega)) (nI_hi (by omega)) (by omega)) (by omega) rfl d_Types_areArguments_59 ?_
      refine g_icmp_eq (tgt := 65) d_Types_areArguments_60 (by decide) (fun c_60 => ?_) (fun c_60 => ?_)
      · exact absurd c_60 hy
      refine g_iconst (v := 0) d_Types_areArguments_63 (by decide) ?_
      refine g_zret rfl rfl d_Types_areArguments_64 ?_
      exact ⟨rfl, rfl⟩
set_option maxHeartbeats 400000 in
set_option maxRecDepth 100000 in
theorem m_Ty_args0_10 (hp : pil c 2 5 l) {X K ar : Nat} (hX : X < 16) (hK : K < 8) (hh : tHas (c.2.1 0) (nI X) (nI K)) (hok : tOk (c.2.1 0)) (hA : c.2.1 1 (8 * X + K) = nI ar) (har : ar ≤ 4) (hlt : l.length < ar) : GM E Y_Types_areArguments (d + 4) [.ref (a + 1), .int (nI X), .int (nI K), .ref (a + 10)] (yW E G a c u n sl) (rIs (some (.int 0)) (yW E G a c u n sl)) := by
  refine g_entry (by decide) (by simp [Value.category]) (Nat.le_of_ble_eq_true rfl) ?_
  have KA := m_Types_arity (E := E) (d := d) (G := yW E G a c u n sl) (x_at (k := 1) (by decide) rfl) (x_at (k := 2) (by decide) rfl) (x_at (k := 3) (by decide) rfl) hok (nI X) (nI K)
  rw [if_pos hh, tnI (by omega), tnI (by omega), hA] at KA
  refine g_aload_n d_Types_areArguments_0 rfl ?_
  refine g_iload_n d_Types_areArguments_1 rfl ?_
  refine g_iload_n d_Types_areArguments_2 rfl ?_
  refine c_Vr (as := [.int (nI X), .int (nI K)]) kv_Types_arity ml_Types_38 rfl (x_at (k := 1) (by decide) rfl) (KA) rfl (Nat.le_of_ble_eq_true rfl) rfl d_Types_areArguments_3 rfl ?_
  refine g_istore d_Types_areArguments_6 (by decide) rfl ?_
  refine g_aload_n d_Types_areArguments_8 rfl ?_
  refine c_Vr (as := []) kv_Pile_height ml_Types_42 rfl (x_at (k := 10) (by decide) rfl) (m_X_height_10) rfl (Nat.le_of_ble_eq_true rfl) rfl d_Types_areArguments_9 rfl ?_
  refine g_iload d_Types_areArguments_12 rfl ?_
  refine g_icmp_ge (tgt := 19) d_Types_areArguments_14 (by decide) (fun c_14 => ?_) (fun c_14 => ?_)
  · exact absurd c_14 (by rw [hp.1]; exact ige (by omega) (by omega) hlt)
  refine g_iconst (v := 0) d_Types_areArguments_17 (by decide) ?_
  refine g_zret rfl rfl d_Types_areArguments_18 ?_
  exact ⟨rfl, rfl⟩
set_option maxHeartbeats 400000 in
set_option maxRecDepth 100000 in
theorem m_Ty_args_10 (hp : pil c 2 5 (l0 ++ tp)) (hz : pilT u a (l0 ++ tp)) {X K ar : Nat} (hX : X < 16) (hK : K < 8) (hh : tHas (c.2.1 0) (nI X) (nI K)) (hok : tOk (c.2.1 0)) (hA : c.2.1 1 (8 * X + K) = nI ar) (har : ar ≤ 4) (htp : tp.length = ar) : GM E Y_Types_areArguments (d + 4) [.ref (a + 1), .int (nI X), .int (nI K), .ref (a + 10)] (yW E G a c u n sl) (rIs (some (.int (arF u (c.2.1 2) tp (32 * X + 4 * K)))) (yW E G a c u n sl)) := by
  refine g_entry (by decide) (by simp [Value.category]) (Nat.le_of_ble_eq_true rfl) ?_
  have KA := m_Types_arity (E := E) (d := d) (G := yW E G a c u n sl) (x_at (k := 1) (by decide) rfl) (x_at (k := 2) (by decide) rfl) (x_at (k := 3) (by decide) rfl) hok (nI X) (nI K)
  rw [if_pos hh, tnI (by omega), tnI (by omega), hA] at KA
  have h40 := hp.2.1
  have hl : (l0 ++ tp).length = l0.length + tp.length := List.length_append
  refine g_aload_n d_Types_areArguments_0 rfl ?_
  refine g_iload_n d_Types_areArguments_1 rfl ?_
  refine g_iload_n d_Types_areArguments_2 rfl ?_
  refine c_Vr (as := [.int (nI X), .int (nI K)]) kv_Types_arity ml_Types_38 rfl (x_at (k := 1) (by decide) rfl) (KA) rfl (Nat.le_of_ble_eq_true rfl) rfl d_Types_areArguments_3 rfl ?_
  refine g_istore d_Types_areArguments_6 (by decide) rfl ?_
  refine g_aload_n d_Types_areArguments_8 rfl ?_
  refine c_Vr (as := []) kv_Pile_height ml_Types_42 rfl (x_at (k := 10) (by decide) rfl) (m_X_height_10) rfl (Nat.le_of_ble_eq_true rfl) rfl d_Types_areArguments_9 rfl ?_
  refine g_iload d_Types_areArguments_12 rfl ?_
  refine g_icmp_ge (tgt := 19) d_Types_areArguments_14 (by decide) (fun c_14 => ?_) (fun c_14 => ?_)
  rotate_left
  · exact absurd c_14 (by rw [hp.1, hl]; exact ilt (by omega) (by omega) (by omega))
  refine g_iload_n d_Types_areArguments_19 rfl ?_
  refine g_bipush (v := 8) d_Types_areArguments_20 (by decide) ?_
  refine g_imul d_Types_areArguments_22 ?_
  refine g_iload_n d_Types_areArguments_23 rfl ?_
  refine g_iadd d_Types_areArguments_24 ?_
  refine g_iconst (v := 4) d_Types_areArguments_25 (by decide) ?_
  refine g_imul d_Types_areArguments_26 ?_
  refine g_top (nI (32 * X + 4 * K)) (by rw [show nI X * 8 + nI K = nI (8 * X + K) from i_nI (by have h1 := mul_hi (nI_hi (n := X) (by omega)) (show (8 : Int32).toInt = ((8 : Nat) : Int) by decide) (by omega); have h2 := add_hi h1 (nI_hi (n := K) (by omega)) (by omega); rw [h2]; norm_cast; omega)]; exact i_nI (by have h1 := mul_hi (nI_hi (n := 8 * X + K) (by omega)) (show (4 : Int32).toInt = ((4 : Nat) : Int) by decide) (by omega); rw [h1]; norm_cast; omega)) ?_
  refine g_istore d_Types_areArguments_27 (by decide) rfl ?_
  refine g_iconst (v := 0) d_Types_areArguments_29 (by decide) ?_
  refine g_istore d_Types_areArguments_30 (by decide) rfl ?_
  have K2 := m_Ty_args32_10 (E := E) (d := d + 2) (G := G) (G0 := yW E G a c u n sl) (n := n) (sl := sl) (x := nI X) (q := nI K) (b := 32 * X + 4 * K) hp hz (by omega) tp [] rfl
  rw [show ([] : List Nat).length + tp.length = ar by simp; omega, List.length_nil, Nat.add_zero] at K2
  exact K2
end DB
