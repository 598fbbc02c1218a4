/-! The class over its world: what needs no term; what the others do where nothing has been made -/
theorem d_Mill_clear_0 : decode Y_Mill_clear.2.1 0 = .ok (.aload_n 0, 1) := by decide +kernel
theorem d_Mill_clear_1 : decode Y_Mill_clear.2.1 1 = .ok (.getfield 15, 3) := by decide +kernel
theorem d_Mill_clear_4 : decode Y_Mill_clear.2.1 4 = .ok (.invokevirtual 202, 3) := by decide +kernel
theorem d_Mill_clear_7 : decode Y_Mill_clear.2.1 7 = .ok (.aload_n 0, 1) := by decide +kernel
theorem d_Mill_clear_8 : decode Y_Mill_clear.2.1 8 = .ok (.getfield 26, 3) := by decide +kernel
theorem d_Mill_clear_11 : decode Y_Mill_clear.2.1 11 = .ok (.aload_n 0, 1) := by decide +kernel
theorem d_Mill_clear_12 : decode Y_Mill_clear.2.1 12 = .ok (.getfield 26, 3) := by decide +kernel
theorem d_Mill_clear_15 : decode Y_Mill_clear.2.1 15 = .ok (.invokevirtual 113, 3) := by decide +kernel
theorem d_Mill_clear_18 : decode Y_Mill_clear.2.1 18 = .ok (.invokevirtual 136, 3) := by decide +kernel
theorem d_Mill_clear_21 : decode Y_Mill_clear.2.1 21 = .ok (.aload_n 0, 1) := by decide +kernel
theorem d_Mill_clear_22 : decode Y_Mill_clear.2.1 22 = .ok (.getfield 30, 3) := by decide +kernel
theorem d_Mill_clear_25 : decode Y_Mill_clear.2.1 25 = .ok (.aload_n 0, 1) := by decide +kernel
theorem d_Mill_clear_26 : decode Y_Mill_clear.2.1 26 = .ok (.getfield 30, 3) := by decide +kernel
theorem d_Mill_clear_29 : decode Y_Mill_clear.2.1 29 = .ok (.invokevirtual 113, 3) := by decide +kernel
theorem d_Mill_clear_32 : decode Y_Mill_clear.2.1 32 = .ok (.invokevirtual 136, 3) := by decide +kernel
theorem d_Mill_clear_35 : decode Y_Mill_clear.2.1 35 = .ok (.aload_n 0, 1) := by decide +kernel
theorem d_Mill_clear_36 : decode Y_Mill_clear.2.1 36 = .ok (.getfield 19, 3) := by decide +kernel
theorem d_Mill_clear_39 : decode Y_Mill_clear.2.1 39 = .ok (.invokevirtual 205, 3) := by decide +kernel
theorem d_Mill_clear_42 : decode Y_Mill_clear.2.1 42 = .ok (.aload_n 0, 1) := by decide +kernel
theorem d_Mill_clear_43 : decode Y_Mill_clear.2.1 43 = .ok (.getfield 45, 3) := by decide +kernel
theorem d_Mill_clear_46 : decode Y_Mill_clear.2.1 46 = .ok (.invokevirtual 206, 3) := by decide +kernel
theorem d_Mill_clear_49 : decode Y_Mill_clear.2.1 49 = .ok (.aload_n 0, 1) := by decide +kernel
theorem d_Mill_clear_50 : decode Y_Mill_clear.2.1 50 = .ok (.iconst 0, 1) := by decide +kernel
theorem d_Mill_clear_51 : decode Y_Mill_clear.2.1 51 = .ok (.putfield 56, 3) := by decide +kernel
theorem d_Mill_clear_54 : decode Y_Mill_clear.2.1 54 = .ok (.aload_n 0, 1) := by decide +kernel
theorem d_Mill_clear_55 : decode Y_Mill_clear.2.1 55 = .ok (.invokevirtual 148, 3) := by decide +kernel
theorem d_Mill_clear_58 : decode Y_Mill_clear.2.1 58 = .ok (.return_, 1) := by decide +kernel
theorem d_Types_forget_0 : decode Y_Types_forget.2.1 0 = .ok (.aload_n 0, 1) := by decide +kernel
theorem d_Types_forget_1 : decode Y_Types_forget.2.1 1 = .ok (.getfield 9, 3) := by decide +kernel
theorem d_Types_forget_4 : decode Y_Types_forget.2.1 4 = .ok (.iconst (-1), 1) := by decide +kernel
theorem d_Types_forget_5 : decode Y_Types_forget.2.1 5 = .ok (.invokestatic 21, 3) := by decide +kernel
theorem d_Types_forget_8 : decode Y_Types_forget.2.1 8 = .ok (.aload_n 0, 1) := by decide +kernel
theorem d_Types_forget_9 : decode Y_Types_forget.2.1 9 = .ok (.getfield 15, 3) := by decide +kernel
theorem d_Types_forget_12 : decode Y_Types_forget.2.1 12 = .ok (.iconst 0, 1) := by decide +kernel
theorem d_Types_forget_13 : decode Y_Types_forget.2.1 13 = .ok (.invokestatic 21, 3) := by decide +kernel
theorem d_Types_forget_16 : decode Y_Types_forget.2.1 16 = .ok (.return_, 1) := by decide +kernel
theorem d_Passage_forget_0 : decode Y_Passage_forget.2.1 0 = .ok (.aload_n 0, 1) := by decide +kernel
theorem d_Passage_forget_1 : decode Y_Passage_forget.2.1 1 = .ok (.iconst 0, 1) := by decide +kernel
theorem d_Passage_forget_2 : decode Y_Passage_forget.2.1 2 = .ok (.putfield 28, 3) := by decide +kernel
theorem d_Passage_forget_5 : decode Y_Passage_forget.2.1 5 = .ok (.aload_n 0, 1) := by decide +kernel
theorem d_Passage_forget_6 : decode Y_Passage_forget.2.1 6 = .ok (.getfield 24, 3) := by decide +kernel
theorem d_Passage_forget_9 : decode Y_Passage_forget.2.1 9 = .ok (.invokevirtual 32, 3) := by decide +kernel
theorem d_Passage_forget_12 : decode Y_Passage_forget.2.1 12 = .ok (.iconst 0, 1) := by decide +kernel
theorem d_Passage_forget_13 : decode Y_Passage_forget.2.1 13 = .ok (.istore_n 1, 1) := by decide +kernel
theorem d_Passage_forget_14 : decode Y_Passage_forget.2.1 14 = .ok (.iload_n 1, 1) := by decide +kernel
theorem d_Passage_forget_15 : decode Y_Passage_forget.2.1 15 = .ok (.bipush 8, 2) := by decide +kernel
theorem d_Passage_forget_17 : decode Y_Passage_forget.2.1 17 = .ok (.if_icmp .ge 16, 3) := by decide +kernel
theorem d_Passage_forget_20 : decode Y_Passage_forget.2.1 20 = .ok (.aload_n 0, 1) := by decide +kernel
theorem d_Passage_forget_21 : decode Y_Passage_forget.2.1 21 = .ok (.getfield 17, 3) := by decide +kernel
theorem d_Passage_forget_24 : decode Y_Passage_forget.2.1 24 = .ok (.iload_n 1, 1) := by decide +kernel
theorem d_Passage_forget_25 : decode Y_Passage_forget.2.1 25 = .ok (.aconst_null, 1) := by decide +kernel
theorem d_Passage_forget_26 : decode Y_Passage_forget.2.1 26 = .ok (.aastore, 1) := by decide +kernel
theorem d_Passage_forget_27 : decode Y_Passage_forget.2.1 27 = .ok (.iinc 1 1, 3) := by decide +kernel
theorem d_Passage_forget_30 : decode Y_Passage_forget.2.1 30 = .ok (.goto (-16), 3) := by decide +kernel
theorem d_Passage_forget_33 : decode Y_Passage_forget.2.1 33 = .ok (.return_, 1) := by decide +kernel
theorem d_ArrayList_clear_0 : decode Y_ArrayList_clear.2.1 0 = .ok (.aload_n 0, 1) := by decide +kernel
theorem d_ArrayList_clear_1 : decode Y_ArrayList_clear.2.1 1 = .ok (.dup, 1) := by decide +kernel
theorem d_ArrayList_clear_2 : decode Y_ArrayList_clear.2.1 2 = .ok (.getfield 63, 3) := by decide +kernel
theorem d_ArrayList_clear_5 : decode Y_ArrayList_clear.2.1 5 = .ok (.iconst 1, 1) := by decide +kernel
theorem d_ArrayList_clear_6 : decode Y_ArrayList_clear.2.1 6 = .ok (.iadd, 1) := by decide +kernel
theorem d_ArrayList_clear_7 : decode Y_ArrayList_clear.2.1 7 = .ok (.putfield 63, 3) := by decide +kernel
theorem d_ArrayList_clear_10 : decode Y_ArrayList_clear.2.1 10 = .ok (.aload_n 0, 1) := by decide +kernel
theorem d_ArrayList_clear_11 : decode Y_ArrayList_clear.2.1 11 = .ok (.getfield 9, 3) := by decide +kernel
theorem d_ArrayList_clear_14 : decode Y_ArrayList_clear.2.1 14 = .ok (.astore_n 1, 1) := by decide +kernel
theorem d_ArrayList_clear_15 : decode Y_ArrayList_clear.2.1 15 = .ok (.aload_n 0, 1) := by decide +kernel
theorem d_ArrayList_clear_16 : decode Y_ArrayList_clear.2.1 16 = .ok (.getfield 48, 3) := by decide +kernel
theorem d_ArrayList_clear_19 : decode Y_ArrayList_clear.2.1 19 = .ok (.istore_n 2, 1) := by decide +kernel
theorem d_ArrayList_clear_20 : decode Y_ArrayList_clear.2.1 20 = .ok (.aload_n 0, 1) := by decide +kernel
theorem d_ArrayList_clear_21 : decode Y_ArrayList_clear.2.1 21 = .ok (.iconst 0, 1) := by decide +kernel
theorem d_ArrayList_clear_22 : decode Y_ArrayList_clear.2.1 22 = .ok (.dup_x1, 1) := by decide +kernel
theorem d_ArrayList_clear_23 : decode Y_ArrayList_clear.2.1 23 = .ok (.putfield 48, 3) := by decide +kernel
theorem d_ArrayList_clear_26 : decode Y_ArrayList_clear.2.1 26 = .ok (.istore_n 3, 1) := by decide +kernel
theorem d_ArrayList_clear_27 : decode Y_ArrayList_clear.2.1 27 = .ok (.iload_n 3, 1) := by decide +kernel
theorem d_ArrayList_clear_28 : decode Y_ArrayList_clear.2.1 28 = .ok (.iload_n 2, 1) := by decide +kernel
theorem d_ArrayList_clear_29 : decode Y_ArrayList_clear.2.1 29 = .ok (.if_icmp .ge 13, 3) := by decide +kernel
theorem d_ArrayList_clear_32 : decode Y_ArrayList_clear.2.1 32 = .ok (.aload_n 1, 1) := by decide +kernel
theorem d_ArrayList_clear_33 : decode Y_ArrayList_clear.2.1 33 = .ok (.iload_n 3, 1) := by decide +kernel
theorem d_ArrayList_clear_34 : decode Y_ArrayList_clear.2.1 34 = .ok (.aconst_null, 1) := by decide +kernel
theorem d_ArrayList_clear_35 : decode Y_ArrayList_clear.2.1 35 = .ok (.aastore, 1) := by decide +kernel
theorem d_ArrayList_clear_36 : decode Y_ArrayList_clear.2.1 36 = .ok (.iinc 3 1, 3) := by decide +kernel
theorem d_ArrayList_clear_39 : decode Y_ArrayList_clear.2.1 39 = .ok (.goto (-12), 3) := by decide +kernel
theorem d_ArrayList_clear_42 : decode Y_ArrayList_clear.2.1 42 = .ok (.return_, 1) := by decide +kernel
theorem d_Tree_missingAt_0 : decode Y_Tree_missingAt.2.1 0 = .ok (.iload_n 1, 1) := by decide +kernel
theorem d_Tree_missingAt_1 : decode Y_Tree_missingAt.2.1 1 = .ok (.ifCond .lt 20, 3) := by decide +kernel
theorem d_Tree_missingAt_4 : decode Y_Tree_missingAt.2.1 4 = .ok (.iload_n 1, 1) := by decide +kernel
theorem d_Tree_missingAt_5 : decode Y_Tree_missingAt.2.1 5 = .ok (.aload_n 0, 1) := by decide +kernel
theorem d_Tree_missingAt_6 : decode Y_Tree_missingAt.2.1 6 = .ok (.getfield 96, 3) := by decide +kernel
theorem d_Tree_missingAt_9 : decode Y_Tree_missingAt.2.1 9 = .ok (.if_icmp .ge 12, 3) := by decide +kernel
theorem d_Tree_missingAt_12 : decode Y_Tree_missingAt.2.1 12 = .ok (.aload_n 0, 1) := by decide +kernel
theorem d_Tree_missingAt_13 : decode Y_Tree_missingAt.2.1 13 = .ok (.getfield 36, 3) := by decide +kernel
theorem d_Tree_missingAt_16 : decode Y_Tree_missingAt.2.1 16 = .ok (.iload_n 1, 1) := by decide +kernel
theorem d_Tree_missingAt_17 : decode Y_Tree_missingAt.2.1 17 = .ok (.iaload, 1) := by decide +kernel
theorem d_Tree_missingAt_18 : decode Y_Tree_missingAt.2.1 18 = .ok (.goto 4, 3) := by decide +kernel
theorem d_Tree_missingAt_21 : decode Y_Tree_missingAt.2.1 21 = .ok (.iconst (-1), 1) := by decide +kernel
theorem d_Tree_missingAt_22 : decode Y_Tree_missingAt.2.1 22 = .ok (.ireturn, 1) := by decide +kernel
theorem d_Tree_total_0 : decode Y_Tree_total.2.1 0 = .ok (.iload_n 1, 1) := by decide +kernel
theorem d_Tree_total_1 : decode Y_Tree_total.2.1 1 = .ok (.tableswitch 42 3 5 #[27, 32, 37], 27) := by decide +kernel
theorem d_Tree_total_28 : decode Y_Tree_total.2.1 28 = .ok (.aload_n 0, 1) := by decide +kernel
theorem d_Tree_total_29 : decode Y_Tree_total.2.1 29 = .ok (.getfield 47, 3) := by decide +kernel
theorem d_Tree_total_32 : decode Y_Tree_total.2.1 32 = .ok (.ireturn, 1) := by decide +kernel
theorem d_Tree_total_33 : decode Y_Tree_total.2.1 33 = .ok (.aload_n 0, 1) := by decide +kernel
theorem d_Tree_total_34 : decode Y_Tree_total.2.1 34 = .ok (.getfield 102, 3) := by decide +kernel
theorem d_Tree_total_37 : decode Y_Tree_total.2.1 37 = .ok (.ireturn, 1) := by decide +kernel
theorem d_Tree_total_38 : decode Y_Tree_total.2.1 38 = .ok (.aload_n 0, 1) := by decide +kernel
theorem d_Tree_total_39 : decode Y_Tree_total.2.1 39 = .ok (.getfield 105, 3) := by decide +kernel
theorem d_Tree_total_42 : decode Y_Tree_total.2.1 42 = .ok (.ireturn, 1) := by decide +kernel
theorem d_Tree_total_43 : decode Y_Tree_total.2.1 43 = .ok (.aload_n 0, 1) := by decide +kernel
theorem d_Tree_total_44 : decode Y_Tree_total.2.1 44 = .ok (.getfield 108, 3) := by decide +kernel
theorem d_Tree_total_47 : decode Y_Tree_total.2.1 47 = .ok (.ireturn, 1) := by decide +kernel
/-- an end with an answer: thrown, or the answer and the new state -/
def xAns (E : gE) (G : gS) (a : Nat) (c : cS) (r : String ⊕ Int32 × cS) : gO → gS → Prop := match r with
  | .inl C => tIs C (xW E G a c)
  | .inr q => rIs (some (.int q.1)) (xW E G a q.2)
section XM
variable {E : gE} {d : Nat} {G : gS} {a : Nat} {c c' : cS} {Y : gY} {G0 : gS} {Q : gO → gS → Prop} {pc : Nat} {lv : List (Nat × Value)} {rest : List Value}
theorem x_tstN {i : Int32} {k N q : Nat} {f : Nat → Option Nat} (hk : k < 24) (hC : xC E a c k = gAT E N f) (hi : i.toInt = (q : Int)) (hq : q < N) (hC' : xC E a c' k = gAT E N (va_up f q none)) (hfr : ∀ i, i < 24 → i ≠ k → xC E a c' i = xC E a c i) (hdg : decode Y.2.1 pc = .ok (.aastore, 1)) (kk : GT E Y d G0 (pc + 1) lv rest (xW E G a c') Q) : GT E Y d G0 pc lv (.null :: .int i :: .ref (a + k) :: rest) (xW E G a c) Q :=
  g_tastN ((xw_k hk).trans (congrArg some hC)) hi hq hdg (by rw [← hC', xw_up hk hfr]; exact kk)
theorem x_tst {i : Int32} {k N q v : Nat} {vs : List Value} {f : Nat → Option Nat} (hk : k < 24) (hC : xC E a c k = gAT E N f) (hi : i.toInt = (q : Int)) (hq : q < N) (hv : (xW E G a c).1 v = some (.inr (9, vs))) (hC' : xC E a c' k = gAT E N (va_up f q (some v))) (hfr : ∀ i, i < 24 → i ≠ k → xC E a c' i = xC E a c i) (hdg : decode Y.2.1 pc = .ok (.aastore, 1)) (kk : GT E Y d G0 (pc + 1) lv rest (xW E G a c') Q) : GT E Y d G0 pc lv (.ref v :: .int i :: .ref (a + k) :: rest) (xW E G a c) Q :=
  g_tast ((xw_k hk).trans (congrArg some hC)) hi hq hv rfl hdg (by rw [← hC', xw_up hk hfr]; exact kk)
set_option maxHeartbeats 400000 in
set_option maxRecDepth 100000 in
theorem m_X_height_8 : GM E Y_Pile_height d [.ref (a + 8)] (xW E G a c) (rIs (some (.int (c.1 4))) (xW E G a c)) := by
  refine g_entry (by decide) (by simp [Value.category]) (Nat.le_of_ble_eq_true rfl) ?_
  refine g_aload_n d_Pile_height_0 rfl ?_
  refine x_get (k := 8) (j := 1) (v := .int (c.1 4)) kc_Pile fl_Pile_17 (by decide) (by decide) rfl rfl d_Pile_height_1 ?_
  refine g_iret rfl d_Pile_height_4 ?_
  exact ⟨rfl, rfl⟩
set_option maxHeartbeats 400000 in
set_option maxRecDepth 100000 in
theorem m_X_top0_8 (h : c.1 4 = 0) : GM E Y_Pile_fromTop d [.ref (a + 8), .int 0] (xW E G a c) (rIs (some (.null)) (xW E G a c)) := by
  refine g_entry (by decide) (by simp [Value.category]) (Nat.le_of_ble_eq_true rfl) ?_
  refine g_iload_n d_Pile_fromTop_0 rfl ?_
  refine g_if_lt (tgt := 28) d_Pile_fromTop_1 (by decide) (fun c_1 => absurd c_1 (by decide)) (fun c_1 => ?_)
  refine g_iload_n d_Pile_fromTop_4 rfl ?_
  refine g_aload_n d_Pile_fromTop_5 rfl ?_
  refine x_get (k := 8) (j := 1) (v := .int (c.1 4)) kc_Pile fl_Pile_17 (by decide) (by decide) rfl rfl d_Pile_fromTop_6 ?_
  refine g_icmp_ge (tgt := 28) d_Pile_fromTop_9 (by decide) (fun c_9 => ?_) (fun c_9 => ?_)
  rotate_left
  · exact absurd c_9 (fun q => q (by rw [h]; decide))
  refine g_null d_Pile_fromTop_28 ?_
  refine g_aret rfl (by first | exact Or.inl ⟨_, rfl⟩ | exact Or.inr ⟨_, rfl⟩) (by first | exact Or.inl rfl | exact Or.inr ⟨_, rfl⟩) d_Pile_fromTop_29 ?_
  exact ⟨rfl, rfl⟩
set_option maxHeartbeats 400000 in
set_option maxRecDepth 100000 in
theorem m_X_drop_8 (x : Int32) : GM E Y_Pile_drop (d + 1) [.ref (a + 8), .int x] (xW E G a c) (rIs none (xW E G a (cF c 4 (if 0 < c.1 4 - x then c.1 4 - x else 0)))) := by
  refine g_entry (by decide) (by simp [Value.category]) (Nat.le_of_ble_eq_true rfl) ?_
  refine g_aload_n d_Pile_drop_0 rfl ?_
  refine g_iconst (v := 0) d_Pile_drop_1 (by decide) ?_
  refine g_aload_n d_Pile_drop_2 rfl ?_
  refine x_get (k := 8) (j := 1) (v := .int (c.1 4)) kc_Pile fl_Pile_17 (by decide) (by decide) rfl rfl d_Pile_drop_3 ?_
  refine g_iload_n d_Pile_drop_6 rfl ?_
  refine g_isub d_Pile_drop_7 ?_
  refine c_Sr (as := [.int (0), .int ((c.1 4) - (x))]) ks_Math_max ml_Pile_28 (m_Math_max 0 (c.1 4 - x)) rfl (Nat.le_of_ble_eq_true rfl) rfl d_Pile_drop_8 rfl ?_
  refine x_put (c' := (cF c 4 (if 0 < c.1 4 - x then c.1 4 - x else 0))) (k := 8) (j := 1) kc_Pile fl_Pile_17 (by decide) (by decide) rfl rfl rfl rfl (Nat.le_of_ble_eq_true rfl) rfl rfl xf_F4 d_Pile_drop_11 ?_
  refine g_vret rfl d_Pile_drop_14 ?_
  exact ⟨rfl, rfl⟩
set_option maxHeartbeats 400000 in
set_option maxRecDepth 100000 in
theorem m_X_height_10 : GM E Y_Pile_height d [.ref (a + 10)] (xW E G a c) (rIs (some (.int (c.1 5))) (xW E G a c)) := by
  refine g_entry (by decide) (by simp [Value.category]) (Nat.le_of_ble_eq_true rfl) ?_
  refine g_aload_n d_Pile_height_0 rfl ?_
  refine x_get (k := 10) (j := 1) (v := .int (c.1 5)) kc_Pile fl_Pile_17 (by decide) (by decide) rfl rfl d_Pile_height_1 ?_
  refine g_iret rfl d_Pile_height_4 ?_
  exact ⟨rfl, rfl⟩
set_option maxHeartbeats 400000 in
set_option maxRecDepth 100000 in
theorem m_X_top0_10 (h : c.1 5 = 0) : GM E Y_Pile_fromTop d [.ref (a + 10), .int 0] (xW E G a c) (rIs (some (.null)) (xW E G a c)) := by
  refine g_entry (by decide) (by simp [Value.category]) (Nat.le_of_ble_eq_true rfl) ?_
  refine g_iload_n d_Pile_fromTop_0 rfl ?_
  refine g_if_lt (tgt := 28) d_Pile_fromTop_1 (by decide) (fun c_1 => absurd c_1 (by decide)) (fun c_1 => ?_)
  refine g_iload_n d_Pile_fromTop_4 rfl ?_
  refine g_aload_n d_Pile_fromTop_5 rfl ?_
  refine x_get (k := 10) (j := 1) (v := .int (c.1 5)) kc_Pile fl_Pile_17 (by decide) (by decide) rfl rfl d_Pile_fromTop_6 ?_
  refine g_icmp_ge (tgt := 28) d_Pile_fromTop_9 (by decide) (fun c_9 => ?_) (fun c_9 => ?_)
  rotate_left
  · exact absurd c_9 (fun q => q (by rw [h]; decide))
  refine g_null d_Pile_fromTop_28 ?_
  refine g_aret rfl (by first | exact Or.inl ⟨_, rfl⟩ | exact Or.inr ⟨_, rfl⟩) (by first | exact Or.inl rfl | exact Or.inr ⟨_, rfl⟩) d_Pile_fromTop_29 ?_
  exact ⟨rfl, rfl⟩
set_option maxHeartbeats 400000 in
set_option maxRecDepth 100000 in
theorem m_X_drop_10 (x : Int32) : GM E Y_Pile_drop (d + 1) [.ref (a + 10), .int x] (xW E G a c) (rIs none (xW E G a (cF c 5 (if 0 < c.1 5 - x then c.1 5 - x else 0)))) := by
  refine g_entry (by decide) (by simp [Value.category]) (Nat.le_of_ble_eq_true rfl) ?_
  refine g_aload_n d_Pile_drop_0 rfl ?_
  refine g_iconst (v := 0) d_Pile_drop_1 (by decide) ?_
  refine g_aload_n d_Pile_drop_2 rfl ?_
  refine x_get (k := 10) (j := 1) (v := .int (c.1 5)) kc_Pile fl_Pile_17 (by decide) (by decide) rfl rfl d_Pile_drop_3 ?_
  refine g_iload_n d_Pile_drop_6 rfl ?_
  refine g_isub d_Pile_drop_7 ?_
  refine c_Sr (as := [.int (0), .int ((c.1 5) - (x))]) ks_Math_max ml_Pile_28 (m_Math_max 0 (c.1 5 - x)) rfl (Nat.le_of_ble_eq_true rfl) rfl d_Pile_drop_8 rfl ?_
  refine x_put (c' := (cF c 5 (if 0 < c.1 5 - x then c.1 5 - x else 0))) (k := 10) (j := 1) kc_Pile fl_Pile_17 (by decide) (by decide) rfl rfl rfl rfl (Nat.le_of_ble_eq_true rfl) rfl rfl xf_F5 d_Pile_drop_11 ?_
  refine g_vret rfl d_Pile_drop_14 ?_
  exact ⟨rfl, rfl⟩
set_option maxHeartbeats 400000 in
set_option maxRecDepth 100000 in
theorem m_X_size : GM E Y_Cases_size d [.ref (a + 5)] (xW E G a c) (rIs (some (.int (c.1 3))) (xW E G a c)) := by
  refine g_entry (by decide) (by simp [Value.category]) (Nat.le_of_ble_eq_true rfl) ?_
  refine g_aload_n d_Cases_size_0 rfl ?_
  refine x_get (k := 5) (j := 2) (v := .int (c.1 3)) kc_Cases fl_Cases_21 (by decide) (by decide) rfl rfl d_Cases_size_1 ?_
  refine g_iret rfl d_Cases_size_4 ?_
  exact ⟨rfl, rfl⟩
set_option maxHeartbeats 400000 in
set_option maxRecDepth 100000 in
theorem m_X_forgetC : GM E Y_Cases_forget d [.ref (a + 5)] (xW E G a c) (rIs none (xW E G a (cF c 3 0))) := by
  refine g_entry (by decide) (by simp [Value.category]) (Nat.le_of_ble_eq_true rfl) ?_
  refine g_aload_n d_Cases_forget_0 rfl ?_
  refine g_iconst (v := 0) d_Cases_forget_1 (by decide) ?_
  refine x_put (c' := (cF c 3 (0))) (k := 5) (j := 2) kc_Cases fl_Cases_21 (by decide) (by decide) rfl rfl rfl rfl (Nat.le_of_ble_eq_true rfl) rfl rfl xf_F3 d_Cases_forget_2 ?_
  refine g_vret rfl d_Cases_forget_5 ?_
  exact ⟨rfl, rfl⟩
set_option maxHeartbeats 400000 in
set_option maxRecDepth 100000 in
theorem m_X_forgetTree : GM E Y_Mill_forgetTree d [.ref a] (xW E G a c) (rIs none (xW E G a (cF (cF c 1 0) 2 0))) := by
  refine g_entry (by decide) (by simp [Value.category]) (Nat.le_of_ble_eq_true rfl) ?_
  refine g_aload_n d_Mill_forgetTree_0 rfl ?_
  refine g_iconst (v := 0) d_Mill_forgetTree_1 (by decide) ?_
  refine x_put (c' := (cF c 1 (0))) (k := 0) (j := 7) kc_Mill fl_Mill_157 (by decide) (by decide) rfl rfl rfl rfl (Nat.le_of_ble_eq_true rfl) rfl rfl xf_F1 d_Mill_forgetTree_2 ?_
  refine g_aload_n d_Mill_forgetTree_5 rfl ?_
  refine g_iconst (v := 0) d_Mill_forgetTree_6 (by decide) ?_
  refine x_put (c' := (cF (cF c 1 (0)) 2 (0))) (k := 0) (j := 8) kc_Mill fl_Mill_160 (by decide) (by decide) rfl rfl rfl rfl (Nat.le_of_ble_eq_true rfl) rfl rfl xf_F2 d_Mill_forgetTree_7 ?_
  refine g_vret rfl d_Mill_forgetTree_10 ?_
  exact ⟨rfl, rfl⟩
set_option maxHeartbeats 400000 in
set_option maxRecDepth 100000 in
theorem m_X_treeSize : GM E Y_Tree_size d [.ref (a + 12)] (xW E G a c) (rIs (some (.int (c.1 6))) (xW E G a c)) := by
  refine g_entry (by decide) (by simp [Value.category]) (Nat.le_of_ble_eq_true rfl) ?_
  refine g_aload_n d_Tree_size_0 rfl ?_
  refine x_get (k := 12) (j := 7) (v := .int (c.1 6)) kc_Tree fl_Tree_47 (by decide) (by decide) rfl rfl d_Tree_size_1 ?_
  refine g_iret rfl d_Tree_size_4 ?_
  exact ⟨rfl, rfl⟩
def kAt (n : Int32) (f : Nat → Int32) (x : Int32) : Int32 := if ¬ x < 0 ∧ ¬ n ≤ x then f (tn x) else -1
set_option maxHeartbeats 400000 in
set_option maxRecDepth 100000 in
theorem m_X_questionAt (hb : c.1 21 ≤ 60) (x : Int32) : GM E Y_Passage_questionAt d [.ref (a + 20), .int x] (xW E G a c) (rIs (some (.int (kAt (c.1 21) (c.2.1 6) x))) (xW E G a c)) := by
  refine g_entry (by decide) (by simp [Value.category]) (Nat.le_of_ble_eq_true rfl) ?_
  refine g_iload_n d_Passage_questionAt_0 rfl ?_
  refine g_if_lt (tgt := 21) d_Passage_questionAt_1 (by decide) (fun c_1 => ?_) (fun c_1 => ?_)
  · refine g_iconst (v := (-1)) d_Passage_questionAt_21 (by decide) ?_
    refine g_iret rfl d_Passage_questionAt_22 ?_
    first | (simp only [kAt, c_1, not_true_eq_false, not_false_eq_true, and_true, true_and, and_false, false_and, and_self, or_true, true_or, or_false, false_or, or_self, if_true, if_false, ite_true, ite_false]; exact ⟨rfl, rfl⟩) | (simp [kAt, c_1, rIs]; done)
  · refine g_iload_n d_Passage_questionAt_4 rfl ?_
    refine g_aload_n d_Passage_questionAt_5 rfl ?_
    refine x_get (k := 20) (j := 3) (v := .int (c.1 21)) kc_Passage fl_Passage_28 (by decide) (by decide) rfl rfl d_Passage_questionAt_6 ?_
    refine g_icmp_ge (tgt := 21) d_Passage_questionAt_9 (by decide) (fun c_9 => ?_) (fun c_9 => ?_)
    · refine g_iconst (v := (-1)) d_Passage_questionAt_21 (by decide) ?_
      refine g_iret rfl d_Passage_questionAt_22 ?_
      first | (simp only [kAt, c_1, c_9, not_true_eq_false, not_false_eq_true, and_true, true_and, and_false, false_and, and_self, or_true, true_or, or_false, false_or, or_self, if_true, if_false, ite_true, ite_false]; exact ⟨rfl, rfl⟩) | (simp [kAt, c_1, c_9, rIs]; done)
    · refine g_aload_n d_Passage_questionAt_12 rfl ?_
      refine x_get (k := 20) (j := 0) (v := .ref (a + 21)) kc_Passage fl_Passage_9 (by decide) (by decide) rfl rfl d_Passage_questionAt_13 ?_
      refine g_iload_n d_Passage_questionAt_16 rfl ?_
      refine x_ald (k := 21) (q := tn x) (x := c.2.1 6 (tn x)) (by decide) rfl (tn_hi c_1) (tn_lt c_1 (c := 60) (fun q => c_9 (Int32.le_trans hb q)) (by decide)) rfl d_Passage_questionAt_17 ?_
      refine g_goto (tgt := 22) d_Passage_questionAt_18 (by decide) ?_
      refine g_iret rfl d_Passage_questionAt_22 ?_
      first | (simp only [kAt, c_1, c_9, not_true_eq_false, not_false_eq_true, and_true, true_and, and_false, false_and, and_self, or_true, true_or, or_false, false_or, or_self, if_true, if_false, ite_true, ite_false]; exact ⟨rfl, rfl⟩) | (simp [kAt, c_1, c_9, rIs]; done)
set_option maxHeartbeats 400000 in
set_option maxRecDepth 100000 in
theorem m_X_asked (hb : c.1 21 ≤ 60) (x : Int32) : GM E Y_Mill_asked (d + 1) [.ref a, .int x] (xW E G a c) (rIs (some (.int (kAt (c.1 21) (c.2.1 6) x))) (xW E G a c)) := by
  refine g_entry (by decide) (by simp [Value.category]) (Nat.le_of_ble_eq_true rfl) ?_
  refine g_aload_n d_Mill_asked_0 rfl ?_
  refine x_get (k := 0) (j := 5) (v := .ref (a + 20)) kc_Mill fl_Mill_45 (by decide) (by decide) rfl rfl d_Mill_asked_1 ?_
  refine g_iload_n d_Mill_asked_4 rfl ?_
  refine c_Vr (as := [.int (x)]) kv_Passage_questionAt ml_Mill_181 rfl (x_at (k := 20) (by decide) rfl) (m_X_questionAt hb x) rfl (Nat.le_of_ble_eq_true rfl) rfl d_Mill_asked_5 rfl ?_
  refine g_iret rfl d_Mill_asked_8 ?_
  exact ⟨rfl, rfl⟩
set_option maxHeartbeats 400000 in
set_option maxRecDepth 100000 in
theorem m_X_missingAt (hb : c.1 8 ≤ 6402) (x : Int32) : GM E Y_Tree_missingAt d [.ref (a + 12), .int x] (xW E G a c) (rIs (some (.int (kAt (c.1 8) (c.2.1 5) x))) (xW E G a c)) := by
  refine g_entry (by decide) (by simp [Value.category]) (Nat.le_of_ble_eq_true rfl) ?_
  refine g_iload_n d_Tree_missingAt_0 rfl ?_
  refine g_if_lt (tgt := 21) d_Tree_missingAt_1 (by decide) (fun c_1 => ?_) (fun c_1 => ?_)
  · refine g_iconst (v := (-1)) d_Tree_missingAt_21 (by decide) ?_
    refine g_iret rfl d_Tree_missingAt_22 ?_
    first | (simp only [kAt, c_1, not_true_eq_false, not_false_eq_true, and_true, true_and, and_false, false_and, and_self, or_true, true_or, or_false, false_or, or_self, if_true, if_false, ite_true, ite_false]; exact ⟨rfl, rfl⟩) | (simp [kAt, c_1, rIs]; done)
  · refine g_iload_n d_Tree_missingAt_4 rfl ?_
    refine g_aload_n d_Tree_missingAt_5 rfl ?_
    refine x_get (k := 12) (j := 9) (v := .int (c.1 8)) kc_Tree fl_Tree_96 (by decide) (by decide) rfl rfl d_Tree_missingAt_6 ?_
    refine g_icmp_ge (tgt := 21) d_Tree_missingAt_9 (by decide) (fun c_9 => ?_) (fun c_9 => ?_)
    · refine g_iconst (v := (-1)) d_Tree_missingAt_21 (by decide) ?_
      refine g_iret rfl d_Tree_missingAt_22 ?_
      first | (simp only [kAt, c_1, c_9, not_true_eq_false, not_false_eq_true, and_true, true_and, and_false, false_and, and_self, or_true, true_or, or_false, false_or, or_self, if_true, if_false, ite_true, ite_false]; exact ⟨rfl, rfl⟩) | (simp [kAt, c_1, c_9, rIs]; done)
    · refine g_aload_n d_Tree_missingAt_12 rfl ?_
      refine x_get (k := 12) (j := 6) (v := .ref (a + 19)) kc_Tree fl_Tree_36 (by decide) (by decide) rfl rfl d_Tree_missingAt_13 ?_
      refine g_iload_n d_Tree_missingAt_16 rfl ?_
      refine x_ald (k := 19) (q := tn x) (x := c.2.1 5 (tn x)) (by decide) rfl (tn_hi c_1) (tn_lt c_1 (c := 6402) (fun q => c_9 (Int32.le_trans hb q)) (by decide)) rfl d_Tree_missingAt_17 ?_
      refine g_goto (tgt := 22) d_Tree_missingAt_18 (by decide) ?_
      refine g_iret rfl d_Tree_missingAt_22 ?_
      first | (simp only [kAt, c_1, c_9, not_true_eq_false, not_false_eq_true, and_true, true_and, and_false, false_and, and_self, or_true, true_or, or_false, false_or, or_self, if_true, if_false, ite_true, ite_false]; exact ⟨rfl, rfl⟩) | (simp [kAt, c_1, c_9, rIs]; done)
set_option maxHeartbeats 400000 in
set_option maxRecDepth 100000 in
theorem m_X_missing (hb : c.1 8 ≤ 6402) (x : Int32) : GM E Y_Mill_missing (d + 1) [.ref a, .int x] (xW E G a c) (rIs (some (.int (if c.1 1 = 0 then -1 else kAt (c.1 8) (c.2.1 5) x))) (xW E G a c)) := by
  refine g_entry (by decide) (by simp [Value.category]) (Nat.le_of_ble_eq_true rfl) ?_
  refine g_aload_n d_Mill_missing_0 rfl ?_
  refine x_get (k := 0) (j := 7) (v := .int (c.1 1)) kc_Mill fl_Mill_157 (by decide) (by decide) rfl rfl d_Mill_missing_1 ?_
  refine g_if_eq (tgt := 18) d_Mill_missing_4 (by decide) (fun c_4 => ?_) (fun c_4 => ?_)
  · refine g_iconst (v := (-1)) d_Mill_missing_18 (by decide) ?_
    refine g_iret rfl d_Mill_missing_19 ?_
    simp only [c_4, if_true, if_false]; exact ⟨rfl, rfl⟩
  · refine g_aload_n d_Mill_missing_7 rfl ?_
    refine x_get (k := 0) (j := 4) (v := .ref (a + 12)) kc_Mill fl_Mill_38 (by decide) (by decide) rfl rfl d_Mill_missing_8 ?_
    refine g_iload_n d_Mill_missing_11 rfl ?_
    refine c_Vr (as := [.int (x)]) kv_Tree_missingAt ml_Mill_190 rfl (x_at (k := 12) (by decide) rfl) (m_X_missingAt hb x) rfl (Nat.le_of_ble_eq_true rfl) rfl d_Mill_missing_12 rfl ?_
    refine g_goto (tgt := 19) d_Mill_missing_15 (by decide) ?_
    refine g_iret rfl d_Mill_missing_19 ?_
    simp only [c_4, if_true, if_false]; exact ⟨rfl, rfl⟩
def kTotal (c : cS) (x : Int32) : Int32 := if x = 3 then c.1 6 else if x = 4 then c.1 10 else if x = 5 then c.1 11 else c.1 12
def kAbout (c : cS) (x : Int32) : String ⊕ Int32 × cS := if x < 0 ∨ ¬ x ≤ 6 then .inl "java/lang/IllegalArgumentException" else .inr (if x = 0 then c.1 3 else if x = 1 then c.1 4 else if x = 2 then c.1 5 else if c.1 1 = 0 then 0 else kTotal c x, c)
set_option maxHeartbeats 400000 in
set_option maxRecDepth 100000 in
theorem m_X_total (x : Int32) : GM E Y_Tree_total d [.ref (a + 12), .int x] (xW E G a c) (rIs (some (.int (kTotal c x))) (xW E G a c)) := by
  refine g_entry (by decide) (by simp [Value.category]) (Nat.le_of_ble_eq_true rfl) ?_
  refine g_iload_n d_Tree_total_0 rfl ?_
  have h_1 : (x).toInt = 3 ∨ (x).toInt = 4 ∨ (x).toInt = 5 ∨ ((x).toInt < 3 ∨ 5 < (x).toInt) := by omega
  rcases h_1 with h_1 | h_1 | h_1 | h_1
  · have e_1 : x = 3 := i_nI h_1
    refine g_tableIn (tgt := 28) (off := 27) d_Tree_total_1 (by rw [h_1]; decide) (by rw [h_1]; decide) (by rw [h_1]; rfl) (by decide) ?_
    refine g_aload_n d_Tree_total_28 rfl ?_
    refine x_get (k := 12) (j := 7) (v := .int (c.1 6)) kc_Tree fl_Tree_47 (by decide) (by decide) rfl rfl d_Tree_total_29 ?_
    refine g_iret rfl d_Tree_total_32 ?_
    subst e_1
    exact ⟨rfl, rfl⟩
  · have e_1 : x = 4 := i_nI h_1
    refine g_tableIn (tgt := 33) (off := 32) d_Tree_total_1 (by rw [h_1]; decide) (by rw [h_1]; decide) (by rw [h_1]; rfl) (by decide) ?_
    refine g_aload_n d_Tree_total_33 rfl ?_
    refine x_get (k := 12) (j := 11) (v := .int (c.1 10)) kc_Tree fl_Tree_102 (by decide) (by decide) rfl rfl d_Tree_total_34 ?_
    refine g_iret rfl d_Tree_total_37 ?_
    subst e_1
    exact ⟨rfl, rfl⟩
  · have e_1 : x = 5 := i_nI h_1
    refine g_tableIn (tgt := 38) (off := 37) d_Tree_total_1 (by rw [h_1]; decide) (by rw [h_1]; decide) (by rw [h_1]; rfl) (by decide) ?_
    refine g_aload_n d_Tree_total_38 rfl ?_
    refine x_get (k := 12) (j := 12) (v := .int (c.1 11)) kc_Tree fl_Tree_105 (by decide) (by decide) rfl rfl d_Tree_total_39 ?_
    refine g_iret rfl d_Tree_total_42 ?_
    subst e_1
    exact ⟨rfl, rfl⟩
  · have n_1_0 : ¬ x = 3 := fun e => by rw [e] at h_1; revert h_1; decide
    have n_1_1 : ¬ x = 4 := fun e => by rw [e] at h_1; revert h_1; decide
    have n_1_2 : ¬ x = 5 := fun e => by rw [e] at h_1; revert h_1; decide
    refine g_tableOut (tgt := 43) d_Tree_total_1 h_1 (by decide) ?_
    refine g_aload_n d_Tree_total_43 rfl ?_
    refine x_get (k := 12) (j := 13) (v := .int (c.1 12)) kc_Tree fl_Tree_108 (by decide) (by decide) rfl rfl d_Tree_total_44 ?_
    refine g_iret rfl d_Tree_total_47 ?_
    rw [kTotal, if_neg n_1_0, if_neg n_1_1, if_neg n_1_2]
    exact ⟨rfl, rfl⟩
set_option maxHeartbeats 400000 in
set_option maxRecDepth 100000 in
theorem m_X_about (hF : gFit E (xW E G a c) 1 6) (x : Int32) : GM E Y_Mill_about (d + 10) [.ref a, .int x] (xW E G a c) (xAns E G a c (kAbout c x)) := by
  refine g_entry (by decide) (by simp [Value.category]) (Nat.le_of_ble_eq_true rfl) ?_
  refine g_iload_n d_Mill_about_0 rfl ?_
  refine g_if_lt (tgt := 10) d_Mill_about_1 (by decide) (fun c_1 => ?_) (fun c_1 => ?_)
  · refine g_throw (th_Mill_IAE) d_Mill_about_10 d_Mill_about_13 d_Mill_about_14 d_Mill_about_17 rfl hF.1 hF.2 (by show 2 + 3 < _; omega) (Nat.le_of_ble_eq_true rfl) ?_
    intro k z1 z2
    have e : kAbout c x = .inl "java/lang/IllegalArgumentException" := if_pos (by first | exact Or.inl c_1 | exact Or.inr c_7)
    rw [e]
    exact ⟨rfl, rfl, z1, z2, rfl⟩
  · refine g_iload_n d_Mill_about_4 rfl ?_
    refine g_bipush (v := 6) d_Mill_about_5 (by decide) ?_
    refine g_icmp_le (tgt := 18) d_Mill_about_7 (by decide) (fun c_7 => ?_) (fun c_7 => ?_)
    · refine g_iload_n d_Mill_about_18 rfl ?_
      have h_19 : (x).toInt = 0 ∨ (x).toInt = 1 ∨ (x).toInt = 2 ∨ ((x).toInt < 0 ∨ 2 < (x).toInt) := by omega
      rcases h_19 with h_19 | h_19 | h_19 | h_19
      · have e_19 : x = 0 := i_nI h_19
        refine g_tableIn (tgt := 44) (off := 25) d_Mill_about_19 (by rw [h_19]; decide) (by rw [h_19]; decide) (by rw [h_19]; rfl) (by decide) ?_
        refine g_aload_n d_Mill_about_44 rfl ?_
        refine x_get (k := 0) (j := 3) (v := .ref (a + 5)) kc_Mill fl_Mill_19 (by decide) (by decide) rfl rfl d_Mill_about_45 ?_
        refine c_Vr (as := []) kv_Cases_size ml_Mill_155 rfl (x_at (k := 5) (by decide) rfl) (m_X_size (c := c)) rfl (Nat.le_of_ble_eq_true rfl) rfl d_Mill_about_48 rfl ?_
        refine g_iret rfl d_Mill_about_51 ?_
        subst e_19
        exact ⟨rfl, rfl⟩
      · have e_19 : x = 1 := i_nI h_19
        refine g_tableIn (tgt := 52) (off := 33) d_Mill_about_19 (by rw [h_19]; decide) (by rw [h_19]; decide) (by rw [h_19]; rfl) (by decide) ?_
        refine g_aload_n d_Mill_about_52 rfl ?_
        refine x_get (k := 0) (j := 1) (v := .ref (a + 8)) kc_Mill fl_Mill_26 (by decide) (by decide) rfl rfl d_Mill_about_53 ?_
        refine c_Vr (as := []) kv_Pile_height ml_Mill_113 rfl (x_at (k := 8) (by decide) rfl) (m_X_height_8 (c := c)) rfl (Nat.le_of_ble_eq_true rfl) rfl d_Mill_about_56 rfl ?_
        refine g_iret rfl d_Mill_about_59 ?_
        subst e_19
        exact ⟨rfl, rfl⟩
      · have e_19 : x = 2 := i_nI h_19
        refine g_tableIn (tgt := 60) (off := 41) d_Mill_about_19 (by rw [h_19]; decide) (by rw [h_19]; decide) (by rw [h_19]; rfl) (by decide) ?_
        refine g_aload_n d_Mill_about_60 rfl ?_
        refine x_get (k := 0) (j := 2) (v := .ref (a + 10)) kc_Mill fl_Mill_30 (by decide) (by decide) rfl rfl d_Mill_about_61 ?_
        refine c_Vr (as := []) kv_Pile_height ml_Mill_113 rfl (x_at (k := 10) (by decide) rfl) (m_X_height_10 (c := c)) rfl (Nat.le_of_ble_eq_true rfl) rfl d_Mill_about_64 rfl ?_
        refine g_iret rfl d_Mill_about_67 ?_
        subst e_19
        exact ⟨rfl, rfl⟩
      · have n_19_0 : ¬ x = 0 := fun e => by rw [e] at h_19; revert h_19; decide
        have n_19_1 : ¬ x = 1 := fun e => by rw [e] at h_19; revert h_19; decide
        have n_19_2 : ¬ x = 2 := fun e => by rw [e] at h_19; revert h_19; decide
        refine g_tableOut (tgt := 68) d_Mill_about_19 h_19 (by decide) ?_
        refine g_aload_n d_Mill_about_68 rfl ?_
        refine x_get (k := 0) (j := 7) (v := .int (c.1 1)) kc_Mill fl_Mill_157 (by decide) (by decide) rfl rfl d_Mill_about_69 ?_
        refine g_if_eq (tgt := 86) d_Mill_about_72 (by decide) (fun c_72 => ?_) (fun c_72 => ?_)
        · refine g_iconst (v := 0) d_Mill_about_86 (by decide) ?_
          refine g_iret rfl d_Mill_about_87 ?_
          have e : kAbout c x = .inr (0, c) := by
            rw [kAbout, if_neg (fun q => q.elim c_1 (fun w => w c_7)), if_neg n_19_0, if_neg n_19_1, if_neg n_19_2, if_pos c_72]
          rw [e]
          exact ⟨rfl, rfl⟩
        · refine g_aload_n d_Mill_about_75 rfl ?_
          refine x_get (k := 0) (j := 4) (v := .ref (a + 12)) kc_Mill fl_Mill_38 (by decide) (by decide) rfl rfl d_Mill_about_76 ?_
          refine g_iload_n d_Mill_about_79 rfl ?_
          refine c_Vr (as := [.int (x)]) kv_Tree_total ml_Mill_199 rfl (x_at (k := 12) (by decide) rfl) (m_X_total x) rfl (Nat.le_of_ble_eq_true rfl) rfl d_Mill_about_80 rfl ?_
          refine g_goto (tgt := 87) d_Mill_about_83 (by decide) ?_
          refine g_iret rfl d_Mill_about_87 ?_
          have e : kAbout c x = .inr (kTotal c x, c) := by
            rw [kAbout, if_neg (fun q => q.elim c_1 (fun w => w c_7)), if_neg n_19_0, if_neg n_19_1, if_neg n_19_2, if_neg c_72]
          rw [e]
          exact ⟨rfl, rfl⟩
    · refine g_throw (th_Mill_IAE) d_Mill_about_10 d_Mill_about_13 d_Mill_about_14 d_Mill_about_17 rfl hF.1 hF.2 (by show 2 + 3 < _; omega) (Nat.le_of_ble_eq_true rfl) ?_
      intro k z1 z2
      have e : kAbout c x = .inl "java/lang/IllegalArgumentException" := if_pos (by first | exact Or.inl c_1 | exact Or.inr c_7)
      rw [e]
      exact ⟨rfl, rfl, z1, z2, rfl⟩
set_option maxHeartbeats 400000 in
set_option maxRecDepth 100000 in
theorem m_X_argument_no (hF : gFit E (xW E G a c) 1 6) (x q y : Int32) (h : ¬ tHas (c.2.1 0) x q) : GM E Y_Mill_argument (d + 10) [.ref a, .int x, .int q, .int y] (xW E G a c) (tIs "java/lang/IllegalArgumentException" (xW E G a c)) := by
  refine g_entry (by decide) (by simp [Value.category]) (Nat.le_of_ble_eq_true rfl) ?_
  refine g_aload_n d_Mill_argument_0 rfl ?_
  refine x_get (k := 0) (j := 0) (v := .ref (a + 1)) kc_Mill fl_Mill_15 (by decide) (by decide) rfl rfl d_Mill_argument_1 ?_
  refine g_iload_n d_Mill_argument_4 rfl ?_
  refine g_iload_n d_Mill_argument_5 rfl ?_
  refine c_Vr (as := [.int (x), .int (q)]) kv_Types_hasConstructor ml_Mill_70 rfl (x_at (k := 1) (by decide) rfl) (m_Types_hasConstructor (x_at (k := 1) (by decide) rfl) (x_at (k := 2) (by decide) rfl) x q) rfl (Nat.le_of_ble_eq_true rfl) rfl d_Mill_argument_6 rfl ?_
  refine g_if_eq (tgt := 23) d_Mill_argument_9 (by decide) (fun c_9 => ?_) (fun c_9 => ?_)
  rotate_left
  · exact absurd c_9 (fun e => h (b32_t e))
  refine g_throw (th_Mill_IAE) d_Mill_argument_23 d_Mill_argument_26 d_Mill_argument_27 d_Mill_argument_30 rfl hF.1 hF.2 (by show 2 + 3 < _; omega) (Nat.le_of_ble_eq_true rfl) ?_
  intro k z1 z2
  exact ⟨rfl, rfl, z1, z2, rfl⟩
set_option maxHeartbeats 400000 in
set_option maxRecDepth 100000 in
theorem m_X_any_no (hF : gFit E (xW E G a c) 1 6) (x : Int32) (h : ¬ tTold (c.2.1 0) x) : GM E Y_Mill_any (d + 10) [.ref a, .int x] (xW E G a c) (tIs "java/lang/IllegalArgumentException" (xW E G a c)) := by
  refine g_entry (by decide) (by simp [Value.category]) (Nat.le_of_ble_eq_true rfl) ?_
  refine g_aload_n d_Mill_any_0 rfl ?_
  refine x_get (k := 0) (j := 0) (v := .ref (a + 1)) kc_Mill fl_Mill_15 (by decide) (by decide) rfl rfl d_Mill_any_1 ?_
  refine g_iload_n d_Mill_any_4 rfl ?_
  refine c_Vr (as := [.int (x)]) kv_Types_isTold ml_Mill_60 rfl (x_at (k := 1) (by decide) rfl) (m_Types_isTold (x_at (k := 1) (by decide) rfl) (x_at (k := 2) (by decide) rfl) x) rfl (Nat.le_of_ble_eq_true rfl) rfl d_Mill_any_5 rfl ?_
  refine g_if_ne (tgt := 19) d_Mill_any_8 (by decide) (fun c_8 => ?_) (fun c_8 => ?_)
  · exact absurd c_8 (fun e => e (by rw [b32, if_neg h]))
  refine g_throw (th_Mill_IAE) d_Mill_any_11 d_Mill_any_14 d_Mill_any_15 d_Mill_any_18 rfl hF.1 hF.2 (by show 2 + 3 < _; omega) (Nat.le_of_ble_eq_true rfl) ?_
  intro k z1 z2
  exact ⟨rfl, rfl, z1, z2, rfl⟩
set_option maxHeartbeats 400000 in
set_option maxRecDepth 100000 in
theorem m_X_number_no (hF : gFit E (xW E G a c) 1 6) (x y v : Int32) (h : ¬ ((¬ x < 0 ∧ ¬ 16 ≤ x) ∧ (c.2.1 0) (tn x) = 0)) : GM E Y_Mill_number (d + 10) [.ref a, .int x, .int y, .int v] (xW E G a c) (tIs "java/lang/IllegalArgumentException" (xW E G a c)) := by
  refine g_entry (by decide) (by simp [Value.category]) (Nat.le_of_ble_eq_true rfl) ?_
  refine g_aload_n d_Mill_number_0 rfl ?_
  refine x_get (k := 0) (j := 0) (v := .ref (a + 1)) kc_Mill fl_Mill_15 (by decide) (by decide) rfl rfl d_Mill_number_1 ?_
  refine g_iload_n d_Mill_number_4 rfl ?_
  refine c_Vr (as := [.int (x)]) kv_Types_isOfNumbers ml_Mill_91 rfl (x_at (k := 1) (by decide) rfl) (m_Types_isOfNumbers (x_at (k := 1) (by decide) rfl) (x_at (k := 2) (by decide) rfl) x) rfl (Nat.le_of_ble_eq_true rfl) rfl d_Mill_number_5 rfl ?_
  refine g_if_ne (tgt := 19) d_Mill_number_8 (by decide) (fun c_8 => ?_) (fun c_8 => ?_)
  · exact absurd c_8 (fun e => e (by rw [b32, if_neg h]))
  refine g_throw (th_Mill_IAE) d_Mill_number_11 d_Mill_number_14 d_Mill_number_15 d_Mill_number_18 rfl hF.1 hF.2 (by show 2 + 3 < _; omega) (Nat.le_of_ble_eq_true rfl) ?_
  intro k z1 z2
  exact ⟨rfl, rfl, z1, z2, rfl⟩
set_option maxHeartbeats 400000 in
set_option maxRecDepth 100000 in
theorem m_X_make_no (hF : gFit E (xW E G a c) 1 6) (x q v : Int32) (h : ¬ tHas (c.2.1 0) x q) : GM E Y_Mill_make (d + 10) [.ref a, .int x, .int q, .int v] (xW E G a c) (tIs "java/lang/IllegalArgumentException" (xW E G a c)) := by
  refine g_entry (by decide) (by simp [Value.category]) (Nat.le_of_ble_eq_true rfl) ?_
  refine g_aload_n d_Mill_make_0 rfl ?_
  refine x_get (k := 0) (j := 0) (v := .ref (a + 1)) kc_Mill fl_Mill_15 (by decide) (by decide) rfl rfl d_Mill_make_1 ?_
  refine g_iload_n d_Mill_make_4 rfl ?_
  refine g_iload_n d_Mill_make_5 rfl ?_
  refine c_Vr (as := [.int (x), .int (q)]) kv_Types_hasConstructor ml_Mill_70 rfl (x_at (k := 1) (by decide) rfl) (m_Types_hasConstructor (x_at (k := 1) (by decide) rfl) (x_at (k := 2) (by decide) rfl) x q) rfl (Nat.le_of_ble_eq_true rfl) rfl d_Mill_make_6 rfl ?_
  refine g_if_ne (tgt := 20) d_Mill_make_9 (by decide) (fun c_9 => ?_) (fun c_9 => ?_)
  · exact absurd c_9 (fun e => e (by rw [b32, if_neg h]))
  refine g_throw (th_Mill_IAE) d_Mill_make_12 d_Mill_make_15 d_Mill_make_16 d_Mill_make_19 rfl hF.1 hF.2 (by show 2 + 3 < _; omega) (Nat.le_of_ble_eq_true rfl) ?_
  intro k z1 z2
  exact ⟨rfl, rfl, z1, z2, rfl⟩
set_option maxHeartbeats 400000 in
set_option maxRecDepth 100000 in
theorem m_X_either_no (hF : gFit E (xW E G a c) 1 6) (h : c.1 4 < 2) : GM E Y_Mill_either (d + 10) [.ref a] (xW E G a c) (tIs "java/lang/IllegalStateException" (xW E G a c)) := by
  refine g_entry (by decide) (by simp [Value.category]) (Nat.le_of_ble_eq_true rfl) ?_
  refine g_aload_n d_Mill_either_0 rfl ?_
  refine x_get (k := 0) (j := 1) (v := .ref (a + 8)) kc_Mill fl_Mill_26 (by decide) (by decide) rfl rfl d_Mill_either_1 ?_
  refine c_Vr (as := []) kv_Pile_height ml_Mill_113 rfl (x_at (k := 8) (by decide) rfl) (m_X_height_8 (c := c)) rfl (Nat.le_of_ble_eq_true rfl) rfl d_Mill_either_4 rfl ?_
  refine g_iconst (v := 2) d_Mill_either_7 (by decide) ?_
  refine g_icmp_lt (tgt := 37) d_Mill_either_8 (by decide) (fun c_8 => ?_) (fun c_8 => ?_)
  rotate_left
  · exact absurd c_8 (fun e => e h)
  refine g_throw (th_Mill_ISE) d_Mill_either_37 d_Mill_either_40 d_Mill_either_41 d_Mill_either_44 rfl hF.1 hF.2 (by show 2 + 3 < _; omega) (Nat.le_of_ble_eq_true rfl) ?_
  intro k z1 z2
  exact ⟨rfl, rfl, z1, z2, rfl⟩

set_option maxHeartbeats 400000 in
set_option maxRecDepth 100000 in
theorem m_X_name_no (hF : gFit E (xW E G a c) 1 6) (x : Int32) (h : c.1 4 = 0) : GM E Y_Mill_name (d + 10) [.ref a, .int x] (xW E G a c) (tIs (if ¬ x < 0 ∧ ¬ 8 ≤ x then "java/lang/IllegalStateException" else "java/lang/IllegalArgumentException") (xW E G a c)) := by
  refine g_entry (by decide) (by simp [Value.category]) (Nat.le_of_ble_eq_true rfl) ?_
  refine g_iload_n d_Mill_name_0 rfl ?_
  refine c_Sr (as := [.int (x)]) ks_Mill_isName ml_Mill_123 (m_Mill_isName x) rfl (Nat.le_of_ble_eq_true rfl) rfl d_Mill_name_1 rfl ?_
  refine g_if_ne (tgt := 15) d_Mill_name_4 (by decide) (fun c_4 => ?_) (fun c_4 => ?_)
  · have c_4 := b32_t c_4
    refine g_aload_n d_Mill_name_15 rfl ?_
    refine x_get (k := 0) (j := 1) (v := .ref (a + 8)) kc_Mill fl_Mill_26 (by decide) (by decide) rfl rfl d_Mill_name_16 ?_
    refine g_iconst (v := 0) d_Mill_name_19 (by decide) ?_
    refine c_Vr (as := [.int (0)]) kv_Pile_fromTop ml_Mill_126 rfl (x_at (k := 8) (by decide) rfl) (m_X_top0_8 h) rfl (Nat.le_of_ble_eq_true rfl) rfl d_Mill_name_20 rfl ?_
    refine g_astore_nN d_Mill_name_23 (by decide) rfl ?_
    refine g_aload_nN d_Mill_name_24 rfl ?_
    refine g_ifnullN (tgt := 36) d_Mill_name_25 (by decide) ?_
    refine g_throw (th_Mill_ISE) d_Mill_name_36 d_Mill_name_39 d_Mill_name_40 d_Mill_name_43 rfl hF.1 hF.2 (by show 2 + 3 < _; omega) (Nat.le_of_ble_eq_true rfl) ?_
    intro k z1 z2
    rw [if_pos c_4]
    exact ⟨rfl, rfl, z1, z2, rfl⟩
  · have c_4 := b32_f c_4
    refine g_throw (th_Mill_IAE) d_Mill_name_7 d_Mill_name_10 d_Mill_name_11 d_Mill_name_14 rfl hF.1 hF.2 (by show 2 + 3 < _; omega) (Nat.le_of_ble_eq_true rfl) ?_
    intro k z1 z2
    rw [if_neg c_4]
    exact ⟨rfl, rfl, z1, z2, rfl⟩
set_option maxHeartbeats 400000 in
set_option maxRecDepth 100000 in
theorem m_X_addCase_no (hF : gFit E (xW E G a c) 1 6) (x : Int32) (h : c.1 4 = 0) : GM E Y_Mill_addCase (d + 10) [.ref a, .int x] (xW E G a c) (tIs "java/lang/IllegalStateException" (xW E G a c)) := by
  refine g_entry (by decide) (by simp [Value.category]) (Nat.le_of_ble_eq_true rfl) ?_
  refine g_aload_n d_Mill_addCase_0 rfl ?_
  refine x_get (k := 0) (j := 1) (v := .ref (a + 8)) kc_Mill fl_Mill_26 (by decide) (by decide) rfl rfl d_Mill_addCase_1 ?_
  refine g_iconst (v := 0) d_Mill_addCase_4 (by decide) ?_
  refine c_Vr (as := [.int (0)]) kv_Pile_fromTop ml_Mill_126 rfl (x_at (k := 8) (by decide) rfl) (m_X_top0_8 h) rfl (Nat.le_of_ble_eq_true rfl) rfl d_Mill_addCase_5 rfl ?_
  refine g_astore_nN d_Mill_addCase_8 (by decide) rfl ?_
  refine g_aload_nN d_Mill_addCase_9 rfl ?_
  refine g_ifnullN (tgt := 24) d_Mill_addCase_10 (by decide) ?_
  refine g_throw (th_Mill_ISE) d_Mill_addCase_24 d_Mill_addCase_27 d_Mill_addCase_28 d_Mill_addCase_31 rfl hF.1 hF.2 (by show 2 + 3 < _; omega) (Nat.le_of_ble_eq_true rfl) ?_
  intro k z1 z2
  exact ⟨rfl, rfl, z1, z2, rfl⟩
set_option maxHeartbeats 400000 in
set_option maxRecDepth 100000 in
theorem m_X_build_no (hF : gFit E (xW E G a c) 1 6) (h : c.1 3 = 0) : GM E Y_Mill_build (d + 10) [.ref a] (xW E G a c) (tIs "java/lang/IllegalStateException" (xW E G a c)) := by
  refine g_entry (by decide) (by simp [Value.category]) (Nat.le_of_ble_eq_true rfl) ?_
  refine g_aload_n d_Mill_build_0 rfl ?_
  refine x_get (k := 0) (j := 3) (v := .ref (a + 5)) kc_Mill fl_Mill_19 (by decide) (by decide) rfl rfl d_Mill_build_1 ?_
  refine c_Vr (as := []) kv_Cases_size ml_Mill_155 rfl (x_at (k := 5) (by decide) rfl) (m_X_size (c := c)) rfl (Nat.le_of_ble_eq_true rfl) rfl d_Mill_build_4 rfl ?_
  refine g_if_ne (tgt := 18) d_Mill_build_7 (by decide) (fun c_7 => ?_) (fun c_7 => ?_)
  · exact absurd c_7 (fun e => e h)
  refine g_throw (th_Mill_ISE) d_Mill_build_10 d_Mill_build_13 d_Mill_build_14 d_Mill_build_17 rfl hF.1 hF.2 (by show 2 + 3 < _; omega) (Nat.le_of_ble_eq_true rfl) ?_
  intro k z1 z2
  exact ⟨rfl, rfl, z1, z2, rfl⟩
set_option maxHeartbeats 400000 in
set_option maxRecDepth 100000 in
theorem m_X_match_no (hF : gFit E (xW E G a c) 1 6) (x : Int32) (h : c.1 5 = 0) : GM E Y_Mill_match (d + 10) [.ref a, .int x] (xW E G a c) (tIs "java/lang/IllegalStateException" (xW E G a c)) := by
  refine g_entry (by decide) (by simp [Value.category]) (Nat.le_of_ble_eq_true rfl) ?_
  refine g_aload_n d_Mill_match_0 rfl ?_
  refine x_get (k := 0) (j := 2) (v := .ref (a + 10)) kc_Mill fl_Mill_30 (by decide) (by decide) rfl rfl d_Mill_match_1 ?_
  refine g_iconst (v := 0) d_Mill_match_4 (by decide) ?_
  refine c_Vr (as := [.int (0)]) kv_Pile_fromTop ml_Mill_126 rfl (x_at (k := 10) (by decide) rfl) (m_X_top0_10 h) rfl (Nat.le_of_ble_eq_true rfl) rfl d_Mill_match_5 rfl ?_
  refine g_astore_nN d_Mill_match_8 (by decide) rfl ?_
  refine g_aload_nN d_Mill_match_9 rfl ?_
  refine g_ifnullN (tgt := 34) d_Mill_match_10 (by decide) ?_
  refine g_throw (th_Mill_ISE) d_Mill_match_34 d_Mill_match_37 d_Mill_match_38 d_Mill_match_41 rfl hF.1 hF.2 (by show 2 + 3 < _; omega) (Nat.le_of_ble_eq_true rfl) ?_
  intro k z1 z2
  exact ⟨rfl, rfl, z1, z2, rfl⟩
set_option maxHeartbeats 400000 in
set_option maxRecDepth 100000 in
theorem m_X_question_no (hF : gFit E (xW E G a c) 1 6) (x y : Int32) (h : c.1 1 = 0) : GM E Y_Mill_question (d + 10) [.ref a, .int x, .int y] (xW E G a c) (tIs "java/lang/IllegalArgumentException" (xW E G a c)) := by
  refine g_entry (by decide) (by simp [Value.category]) (Nat.le_of_ble_eq_true rfl) ?_
  refine g_aload_n d_Mill_question_0 rfl ?_
  refine x_get (k := 0) (j := 7) (v := .int (c.1 1)) kc_Mill fl_Mill_157 (by decide) (by decide) rfl rfl d_Mill_question_1 ?_
  refine g_if_eq (tgt := 31) d_Mill_question_4 (by decide) (fun c_4 => ?_) (fun c_4 => ?_)
  rotate_left
  · exact absurd c_4 (fun e => e h)
  refine g_throw (th_Mill_IAE) d_Mill_question_31 d_Mill_question_34 d_Mill_question_35 d_Mill_question_38 rfl hF.1 hF.2 (by show 2 + 3 < _; omega) (Nat.le_of_ble_eq_true rfl) ?_
  intro k z1 z2
  exact ⟨rfl, rfl, z1, z2, rfl⟩
set_option maxHeartbeats 400000 in
set_option maxRecDepth 100000 in
theorem m_X_pop_no0 (h : c.1 4 = 0) : GM E Y_Mill_pop (d + 10) [.ref a, .int 0] (xW E G a c) (rIs (some (.int 0)) (xW E G a c)) := by
  refine g_entry (by decide) (by simp [Value.category]) (Nat.le_of_ble_eq_true rfl) ?_
  refine g_aload_n d_Mill_pop_0 rfl ?_
  refine g_iload_n d_Mill_pop_1 rfl ?_
  refine c_Vr (as := [.int (0)]) kv_Mill_pileOf ml_Mill_94 rfl (x_at (k := 0) (by decide) rfl) (m_Mill_pileOf (x_at (k := 0) (by decide) rfl) 0) rfl (Nat.le_of_ble_eq_true rfl) rfl d_Mill_pop_2 rfl ?_
  refine g_astore_n d_Mill_pop_5 (by decide) rfl ?_
  refine g_aload_n d_Mill_pop_6 rfl ?_
  refine g_iconst (v := 0) d_Mill_pop_7 (by decide) ?_
  refine c_Vr (as := [.int (0)]) kv_Pile_fromTop ml_Mill_126 rfl (x_at (k := 8) (by decide) rfl) (m_X_top0_8 h) rfl (Nat.le_of_ble_eq_true rfl) rfl d_Mill_pop_8 rfl ?_
  refine g_astore_nN d_Mill_pop_11 (by decide) rfl ?_
  refine g_aload_nN d_Mill_pop_12 rfl ?_
  refine g_ifnonnullN d_Mill_pop_13 ?_
  refine g_iconst (v := 0) d_Mill_pop_16 (by decide) ?_
  refine g_iret rfl d_Mill_pop_17 ?_
  exact ⟨rfl, rfl⟩
set_option maxHeartbeats 400000 in
set_option maxRecDepth 100000 in
theorem m_X_pop_no1 (h : c.1 5 = 0) : GM E Y_Mill_pop (d + 10) [.ref a, .int 1] (xW E G a c) (rIs (some (.int 0)) (xW E G a c)) := by
  refine g_entry (by decide) (by simp [Value.category]) (Nat.le_of_ble_eq_true rfl) ?_
  refine g_aload_n d_Mill_pop_0 rfl ?_
  refine g_iload_n d_Mill_pop_1 rfl ?_
  refine c_Vr (as := [.int (1)]) kv_Mill_pileOf ml_Mill_94 rfl (x_at (k := 0) (by decide) rfl) (m_Mill_pileOf (x_at (k := 0) (by decide) rfl) 1) rfl (Nat.le_of_ble_eq_true rfl) rfl d_Mill_pop_2 rfl ?_
  refine g_astore_n d_Mill_pop_5 (by decide) rfl ?_
  refine g_aload_n d_Mill_pop_6 rfl ?_
  refine g_iconst (v := 0) d_Mill_pop_7 (by decide) ?_
  refine c_Vr (as := [.int (0)]) kv_Pile_fromTop ml_Mill_126 rfl (x_at (k := 10) (by decide) rfl) (m_X_top0_10 h) rfl (Nat.le_of_ble_eq_true rfl) rfl d_Mill_pop_8 rfl ?_
  refine g_astore_nN d_Mill_pop_11 (by decide) rfl ?_
  refine g_aload_nN d_Mill_pop_12 rfl ?_
  refine g_ifnonnullN d_Mill_pop_13 ?_
  refine g_iconst (v := 0) d_Mill_pop_16 (by decide) ?_
  refine g_iret rfl d_Mill_pop_17 ?_
  exact ⟨rfl, rfl⟩
set_option maxHeartbeats 400000 in
set_option maxRecDepth 100000 in
theorem m_X_unused_no (h : c.1 1 = 0) (x : Int32) : GM E Y_Mill_unused (d + 10) [.ref a, .int x] (xW E G a c) (rIs (some (.int (-1))) (xW E G a c)) := by
  refine g_entry (by decide) (by simp [Value.category]) (Nat.le_of_ble_eq_true rfl) ?_
  refine g_aload_n d_Mill_unused_0 rfl ?_
  refine x_get (k := 0) (j := 7) (v := .int (c.1 1)) kc_Mill fl_Mill_157 (by decide) (by decide) rfl rfl d_Mill_unused_1 ?_
  refine g_if_eq (tgt := 18) d_Mill_unused_4 (by decide) (fun c_4 => ?_) (fun c_4 => ?_)
  rotate_left
  · exact absurd c_4 (fun e => e h)
  refine g_iconst (v := (-1)) d_Mill_unused_18 (by decide) ?_
  refine g_iret rfl d_Mill_unused_19 ?_
  exact ⟨rfl, rfl⟩
set_option maxHeartbeats 400000 in
set_option maxRecDepth 100000 in
theorem m_X_lengthOf_no (x : Int32) (h0 : ¬ x < 0) (h1 : ¬ 8 ≤ x) (h : c.2.2.1 3 (tn x) = none) : GM E Y_Passage_lengthOf d [.ref (a + 20), .int x] (xW E G a c) (rIs (some (.int 0)) (xW E G a c)) := by
  refine g_entry (by decide) (by simp [Value.category]) (Nat.le_of_ble_eq_true rfl) ?_
  refine g_aload_n d_Passage_lengthOf_0 rfl ?_
  refine x_get (k := 20) (j := 1) (v := .ref (a + 22)) kc_Passage fl_Passage_17 (by decide) (by decide) rfl rfl d_Passage_lengthOf_1 ?_
  refine g_iload_n d_Passage_lengthOf_4 rfl ?_
  refine g_taldN (j := tn x) (x_at (k := 22) (by decide) rfl) (tn_hi h0) (tn_lt h0 h1 (by decide)) h d_Passage_lengthOf_5 ?_
  refine g_astore_nN d_Passage_lengthOf_6 (by decide) rfl ?_
  refine g_aload_nN d_Passage_lengthOf_7 rfl ?_
  refine g_ifnonnullN d_Passage_lengthOf_8 ?_
  refine g_iconst (v := 0) d_Passage_lengthOf_11 (by decide) ?_
  refine g_goto (tgt := 21) d_Passage_lengthOf_12 (by decide) ?_
  refine g_iret rfl d_Passage_lengthOf_21 ?_
  exact ⟨rfl, rfl⟩
set_option maxHeartbeats 400000 in
set_option maxRecDepth 100000 in
theorem m_X_toldOf_no (x y : Int32) (h0 : ¬ x < 0) (h1 : ¬ 8 ≤ x) (h : c.2.2.1 3 (tn x) = none) : GM E Y_Passage_toldOf d [.ref (a + 20), .int x, .int y] (xW E G a c) (rIs (some (.int (-1))) (xW E G a c)) := by
  refine g_entry (by decide) (by simp [Value.category]) (Nat.le_of_ble_eq_true rfl) ?_
  refine g_aload_n d_Passage_toldOf_0 rfl ?_
  refine x_get (k := 20) (j := 1) (v := .ref (a + 22)) kc_Passage fl_Passage_17 (by decide) (by decide) rfl rfl d_Passage_toldOf_1 ?_
  refine g_iload_n d_Passage_toldOf_4 rfl ?_
  refine g_taldN (j := tn x) (x_at (k := 22) (by decide) rfl) (tn_hi h0) (tn_lt h0 h1 (by decide)) h d_Passage_toldOf_5 ?_
  refine g_astore_nN d_Passage_toldOf_6 (by decide) rfl ?_
  refine g_aload_nN d_Passage_toldOf_7 rfl ?_
  refine g_ifnullN (tgt := 25) d_Passage_toldOf_8 (by decide) ?_
  refine g_iconst (v := (-1)) d_Passage_toldOf_25 (by decide) ?_
  refine g_iret rfl d_Passage_toldOf_26 ?_
  exact ⟨rfl, rfl⟩
set_option maxHeartbeats 400000 in
set_option maxRecDepth 100000 in
theorem m_X_bound_no (hF : gFit E (xW E G a c) 1 6) (x : Int32) (h : ∀ k, k < 8 → c.2.2.1 3 k = none) : GM E Y_Mill_bound (d + 10) [.ref a, .int x] (xW E G a c) (xAns E G a c (if (¬ x < 0 ∧ ¬ 8 ≤ x) then .inr (0, c) else .inl "java/lang/IllegalArgumentException")) := by
  refine g_entry (by decide) (by simp [Value.category]) (Nat.le_of_ble_eq_true rfl) ?_
  refine g_iload_n d_Mill_bound_0 rfl ?_
  refine c_Sr (as := [.int (x)]) ks_Mill_isName ml_Mill_123 (m_Mill_isName x) rfl (Nat.le_of_ble_eq_true rfl) rfl d_Mill_bound_1 rfl ?_
  refine g_if_ne (tgt := 15) d_Mill_bound_4 (by decide) (fun c_4 => ?_) (fun c_4 => ?_)
  · have c_4 := b32_t c_4
    refine g_aload_n d_Mill_bound_15 rfl ?_
    refine x_get (k := 0) (j := 5) (v := .ref (a + 20)) kc_Mill fl_Mill_45 (by decide) (by decide) rfl rfl d_Mill_bound_16 ?_
    refine g_iload_n d_Mill_bound_19 rfl ?_
    refine c_Vr (as := [.int (x)]) kv_Passage_lengthOf ml_Mill_184 rfl (x_at (k := 20) (by decide) rfl) (m_X_lengthOf_no x c_4.1 c_4.2 (h _ (tn_lt c_4.1 c_4.2 (by decide)))) rfl (Nat.le_of_ble_eq_true rfl) rfl d_Mill_bound_20 rfl ?_
    refine g_iret rfl d_Mill_bound_23 ?_
    rw [if_pos c_4]
    exact ⟨rfl, rfl⟩
  · have c_4 := b32_f c_4
    refine g_throw (th_Mill_IAE) d_Mill_bound_7 d_Mill_bound_10 d_Mill_bound_11 d_Mill_bound_14 rfl hF.1 hF.2 (by show 2 + 3 < _; omega) (Nat.le_of_ble_eq_true rfl) ?_
    intro k z1 z2
    rw [if_neg c_4]
    exact ⟨rfl, rfl, z1, z2, rfl⟩
set_option maxHeartbeats 400000 in
set_option maxRecDepth 100000 in
theorem m_X_boundAt_no (hF : gFit E (xW E G a c) 1 6) (x y : Int32) (h : ∀ k, k < 8 → c.2.2.1 3 k = none) : GM E Y_Mill_boundAt (d + 10) [.ref a, .int x, .int y] (xW E G a c) (xAns E G a c (if (¬ x < 0 ∧ ¬ 8 ≤ x) then .inr (-1, c) else .inl "java/lang/IllegalArgumentException")) := by
  refine g_entry (by decide) (by simp [Value.category]) (Nat.le_of_ble_eq_true rfl) ?_
  refine g_iload_n d_Mill_boundAt_0 rfl ?_
  refine c_Sr (as := [.int (x)]) ks_Mill_isName ml_Mill_123 (m_Mill_isName x) rfl (Nat.le_of_ble_eq_true rfl) rfl d_Mill_boundAt_1 rfl ?_
  refine g_if_ne (tgt := 15) d_Mill_boundAt_4 (by decide) (fun c_4 => ?_) (fun c_4 => ?_)
  · have c_4 := b32_t c_4
    refine g_aload_n d_Mill_boundAt_15 rfl ?_
    refine x_get (k := 0) (j := 5) (v := .ref (a + 20)) kc_Mill fl_Mill_45 (by decide) (by decide) rfl rfl d_Mill_boundAt_16 ?_
    refine g_iload_n d_Mill_boundAt_19 rfl ?_
    refine g_iload_n d_Mill_boundAt_20 rfl ?_
    refine c_Vr (as := [.int (x), .int (y)]) kv_Passage_toldOf ml_Mill_187 rfl (x_at (k := 20) (by decide) rfl) (m_X_toldOf_no x y c_4.1 c_4.2 (h _ (tn_lt c_4.1 c_4.2 (by decide)))) rfl (Nat.le_of_ble_eq_true rfl) rfl d_Mill_boundAt_21 rfl ?_
    refine g_iret rfl d_Mill_boundAt_24 ?_
    rw [if_pos c_4]
    exact ⟨rfl, rfl⟩
  · have c_4 := b32_f c_4
    refine g_throw (th_Mill_IAE) d_Mill_boundAt_7 d_Mill_boundAt_10 d_Mill_boundAt_11 d_Mill_boundAt_14 rfl hF.1 hF.2 (by show 2 + 3 < _; omega) (Nat.le_of_ble_eq_true rfl) ?_
    intro k z1 z2
    rw [if_neg c_4]
    exact ⟨rfl, rfl, z1, z2, rfl⟩
theorem x_fill {k N : Nat} {f : Nat → Int32} (hk : k < 24) (hC : xC E a c k = gAI E N f) (hN : N < 2 ^ 31) (v : Int32) (hC' : xC E a c' k = gAI E N (fillF f N v)) (hfr : ∀ i, i < 24 → i ≠ k → xC E a c' i = xC E a c i) : GM E Y_Arrays_fill d [.ref (a + k), .int v] (xW E G a c) (rIs none (xW E G a c')) := by
  have K := m_Arrays_fill (E := E) (d := d) (x_at (G := G) hk hC) hN v
  rw [x_up hk hC' hfr] at K
  exact K
def kForT (c : cS) : cS := cR (cR c 0 (fillF (c.2.1 0) 16 (-1))) 1 (fillF (c.2.1 1) 128 0)
set_option maxHeartbeats 400000 in
set_option maxRecDepth 100000 in
theorem m_X_forgetT : GM E Y_Types_forget (d + 1) [.ref (a + 1)] (xW E G a c) (rIs none (xW E G a (kForT c))) := by
  refine g_entry (by decide) (by simp [Value.category]) (Nat.le_of_ble_eq_true rfl) ?_
  refine g_aload_n d_Types_forget_0 rfl ?_
  refine x_get (k := 1) (j := 0) (v := .ref (a + 2)) kc_Types fl_Types_9 (by decide) (by decide) rfl rfl d_Types_forget_1 ?_
  refine g_iconst (v := (-1)) d_Types_forget_4 (by decide) ?_
  refine c_Sr (as := [.ref (a + 2), .int ((-1))]) ks_Arrays_fill ml_Types_21 (x_fill (c' := cR c 0 (fillF (c.2.1 0) 16 (-1))) (k := 2) (by decide) rfl (by decide) (-1) rfl xf_A0) rfl (Nat.le_of_ble_eq_true rfl) rfl d_Types_forget_5 rfl ?_
  refine g_aload_n d_Types_forget_8 rfl ?_
  refine x_get (k := 1) (j := 1) (v := .ref (a + 3)) kc_Types fl_Types_15 (by decide) (by decide) rfl rfl d_Types_forget_9 ?_
  refine g_iconst (v := 0) d_Types_forget_12 (by decide) ?_
  refine c_Sr (as := [.ref (a + 3), .int (0)]) ks_Arrays_fill ml_Types_21 (x_fill (c' := kForT c) (k := 3) (by decide) rfl (by decide) 0 rfl xf_A1) rfl (Nat.le_of_ble_eq_true rfl) rfl d_Types_forget_13 rfl ?_
  refine g_vret rfl d_Types_forget_16 ?_
  exact ⟨rfl, rfl⟩
set_option maxHeartbeats 400000 in
set_option maxRecDepth 100000 in
theorem m_X_alclear0 (h : c.1 23 = 0) : GM E Y_ArrayList_clear d [.ref (a + 23)] (xW E G a c) (rIs none (xW E G a (cF (cF c 22 (c.1 22 + 1)) 23 0))) := by
  refine g_entry (by decide) (by simp [Value.category]) (Nat.le_of_ble_eq_true rfl) ?_
  refine g_aload_n d_ArrayList_clear_0 rfl ?_
  refine g_dup d_ArrayList_clear_1 rfl ?_
  refine x_get (k := 23) (j := 0) (v := .int (c.1 22)) kc_ArrayList fl_ArrayList_63 (by decide) (by decide) rfl rfl d_ArrayList_clear_2 ?_
  refine g_iconst (v := 1) d_ArrayList_clear_5 (by decide) ?_
  refine g_iadd d_ArrayList_clear_6 ?_
  refine x_put (c' := (cF c 22 ((c.1 22) + (1)))) (k := 23) (j := 0) kc_ArrayList fl_ArrayList_63 (by decide) (by decide) rfl rfl rfl rfl (Nat.le_of_ble_eq_true rfl) rfl rfl xf_F22 d_ArrayList_clear_7 ?_
  refine g_aload_n d_ArrayList_clear_10 rfl ?_
  refine x_get (k := 23) (j := 1) (v := .ref (c.2.2.2 3)) kc_ArrayList fl_ArrayList_9 (by decide) (by decide) rfl rfl d_ArrayList_clear_11 ?_
  refine g_astore_n d_ArrayList_clear_14 (by decide) rfl ?_
  refine g_aload_n d_ArrayList_clear_15 rfl ?_
  refine x_get (k := 23) (j := 2) (v := .int (c.1 23)) kc_ArrayList fl_ArrayList_48 (by decide) (by decide) rfl rfl d_ArrayList_clear_16 ?_
  refine g_istore_n d_ArrayList_clear_19 (by decide) rfl ?_
  refine g_aload_n d_ArrayList_clear_20 rfl ?_
  refine g_iconst (v := 0) d_ArrayList_clear_21 (by decide) ?_
  refine g_dup_x1 d_ArrayList_clear_22 rfl rfl ?_
  refine x_put (c' := (cF (cF c 22 ((c.1 22) + (1))) 23 (0))) (k := 23) (j := 2) kc_ArrayList fl_ArrayList_48 (by decide) (by decide) rfl rfl rfl rfl (Nat.le_of_ble_eq_true rfl) rfl rfl xf_F23 d_ArrayList_clear_23 ?_
  refine g_istore_n d_ArrayList_clear_26 (by decide) rfl ?_
  refine g_iload_n d_ArrayList_clear_27 rfl ?_
  refine g_iload_n d_ArrayList_clear_28 rfl ?_
  refine g_icmp_ge (tgt := 42) d_ArrayList_clear_29 (by decide) (fun c_29 => ?_) (fun c_29 => ?_)
  rotate_left
  · exact absurd c_29 (fun e => e (by rw [h]; decide))
  refine g_vret rfl d_ArrayList_clear_42 ?_
  exact ⟨rfl, rfl⟩
def kNul (c : cS) (k : Nat) : cS := (c.1, c.2.1, upT c.2.2.1 3 (fun q => if q < k then none else c.2.2.1 3 q), c.2.2.2)
theorem kNul_s {c : cS} {k : Nat} : cT (kNul c k) 3 k none = kNul c (k + 1) := by
  unfold kNul cT
  refine Prod.ext rfl (Prod.ext rfl (Prod.ext (funext fun j => ?_) rfl))
  show upT _ 3 _ j = upT _ 3 _ j
  unfold upT
  by_cases e : j = 3
  · rw [if_pos e, if_pos e]
    funext q
    show (if q = k then none else if q < k then none else c.2.2.1 3 q) = if q < k + 1 then none else c.2.2.1 3 q
    by_cases e2 : q = k
    · rw [if_pos e2, if_pos (by omega)]
    · rw [if_neg e2]
      by_cases e3 : q < k
      · rw [if_pos e3, if_pos (by omega)]
      · rw [if_neg e3, if_neg (by omega)]
  · rw [if_neg e, if_neg e]
    show (if j = 3 then _ else c.2.2.1 j) = _
    exact if_neg e
theorem kNul_0 {c : cS} : kNul c 0 = c := by
  refine Prod.ext rfl (Prod.ext rfl (Prod.ext (funext fun j => ?_) rfl))
  show upT _ 3 _ j = _
  unfold upT
  by_cases e : j = 3
  · rw [if_pos e]
    subst e
    funext q
    exact if_neg (by omega)
  · rw [if_neg e]
set_option maxHeartbeats 400000 in
set_option maxRecDepth 100000 in
theorem m_X_forgetP_loop {G0 : gS} : ∀ (n k : Nat), 8 < k + n → k ≤ 8 → GT E Y_Passage_forget (d + 1) G0 14 [(0, .ref (a + 20)), (1, .int (nI k))] [] (xW E G a (kNul c k)) (rIs none (xW E G a (kNul c 8))) := by
  intro n
  induction n with
  | zero =>
    intro k h1 h2
    omega
  | succ n ih =>
    intro k h1 h2
    refine g_iload_n d_Passage_forget_14 rfl ?_
    refine g_bipush (v := 8) d_Passage_forget_15 (by decide) ?_
    refine g_icmp_ge (tgt := 33) d_Passage_forget_17 (by decide) (fun c_17 => ?_) (fun c_17 => ?_)
    · refine g_vret rfl d_Passage_forget_33 ?_
      have e : k = 8 := by have := (le_hi i8 (nI_hi (n := k) (by omega))).mp c_17; omega
      subst e
      exact ⟨rfl, rfl⟩
    · refine g_aload_n d_Passage_forget_20 rfl ?_
      refine x_get (k := 20) (j := 1) (v := .ref (a + 22)) kc_Passage fl_Passage_17 (by decide) (by decide) rfl rfl d_Passage_forget_21 ?_
      refine g_iload_n d_Passage_forget_24 rfl ?_
      refine g_null d_Passage_forget_25 ?_
      refine x_tstN (c' := (cT (kNul c k) 3 (k) none)) (k := 22) (q := k) (by decide) rfl (nI_hi (by omega)) (by have := Nat.not_le.mp (fun q => c_17 ((le_hi i8 (nI_hi (n := k) (by omega))).mpr q)); omega) rfl xf_T3 d_Passage_forget_26 ?_
      refine g_iinc (v := nI k + 1) d_Passage_forget_27 rfl (by rfl) (by decide) rfl ?_
      refine g_goto (tgt := 14) d_Passage_forget_30 (by decide) ?_
      rw [kNul_s, nI_1]
      exact ih (k + 1) (by omega) (by have := Nat.not_le.mp (fun q => c_17 ((le_hi i8 (nI_hi (n := k) (by omega))).mpr q)); omega)
def kForP (c : cS) : cS := kNul (cF (cF (cF c 21 0) 22 (c.1 22 + 1)) 23 0) 8
set_option maxHeartbeats 400000 in
set_option maxRecDepth 100000 in
theorem m_X_forgetP0 (h : c.1 23 = 0) : GM E Y_Passage_forget (d + 1) [.ref (a + 20)] (xW E G a c) (rIs none (xW E G a (kForP c))) := by
  refine g_entry (by decide) (by simp [Value.category]) (Nat.le_of_ble_eq_true rfl) ?_
  refine g_aload_n d_Passage_forget_0 rfl ?_
  refine g_iconst (v := 0) d_Passage_forget_1 (by decide) ?_
  refine x_put (c' := (cF c 21 (0))) (k := 20) (j := 3) kc_Passage fl_Passage_28 (by decide) (by decide) rfl rfl rfl rfl (Nat.le_of_ble_eq_true rfl) rfl rfl xf_F21 d_Passage_forget_2 ?_
  refine g_aload_n d_Passage_forget_5 rfl ?_
  refine x_get (k := 20) (j := 2) (v := .ref (a + 23)) kc_Passage fl_Passage_24 (by decide) (by decide) rfl rfl d_Passage_forget_6 ?_
  refine c_Vr (as := []) kv_ArrayList_clear ml_Passage_32 rfl (x_at (k := 23) (by decide) rfl) (m_X_alclear0 (c := (cF c 21 0)) h) rfl (Nat.le_of_ble_eq_true rfl) rfl d_Passage_forget_9 rfl ?_
  refine g_iconst (v := 0) d_Passage_forget_12 (by decide) ?_
  refine g_istore_n d_Passage_forget_13 (by decide) rfl ?_
  have K := m_X_forgetP_loop (E := E) (d := d) (G := G) (a := a) (G0 := xW E G a c) (c := cF (cF (cF c 21 0) 22 (c.1 22 + 1)) 23 0) 9 0 (by omega) (by omega)
  rw [kNul_0, show nI 0 = 0 from rfl] at K
  exact K
end XM
