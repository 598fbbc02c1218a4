/-! Types, method by method -/
theorem d_Types_canBe_0 : decode Y_Types_canBe.2.1 0 = .ok (.iload_n 1, 1) := by decide +kernel
theorem d_Types_canBe_1 : decode Y_Types_canBe.2.1 1 = .ok (.ifCond .lt 13, 3) := by decide +kernel
theorem d_Types_canBe_4 : decode Y_Types_canBe.2.1 4 = .ok (.iload_n 1, 1) := by decide +kernel
theorem d_Types_canBe_5 : decode Y_Types_canBe.2.1 5 = .ok (.bipush 16, 2) := by decide +kernel
theorem d_Types_canBe_7 : decode Y_Types_canBe.2.1 7 = .ok (.if_icmp .ge 7, 3) := by decide +kernel
theorem d_Types_canBe_10 : decode Y_Types_canBe.2.1 10 = .ok (.iconst 1, 1) := by decide +kernel
theorem d_Types_canBe_11 : decode Y_Types_canBe.2.1 11 = .ok (.goto 4, 3) := by decide +kernel
theorem d_Types_canBe_14 : decode Y_Types_canBe.2.1 14 = .ok (.iconst 0, 1) := by decide +kernel
theorem d_Types_canBe_15 : decode Y_Types_canBe.2.1 15 = .ok (.ireturn, 1) := by decide +kernel
theorem d_Types_isTold_0 : decode Y_Types_isTold.2.1 0 = .ok (.aload_n 0, 1) := by decide +kernel
theorem d_Types_isTold_1 : decode Y_Types_isTold.2.1 1 = .ok (.iload_n 1, 1) := by decide +kernel
theorem d_Types_isTold_2 : decode Y_Types_isTold.2.1 2 = .ok (.invokevirtual 27, 3) := by decide +kernel
theorem d_Types_isTold_5 : decode Y_Types_isTold.2.1 5 = .ok (.ifCond .eq 17, 3) := by decide +kernel
theorem d_Types_isTold_8 : decode Y_Types_isTold.2.1 8 = .ok (.aload_n 0, 1) := by decide +kernel
theorem d_Types_isTold_9 : decode Y_Types_isTold.2.1 9 = .ok (.getfield 9, 3) := by decide +kernel
theorem d_Types_isTold_12 : decode Y_Types_isTold.2.1 12 = .ok (.iload_n 1, 1) := by decide +kernel
theorem d_Types_isTold_13 : decode Y_Types_isTold.2.1 13 = .ok (.iaload, 1) := by decide +kernel
theorem d_Types_isTold_14 : decode Y_Types_isTold.2.1 14 = .ok (.iconst (-1), 1) := by decide +kernel
theorem d_Types_isTold_15 : decode Y_Types_isTold.2.1 15 = .ok (.if_icmp .eq 7, 3) := by decide +kernel
theorem d_Types_isTold_18 : decode Y_Types_isTold.2.1 18 = .ok (.iconst 1, 1) := by decide +kernel
theorem d_Types_isTold_19 : decode Y_Types_isTold.2.1 19 = .ok (.goto 4, 3) := by decide +kernel
theorem d_Types_isTold_22 : decode Y_Types_isTold.2.1 22 = .ok (.iconst 0, 1) := by decide +kernel
theorem d_Types_isTold_23 : decode Y_Types_isTold.2.1 23 = .ok (.ireturn, 1) := by decide +kernel
theorem d_Types_isOfNumbers_0 : decode Y_Types_isOfNumbers.2.1 0 = .ok (.aload_n 0, 1) := by decide +kernel
theorem d_Types_isOfNumbers_1 : decode Y_Types_isOfNumbers.2.1 1 = .ok (.iload_n 1, 1) := by decide +kernel
theorem d_Types_isOfNumbers_2 : decode Y_Types_isOfNumbers.2.1 2 = .ok (.invokevirtual 27, 3) := by decide +kernel
theorem d_Types_isOfNumbers_5 : decode Y_Types_isOfNumbers.2.1 5 = .ok (.ifCond .eq 16, 3) := by decide +kernel
theorem d_Types_isOfNumbers_8 : decode Y_Types_isOfNumbers.2.1 8 = .ok (.aload_n 0, 1) := by decide +kernel
theorem d_Types_isOfNumbers_9 : decode Y_Types_isOfNumbers.2.1 9 = .ok (.getfield 9, 3) := by decide +kernel
theorem d_Types_isOfNumbers_12 : decode Y_Types_isOfNumbers.2.1 12 = .ok (.iload_n 1, 1) := by decide +kernel
theorem d_Types_isOfNumbers_13 : decode Y_Types_isOfNumbers.2.1 13 = .ok (.iaload, 1) := by decide +kernel
theorem d_Types_isOfNumbers_14 : decode Y_Types_isOfNumbers.2.1 14 = .ok (.ifCond .ne 7, 3) := by decide +kernel
theorem d_Types_isOfNumbers_17 : decode Y_Types_isOfNumbers.2.1 17 = .ok (.iconst 1, 1) := by decide +kernel
theorem d_Types_isOfNumbers_18 : decode Y_Types_isOfNumbers.2.1 18 = .ok (.goto 4, 3) := by decide +kernel
theorem d_Types_isOfNumbers_21 : decode Y_Types_isOfNumbers.2.1 21 = .ok (.iconst 0, 1) := by decide +kernel
theorem d_Types_isOfNumbers_22 : decode Y_Types_isOfNumbers.2.1 22 = .ok (.ireturn, 1) := by decide +kernel
theorem d_Types_hasConstructor_0 : decode Y_Types_hasConstructor.2.1 0 = .ok (.aload_n 0, 1) := by decide +kernel
theorem d_Types_hasConstructor_1 : decode Y_Types_hasConstructor.2.1 1 = .ok (.iload_n 1, 1) := by decide +kernel
theorem d_Types_hasConstructor_2 : decode Y_Types_hasConstructor.2.1 2 = .ok (.invokevirtual 31, 3) := by decide +kernel
theorem d_Types_hasConstructor_5 : decode Y_Types_hasConstructor.2.1 5 = .ok (.ifCond .eq 21, 3) := by decide +kernel
theorem d_Types_hasConstructor_8 : decode Y_Types_hasConstructor.2.1 8 = .ok (.iload_n 2, 1) := by decide +kernel
theorem d_Types_hasConstructor_9 : decode Y_Types_hasConstructor.2.1 9 = .ok (.ifCond .lt 17, 3) := by decide +kernel
theorem d_Types_hasConstructor_12 : decode Y_Types_hasConstructor.2.1 12 = .ok (.iload_n 2, 1) := by decide +kernel
theorem d_Types_hasConstructor_13 : decode Y_Types_hasConstructor.2.1 13 = .ok (.aload_n 0, 1) := by decide +kernel
theorem d_Types_hasConstructor_14 : decode Y_Types_hasConstructor.2.1 14 = .ok (.getfield 9, 3) := by decide +kernel
theorem d_Types_hasConstructor_17 : decode Y_Types_hasConstructor.2.1 17 = .ok (.iload_n 1, 1) := by decide +kernel
theorem d_Types_hasConstructor_18 : decode Y_Types_hasConstructor.2.1 18 = .ok (.iaload, 1) := by decide +kernel
theorem d_Types_hasConstructor_19 : decode Y_Types_hasConstructor.2.1 19 = .ok (.if_icmp .ge 7, 3) := by decide +kernel
theorem d_Types_hasConstructor_22 : decode Y_Types_hasConstructor.2.1 22 = .ok (.iconst 1, 1) := by decide +kernel
theorem d_Types_hasConstructor_23 : decode Y_Types_hasConstructor.2.1 23 = .ok (.goto 4, 3) := by decide +kernel
theorem d_Types_hasConstructor_26 : decode Y_Types_hasConstructor.2.1 26 = .ok (.iconst 0, 1) := by decide +kernel
theorem d_Types_hasConstructor_27 : decode Y_Types_hasConstructor.2.1 27 = .ok (.ireturn, 1) := by decide +kernel
theorem d_Types_tell_0 : decode Y_Types_tell.2.1 0 = .ok (.aload_n 0, 1) := by decide +kernel
theorem d_Types_tell_1 : decode Y_Types_tell.2.1 1 = .ok (.getfield 9, 3) := by decide +kernel
theorem d_Types_tell_4 : decode Y_Types_tell.2.1 4 = .ok (.iload_n 1, 1) := by decide +kernel
theorem d_Types_tell_5 : decode Y_Types_tell.2.1 5 = .ok (.iload_n 2, 1) := by decide +kernel
theorem d_Types_tell_6 : decode Y_Types_tell.2.1 6 = .ok (.iastore, 1) := by decide +kernel
theorem d_Types_tell_7 : decode Y_Types_tell.2.1 7 = .ok (.return_, 1) := by decide +kernel
theorem d_Types_constructorsOf_0 : decode Y_Types_constructorsOf.2.1 0 = .ok (.aload_n 0, 1) := by decide +kernel
theorem d_Types_constructorsOf_1 : decode Y_Types_constructorsOf.2.1 1 = .ok (.iload_n 1, 1) := by decide +kernel
theorem d_Types_constructorsOf_2 : decode Y_Types_constructorsOf.2.1 2 = .ok (.invokevirtual 31, 3) := by decide +kernel
theorem d_Types_constructorsOf_5 : decode Y_Types_constructorsOf.2.1 5 = .ok (.ifCond .eq 12, 3) := by decide +kernel
theorem d_Types_constructorsOf_8 : decode Y_Types_constructorsOf.2.1 8 = .ok (.aload_n 0, 1) := by decide +kernel
theorem d_Types_constructorsOf_9 : decode Y_Types_constructorsOf.2.1 9 = .ok (.getfield 9, 3) := by decide +kernel
theorem d_Types_constructorsOf_12 : decode Y_Types_constructorsOf.2.1 12 = .ok (.iload_n 1, 1) := by decide +kernel
theorem d_Types_constructorsOf_13 : decode Y_Types_constructorsOf.2.1 13 = .ok (.iaload, 1) := by decide +kernel
theorem d_Types_constructorsOf_14 : decode Y_Types_constructorsOf.2.1 14 = .ok (.goto 4, 3) := by decide +kernel
theorem d_Types_constructorsOf_17 : decode Y_Types_constructorsOf.2.1 17 = .ok (.iconst 0, 1) := by decide +kernel
theorem d_Types_constructorsOf_18 : decode Y_Types_constructorsOf.2.1 18 = .ok (.ireturn, 1) := by decide +kernel
theorem d_Types_arity_0 : decode Y_Types_arity.2.1 0 = .ok (.aload_n 0, 1) := by decide +kernel
theorem d_Types_arity_1 : decode Y_Types_arity.2.1 1 = .ok (.iload_n 1, 1) := by decide +kernel
theorem d_Types_arity_2 : decode Y_Types_arity.2.1 2 = .ok (.iload_n 2, 1) := by decide +kernel
theorem d_Types_arity_3 : decode Y_Types_arity.2.1 3 = .ok (.invokevirtual 34, 3) := by decide +kernel
theorem d_Types_arity_6 : decode Y_Types_arity.2.1 6 = .ok (.ifCond .eq 17, 3) := by decide +kernel
theorem d_Types_arity_9 : decode Y_Types_arity.2.1 9 = .ok (.aload_n 0, 1) := by decide +kernel
theorem d_Types_arity_10 : decode Y_Types_arity.2.1 10 = .ok (.getfield 15, 3) := by decide +kernel
theorem d_Types_arity_13 : decode Y_Types_arity.2.1 13 = .ok (.iload_n 1, 1) := by decide +kernel
theorem d_Types_arity_14 : decode Y_Types_arity.2.1 14 = .ok (.bipush 8, 2) := by decide +kernel
theorem d_Types_arity_16 : decode Y_Types_arity.2.1 16 = .ok (.imul, 1) := by decide +kernel
theorem d_Types_arity_17 : decode Y_Types_arity.2.1 17 = .ok (.iload_n 2, 1) := by decide +kernel
theorem d_Types_arity_18 : decode Y_Types_arity.2.1 18 = .ok (.iadd, 1) := by decide +kernel
theorem d_Types_arity_19 : decode Y_Types_arity.2.1 19 = .ok (.iaload, 1) := by decide +kernel
theorem d_Types_arity_20 : decode Y_Types_arity.2.1 20 = .ok (.goto 4, 3) := by decide +kernel
theorem d_Types_arity_23 : decode Y_Types_arity.2.1 23 = .ok (.iconst 0, 1) := by decide +kernel
theorem d_Types_arity_24 : decode Y_Types_arity.2.1 24 = .ok (.ireturn, 1) := by decide +kernel
section TY
variable {E : gE} {d : Nat} {G : gS} {a ac aa ag : Nat} {fc fa fg : Nat → Int32}
set_option maxHeartbeats 4000000 in
set_option maxRecDepth 100000 in
theorem m_Types_canBe (x : Int32) : GM E Y_Types_canBe d [.ref a, .int x] G (rIs (some (.int (b32 (¬ x < 0 ∧ ¬ 16 ≤ x)))) G) := by
  refine g_entry (by decide) (by simp [Value.category]) (Nat.le_of_ble_eq_true rfl) ?_
  refine g_iload_n d_Types_canBe_0 rfl ?_
  refine g_if_lt (tgt := 14) d_Types_canBe_1 (by decide) (fun c_1 => ?_) (fun c_1 => ?_)
  · refine g_iconst (v := 0) d_Types_canBe_14 (by decide) ?_
    refine g_zret rfl rfl d_Types_canBe_15 ?_
    first | (simp only [rIs, b32, c_1, not_true_eq_false, not_false_eq_true, and_true, true_and, and_false, false_and, and_self, if_true, if_false, ite_true, ite_false]; done) | (simp [rIs, b32, c_1]; done) | (simp_all [rIs, b32]; done)
  · refine g_iload_n d_Types_canBe_4 rfl ?_
    refine g_bipush (v := 16) d_Types_canBe_5 (by decide) ?_
    refine g_icmp_ge (tgt := 14) d_Types_canBe_7 (by decide) (fun c_7 => ?_) (fun c_7 => ?_)
    · refine g_iconst (v := 0) d_Types_canBe_14 (by decide) ?_
      refine g_zret rfl rfl d_Types_canBe_15 ?_
      first | (simp only [rIs, b32, c_1, c_7, not_true_eq_false, not_false_eq_true, and_true, true_and, and_false, false_and, and_self, if_true, if_false, ite_true, ite_false]; done) | (simp [rIs, b32, c_1, c_7]; done) | (simp_all [rIs, b32]; done)
    · refine g_iconst (v := 1) d_Types_canBe_10 (by decide) ?_
      refine g_goto (tgt := 15) d_Types_canBe_11 (by decide) ?_
      refine g_zret rfl rfl d_Types_canBe_15 ?_
      first | (simp only [rIs, b32, c_1, c_7, not_true_eq_false, not_false_eq_true, and_true, true_and, and_false, false_and, and_self, if_true, if_false, ite_true, ite_false]; done) | (simp [rIs, b32, c_1, c_7]; done) | (simp_all [rIs, b32]; done)
/-- a type that is told -/
abbrev tTold (fc : Nat → Int32) (x : Int32) : Prop := (¬ x < 0 ∧ ¬ 16 ≤ x) ∧ ¬ fc (tn x) = -1
abbrev tHas (fc : Nat → Int32) (x c : Int32) : Prop := tTold fc x ∧ ¬ c < 0 ∧ ¬ fc (tn x) ≤ c
def tOk (fc : Nat → Int32) : Prop := ∀ j, j < 16 → (fc j).toInt ≤ 8
theorem tHas.lt {fc : Nat → Int32} {x c : Int32} (h : tHas fc x c) (hk : tOk fc) : tn x < 16 ∧ tn c < 8 := by
  obtain ⟨⟨⟨h1, h2⟩, h3⟩, h4, h5⟩ := h
  have e1 : tn x < 16 := tn_lt h1 h2 rfl
  have e2 := hk _ e1
  have e3 := tn_hi h4
  rw [Int32.le_iff_toInt_le] at h5
  exact ⟨e1, by omega⟩
set_option maxHeartbeats 4000000 in
set_option maxRecDepth 100000 in
theorem m_Types_isTold (ha : G.1 a = some (.inr (11, [.ref ac, .ref aa, .ref ag]))) (hc : G.1 ac = some (gAI E 16 fc)) (x : Int32) : GM E Y_Types_isTold (d + 1) [.ref a, .int x] G (rIs (some (.int (b32 (tTold fc x)))) G) := by
  refine g_entry (by decide) (by simp [Value.category]) (Nat.le_of_ble_eq_true rfl) ?_
  refine g_aload_n d_Types_isTold_0 rfl ?_
  refine g_iload_n d_Types_isTold_1 rfl ?_
  refine c_Vr (as := [.int (x)]) kv_Types_canBe ml_Types_27 rfl ha (m_Types_canBe x) rfl (Nat.le_of_ble_eq_true rfl) rfl d_Types_isTold_2 rfl ?_
  refine g_if_eq (tgt := 22) d_Types_isTold_5 (by decide) (fun c_5 => ?_) (fun c_5 => ?_)
  · have c_5 := b32_f c_5
    refine g_iconst (v := 0) d_Types_isTold_22 (by decide) ?_
    refine g_zret rfl rfl d_Types_isTold_23 ?_
    first | (simp only [rIs, b32, tTold, c_5, not_true_eq_false, not_false_eq_true, and_true, true_and, and_false, false_and, and_self, if_true, if_false, ite_true, ite_false]; done) | (simp [rIs, b32, tTold, c_5]; done) | (simp_all [rIs, b32]; done)
  · have c_5 := b32_t c_5
    refine g_aload_n d_Types_isTold_8 rfl ?_
    refine g_getf kc_Types fl_Types_9 (by decide) ha rfl d_Types_isTold_9 ?_
    refine g_iload_n d_Types_isTold_12 rfl ?_
    refine g_iald hc (tn_hi c_5.1) (tn_lt c_5.1 c_5.2 rfl) d_Types_isTold_13 ?_
    refine g_iconst (v := (-1)) d_Types_isTold_14 (by decide) ?_
    refine g_icmp_eq (tgt := 22) d_Types_isTold_15 (by decide) (fun c_15 => ?_) (fun c_15 => ?_)
    · refine g_iconst (v := 0) d_Types_isTold_22 (by decide) ?_
      refine g_zret rfl rfl d_Types_isTold_23 ?_
      first | (simp only [rIs, b32, tTold, c_5, c_15, not_true_eq_false, not_false_eq_true, and_true, true_and, and_false, false_and, and_self, if_true, if_false, ite_true, ite_false]; done) | (simp [rIs, b32, tTold, c_5, c_15]; done) | (simp_all [rIs, b32]; done)
    · refine g_iconst (v := 1) d_Types_isTold_18 (by decide) ?_
      refine g_goto (tgt := 23) d_Types_isTold_19 (by decide) ?_
      refine g_zret rfl rfl d_Types_isTold_23 ?_
      first | (simp only [rIs, b32, tTold, c_5, c_15, not_true_eq_false, not_false_eq_true, and_true, true_and, and_false, false_and, and_self, if_true, if_false, ite_true, ite_false]; done) | (simp [rIs, b32, tTold, c_5, c_15]; done) | (simp_all [rIs, b32]; done)
set_option maxHeartbeats 4000000 in
set_option maxRecDepth 100000 in
theorem m_Types_isOfNumbers (ha : G.1 a = some (.inr (11, [.ref ac, .ref aa, .ref ag]))) (hc : G.1 ac = some (gAI E 16 fc)) (x : Int32) : GM E Y_Types_isOfNumbers (d + 1) [.ref a, .int x] G (rIs (some (.int (b32 ((¬ x < 0 ∧ ¬ 16 ≤ x) ∧ fc (tn x) = 0)))) G) := by
  refine g_entry (by decide) (by simp [Value.category]) (Nat.le_of_ble_eq_true rfl) ?_
  refine g_aload_n d_Types_isOfNumbers_0 rfl ?_
  refine g_iload_n d_Types_isOfNumbers_1 rfl ?_
  refine c_Vr (as := [.int (x)]) kv_Types_canBe ml_Types_27 rfl ha (m_Types_canBe x) rfl (Nat.le_of_ble_eq_true rfl) rfl d_Types_isOfNumbers_2 rfl ?_
  refine g_if_eq (tgt := 21) d_Types_isOfNumbers_5 (by decide) (fun c_5 => ?_) (fun c_5 => ?_)
  · have c_5 := b32_f c_5
    refine g_iconst (v := 0) d_Types_isOfNumbers_21 (by decide) ?_
    refine g_zret rfl rfl d_Types_isOfNumbers_22 ?_
    first | (simp only [rIs, b32, c_5, not_true_eq_false, not_false_eq_true, and_true, true_and, and_false, false_and, and_self, if_true, if_false, ite_true, ite_false]; done) | (simp [rIs, b32, c_5]; done) | (simp_all [rIs, b32]; done)
  · have c_5 := b32_t c_5
    refine g_aload_n d_Types_isOfNumbers_8 rfl ?_
    refine g_getf kc_Types fl_Types_9 (by decide) ha rfl d_Types_isOfNumbers_9 ?_
    refine g_iload_n d_Types_isOfNumbers_12 rfl ?_
    refine g_iald hc (tn_hi c_5.1) (tn_lt c_5.1 c_5.2 rfl) d_Types_isOfNumbers_13 ?_
    refine g_if_ne (tgt := 21) d_Types_isOfNumbers_14 (by decide) (fun c_14 => ?_) (fun c_14 => ?_)
    · refine g_iconst (v := 0) d_Types_isOfNumbers_21 (by decide) ?_
      refine g_zret rfl rfl d_Types_isOfNumbers_22 ?_
      first | (simp only [rIs, b32, c_5, c_14, not_true_eq_false, not_false_eq_true, and_true, true_and, and_false, false_and, and_self, if_true, if_false, ite_true, ite_false]; done) | (simp [rIs, b32, c_5, c_14]; done) | (simp_all [rIs, b32]; done)
    · refine g_iconst (v := 1) d_Types_isOfNumbers_17 (by decide) ?_
      refine g_goto (tgt := 22) d_Types_isOfNumbers_18 (by decide) ?_
      refine g_zret rfl rfl d_Types_isOfNumbers_22 ?_
      first | (simp only [rIs, b32, c_5, c_14, not_true_eq_false, not_false_eq_true, and_true, true_and, and_false, false_and, and_self, if_true, if_false, ite_true, ite_false]; done) | (simp [rIs, b32, c_5, c_14]; done) | (simp_all [rIs, b32]; done)
set_option maxHeartbeats 4000000 in
set_option maxRecDepth 100000 in
theorem m_Types_hasConstructor (ha : G.1 a = some (.inr (11, [.ref ac, .ref aa, .ref ag]))) (hc : G.1 ac = some (gAI E 16 fc)) (x c : Int32) : GM E Y_Types_hasConstructor (d + 2) [.ref a, .int x, .int c] G (rIs (some (.int (b32 (tHas fc x c)))) G) := by
  refine g_entry (by decide) (by simp [Value.category]) (Nat.le_of_ble_eq_true rfl) ?_
  refine g_aload_n d_Types_hasConstructor_0 rfl ?_
  refine g_iload_n d_Types_hasConstructor_1 rfl ?_
  refine c_Vr (as := [.int (x)]) kv_Types_isTold ml_Types_31 rfl ha (m_Types_isTold ha hc x) rfl (Nat.le_of_ble_eq_true rfl) rfl d_Types_hasConstructor_2 rfl ?_
  refine g_if_eq (tgt := 26) d_Types_hasConstructor_5 (by decide) (fun c_5 => ?_) (fun c_5 => ?_)
  · have c_5 := b32_f c_5
    refine g_iconst (v := 0) d_Types_hasConstructor_26 (by decide) ?_
    refine g_zret rfl rfl d_Types_hasConstructor_27 ?_
    first | (simp only [rIs, b32, c_5, not_true_eq_false, not_false_eq_true, and_true, true_and, and_false, false_and, and_self, if_true, if_false, ite_true, ite_false]; done) | (simp [rIs, b32, c_5]; done) | (simp_all [rIs, b32]; done)
  · have c_5 := b32_t c_5
    refine g_iload_n d_Types_hasConstructor_8 rfl ?_
    refine g_if_lt (tgt := 26) d_Types_hasConstructor_9 (by decide) (fun c_9 => ?_) (fun c_9 => ?_)
    · refine g_iconst (v := 0) d_Types_hasConstructor_26 (by decide) ?_
      refine g_zret rfl rfl d_Types_hasConstructor_27 ?_
      first | (simp only [rIs, b32, c_5, c_9, not_true_eq_false, not_false_eq_true, and_true, true_and, and_false, false_and, and_self, if_true, if_false, ite_true, ite_false]; done) | (simp [rIs, b32, c_5, c_9]; done) | (simp_all [rIs, b32]; done)
    · refine g_iload_n d_Types_hasConstructor_12 rfl ?_
      refine g_aload_n d_Types_hasConstructor_13 rfl ?_
      refine g_getf kc_Types fl_Types_9 (by decide) ha rfl d_Types_hasConstructor_14 ?_
      refine g_iload_n d_Types_hasConstructor_17 rfl ?_
      refine g_iald hc (tn_hi c_5.1.1) (tn_lt c_5.1.1 c_5.1.2 rfl) d_Types_hasConstructor_18 ?_
      refine g_icmp_ge (tgt := 26) d_Types_hasConstructor_19 (by decide) (fun c_19 => ?_) (fun c_19 => ?_)
      · refine g_iconst (v := 0) d_Types_hasConstructor_26 (by decide) ?_
        refine g_zret rfl rfl d_Types_hasConstructor_27 ?_
        first | (simp only [rIs, b32, c_5, c_9, c_19, not_true_eq_false, not_false_eq_true, and_true, true_and, and_false, false_and, and_self, if_true, if_false, ite_true, ite_false]; done) | (simp [rIs, b32, c_5, c_9, c_19]; done) | (simp_all [rIs, b32]; done)
      · refine g_iconst (v := 1) d_Types_hasConstructor_22 (by decide) ?_
        refine g_goto (tgt := 27) d_Types_hasConstructor_23 (by decide) ?_
        refine g_zret rfl rfl d_Types_hasConstructor_27 ?_
        first | (simp only [rIs, b32, c_5, c_9, c_19, not_true_eq_false, not_false_eq_true, and_true, true_and, and_false, false_and, and_self, if_true, if_false, ite_true, ite_false]; done) | (simp [rIs, b32, c_5, c_9, c_19]; done) | (simp_all [rIs, b32]; done)
set_option maxHeartbeats 4000000 in
set_option maxRecDepth 100000 in
theorem m_Types_constructorsOf (ha : G.1 a = some (.inr (11, [.ref ac, .ref aa, .ref ag]))) (hc : G.1 ac = some (gAI E 16 fc)) (x : Int32) : GM E Y_Types_constructorsOf (d + 2) [.ref a, .int x] G (rIs (some (.int (if tTold fc x then fc (tn x) else 0))) G) := by
  refine g_entry (by decide) (by simp [Value.category]) (Nat.le_of_ble_eq_true rfl) ?_
  refine g_aload_n d_Types_constructorsOf_0 rfl ?_
  refine g_iload_n d_Types_constructorsOf_1 rfl ?_
  refine c_Vr (as := [.int (x)]) kv_Types_isTold ml_Types_31 rfl ha (m_Types_isTold ha hc x) rfl (Nat.le_of_ble_eq_true rfl) rfl d_Types_constructorsOf_2 rfl ?_
  refine g_if_eq (tgt := 17) d_Types_constructorsOf_5 (by decide) (fun c_5 => ?_) (fun c_5 => ?_)
  · have c_5 := b32_f c_5
    refine g_iconst (v := 0) d_Types_constructorsOf_17 (by decide) ?_
    refine g_iret rfl d_Types_constructorsOf_18 ?_
    first | (simp only [rIs, b32, c_5, not_true_eq_false, not_false_eq_true, and_true, true_and, and_false, false_and, and_self, if_true, if_false, ite_true, ite_false]; done) | (simp [rIs, b32, c_5]; done) | (simp_all [rIs, b32]; done)
  · have c_5 := b32_t c_5
    refine g_aload_n d_Types_constructorsOf_8 rfl ?_
    refine g_getf kc_Types fl_Types_9 (by decide) ha rfl d_Types_constructorsOf_9 ?_
    refine g_iload_n d_Types_constructorsOf_12 rfl ?_
    refine g_iald hc (tn_hi c_5.1.1) (tn_lt c_5.1.1 c_5.1.2 rfl) d_Types_constructorsOf_13 ?_
    refine g_goto (tgt := 18) d_Types_constructorsOf_14 (by decide) ?_
    refine g_iret rfl d_Types_constructorsOf_18 ?_
    first | (simp only [rIs, b32, c_5, not_true_eq_false, not_false_eq_true, and_true, true_and, and_false, false_and, and_self, if_true, if_false, ite_true, ite_false]; done) | (simp [rIs, b32, c_5]; done) | (simp_all [rIs, b32]; done)
set_option maxHeartbeats 4000000 in
set_option maxRecDepth 100000 in
theorem m_Types_arity (ha : G.1 a = some (.inr (11, [.ref ac, .ref aa, .ref ag]))) (hc : G.1 ac = some (gAI E 16 fc)) (hb : G.1 aa = some (gAI E 128 fa)) (hk : tOk fc) (x c : Int32) : GM E Y_Types_arity (d + 3) [.ref a, .int x, .int c] G (rIs (some (.int (if tHas fc x c then fa (8 * tn x + tn c) else 0))) G) := by
  refine g_entry (by decide) (by simp [Value.category]) (Nat.le_of_ble_eq_true rfl) ?_
  refine g_aload_n d_Types_arity_0 rfl ?_
  refine g_iload_n d_Types_arity_1 rfl ?_
  refine g_iload_n d_Types_arity_2 rfl ?_
  refine c_Vr (as := [.int (x), .int (c)]) kv_Types_hasConstructor ml_Types_34 rfl ha (m_Types_hasConstructor ha hc x c) rfl (Nat.le_of_ble_eq_true rfl) rfl d_Types_arity_3 rfl ?_
  refine g_if_eq (tgt := 23) d_Types_arity_6 (by decide) (fun c_6 => ?_) (fun c_6 => ?_)
  · have c_6 := b32_f c_6
    refine g_iconst (v := 0) d_Types_arity_23 (by decide) ?_
    refine g_iret rfl d_Types_arity_24 ?_
    first | (simp only [rIs, b32, c_6, not_true_eq_false, not_false_eq_true, and_true, true_and, and_false, false_and, and_self, if_true, if_false, ite_true, ite_false]; done) | (simp [rIs, b32, c_6]; done) | (simp_all [rIs, b32]; done)
  · have c_6 := b32_t c_6
    refine g_aload_n d_Types_arity_9 rfl ?_
    refine g_getf kc_Types fl_Types_15 (by decide) ha rfl d_Types_arity_10 ?_
    refine g_iload_n d_Types_arity_13 rfl ?_
    refine g_bipush (v := 8) d_Types_arity_14 (by decide) ?_
    refine g_imul d_Types_arity_16 ?_
    refine g_iload_n d_Types_arity_17 rfl ?_
    refine g_iadd d_Types_arity_18 ?_
    refine g_iald hb (ix8 c_6.1.1.1 (c_6.lt hk).1 c_6.2.1 (c_6.lt hk).2) (by have := c_6.lt hk; omega) d_Types_arity_19 ?_
    refine g_goto (tgt := 24) d_Types_arity_20 (by decide) ?_
    refine g_iret rfl d_Types_arity_24 ?_
    first | (simp only [rIs, b32, c_6, not_true_eq_false, not_false_eq_true, and_true, true_and, and_false, false_and, and_self, if_true, if_false, ite_true, ite_false]; done) | (simp [rIs, b32, c_6]; done) | (simp_all [rIs, b32]; done)
set_option maxHeartbeats 4000000 in
set_option maxRecDepth 100000 in
theorem m_Types_tell (ha : G.1 a = some (.inr (11, [.ref ac, .ref aa, .ref ag]))) (hc : G.1 ac = some (gAI E 16 fc)) (x n : Int32) (h0 : ¬ x < 0) (h1 : ¬ 16 ≤ x) : GM E Y_Types_tell d [.ref a, .int x, .int n] G (rIs none (gUp G ac (gAI E 16 (upd fc (tn x) n)))) := by
  refine g_entry (by decide) (by simp [Value.category]) (Nat.le_of_ble_eq_true rfl) ?_
  refine g_aload_n d_Types_tell_0 rfl ?_
  refine g_getf kc_Types fl_Types_9 (by decide) ha rfl d_Types_tell_1 ?_
  refine g_iload_n d_Types_tell_4 rfl ?_
  refine g_iload_n d_Types_tell_5 rfl ?_
  refine g_iast hc (tn_hi h0) (tn_lt h0 h1 rfl) d_Types_tell_6 ?_
  have ha_u1 := gUp_k (x := (gAI E 16 (upd fc (tn x) (n)))) hc ha (by intro e; cases e)
  have hc_u1 := gUp_at (x := (gAI E 16 (upd fc (tn x) (n)))) hc
  refine g_vret rfl d_Types_tell_7 ?_
  exact ⟨rfl, rfl⟩
end TY
