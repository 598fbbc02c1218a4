/-! Types, method by method -/
theorem d_Types_canBe_0 : decode Y_Types_canBe.2.1 0 = .ok (.iload_n 1, 1) := by decide +kernel
theorem d_Types_canBe_1 : decode Y_Types_canBe.2.1 1 = .ok (.ifCond .lt 13, 3) := by decide +kernel
theorem d_Types_canBe_4 : decode Y_Types_canBe.2.1 4 = .ok (.iload_n 1, 1) := by decide +kernel
theorem d_Types_canBe_5 : decode Y_Types_canBe.2.1 5 = .ok (.bipush 16, 2) := by decide +kernel
theorem d_Types_canBe_7 : decode Y_Types_canBe.2.1 7 = .ok (.if_icmp .ge 7, 3) := by decide +kernel
theorem d_Types_canBe_10 : decode Y_Types_canBe.2.1 10 = .ok (.iconst 1, 1) := by decide +kernel
theorem d_Types_canBe_11 : decode Y_Types_canBe.2.1 11 = .ok (.goto 4, 3) := by decide +kernel
theorem d_Types_canBe_14 : decode Y_Types_canBe.2.1 14 = .ok (.iconst 0, 1) := by decide +kernel
theorem d_Types_canBe_15 : decode Y_Types_canBe.2.1 15 = .ok (.ireturn, 1) := by decide +kernel
theorem d_Types_isTold_0 : decode Y_Types_isTold.2.1 0 = .ok (.aload_n 0, 1) := by decide +kernel
theorem d_Types_isTold_1 : decode Y_Types_isTold.2.1 1 = .ok (.iload_n 1, 1) := by decide +kernel
theorem d_Types_isTold_2 : decode Y_Types_isTold.2.1 2 = .ok (.invokevirtual 27, 3) := by decide +kernel
theorem d_Types_isTold_5 : decode Y_Types_isTold.2.1 5 = .ok (.ifCond .eq 17, 3) := by decide +kernel
theorem d_Types_isTold_8 : decode Y_Types_isTold.2.1 8 = .ok (.aload_n 0, 1) := by decide +kernel
theorem d_Types_isTold_9 : decode Y_Types_isTold.2.1 9 = .ok (.getfield 9, 3) := by decide +kernel
theorem d_Types_isTold_12 : decode Y_Types_isTold.2.1 12 = .ok (.iload_n 1, 1) := by decide +kernel
theorem d_Types_isTold_13 : decode Y_Types_isTold.2.1 13 = .ok (.iaload, 1) := by decide +kernel
theorem d_Types_isTold_14 : decode Y_Types_isTold.2.1 14 = .ok (.iconst (-1), 1) := by decide +kernel
theorem d_Types_isTold_15 : decode Y_Types_isTold.2.1 15 = .ok (.if_icmp .eq 7, 3) := by decide +kernel
theorem d_Types_isTold_18 : decode Y_Types_isTold.2.1 18 = .ok (.iconst 1, 1) := by decide +kernel
theorem d_Types_isTold_19 : decode Y_Types_isTold.2.1 19 = .ok (.goto 4, 3) := by decide +kernel
theorem d_Types_isTold_22 : decode Y_Types_isTold.2.1 22 = .ok (.iconst 0, 1) := by decide +kernel
theorem d_Types_isTold_23 : decode Y_Types_isTold.2.1 23 = .ok (.ireturn, 1) := by decide +kernel
theorem d_Types_isOfNumbers_0 : decode Y_Types_isOfNumbers.2.1 0 = .ok (.aload_n 0, 1) := by decide +kernel
theorem d_Types_isOfNumbers_1 : decode Y_Types_isOfNumbers.2.1 1 = .ok (.iload_n 1, 1) := by decide +kernel
theorem d_Types_isOfNumbers_2 : decode Y_Types_isOfNumbers.2.1 2 = .ok (.invokevirtual 27, 3) := by decide +kernel
theorem d_Types_isOfNumbers_5 : decode Y_Types_isOfNumbers.2.1 5 = .ok (.ifCond .eq 16, 3) := by decide +kernel
theorem d_Types_isOfNumbers_8 : decode Y_Types_isOfNumbers.2.1 8 = .ok (.aload_n 0, 1) := by decide +kernel
theorem d_Types_isOfNumbers_9 : decode Y_Types_isOfNumbers.2.1 9 = .ok (.getfield 9, 3) := by decide +kernel
theorem d_Types_isOfNumbers_12 : decode Y_Types_isOfNumbers.2.1 12 = .ok (.iload_n 1, 1) := by decide +kernel
theorem d_Types_isOfNumbers_13 : decode Y_Types_isOfNumbers.2.1 13 = .ok (.iaload, 1) := by decide +kernel
theorem d_Types_isOfNumbers_14 : decode Y_Types_isOfNumbers.2.1 14 = .ok (.ifCond .ne 7, 3) := by decide +kernel
theorem d_Types_isOfNumbers_17 : decode Y_Types_isOfNumbers.2.1 17 = .ok (.iconst 1, 1) := by decide +kernel
theorem d_Types_isOfNumbers_18 : decode Y_Types_isOfNumbers.2.1 18 = .ok (.goto 4, 3) := by decide +kernel
theorem d_Types_isOfNumbers_21 : decode Y_Types_isOfNumbers.2.1 21 = .ok (.iconst 0, 1) := by decide +kernel
theorem d_Types_isOfNumbers_22 : decode Y_Types_isOfNumbers.2.1 22 = .ok (.ireturn, 1) := by decide +kernel
theorem d_Types_hasConstructor_0 : decode Y_Types_hasConstructor.2.1 0 = .ok (.aload_n 0, 1) := by decide +kernel
theorem d_Types_hasConstructor_1 : decode Y_Types_hasConstructor.2.1 1 = .ok (.iload_n 1, 1) := by decide +kernel
theorem d_Types_hasConstructor_2 : decode Y_Types_hasConstructor.2.1 2 = .ok (.invokevirtual 31, 3) := by decide +kernel
theorem d_Types_hasConstructor_5 : decode Y_Types_hasConstructor.2.1 5 = .ok (.ifCond .eq 21, 3) := by decide +kernel
theorem d_Types_hasConstructor_8 : decode Y_Types_hasConstructor.2.1 8 = .ok (.iload_n 2, 1) := by decide +kernel
theorem d_Types_hasConstructor_9 : decode Y_Types_hasConstructor.2.1 9 = .ok (.ifCond .lt 17, 3) := by decide +kernel
theorem d_Types_hasConstructor_12 : decode Y_Types_hasConstructor.2.1 12 = .ok (.iload_n 2, 1) := by decide +kernel
theorem d_Types_hasConstructor_13 : decode Y_Types_hasConstructor.2.1 13 = .ok (.aload_n 0, 1) := by decide +kernel
theorem d_Types_hasConstructor_14 : decode Y_Types_hasConstructor.2.1 14 = .ok (.getfield 9, 3) := by decide +kernel
theorem d_Types_hasConstructor_17 : decode Y_Types_hasConstructor.2.1 17 = .ok (.iload_n 1, 1) := by decide +kernel
theorem d_Types_hasConstructor_18 : decode Y_Types_hasConstructor.2.1 18 = .ok (.iaload, 1) := by decide +kernel
theorem d_Types_hasConstructor_19 : decode Y_Types_hasConstructor.2.1 19 = .ok (.if_icmp .ge 7, 3) := by decide +kernel
theorem d_Types_hasConstructor_22 : decode Y_Types_hasConstructor.2.1 22 = .ok (.iconst 1, 1) := by decide +kernel
theorem d_Types_hasConstructor_23 : decode Y_Types_hasConstructor.2.1 23 = .ok (.goto 4, 3) := by decide +kernel
theorem d_Types_hasConstructor_26 : decode Y_Types_hasConstructor.2.1 26 = .ok (.iconst 0, 1) := by decide +kernel
theorem d_Types_hasConstructor_27 : decode Y_Types_hasConstructor.2.1 27 = .ok (.ireturn, 1) := by decide +kernel
theorem d_Types_tell_0 : decode Y_Types_tell.2.1 0 = .ok (.aload_n 0, 1) := by decide +kernel
theorem d_Types_tell_1 : decode Y_Types_tell.2.1 1 = .ok (.getfield 9, 3) := by decide +kernel
theorem d_Types_tell_4 : decode Y_Types_tell.2.1 4 = .ok (.iload_n 1, 1) := by decide +kernel
theorem d_Types_tell_5 : decode Y_Types_tell.2.1 5 = .ok (.iload_n 2, 1) := by decide +kernel
theorem d_Types_tell_6 : decode Y_Types_tell.2.1 6 = .ok (.iastore, 1) := by decide +kernel
theorem d_Types_tell_7 : decode Y_Types_tell.2.1 7 = .ok (.return_, 1) := by decide +kernel
theorem d_Types_constructorsOf_0 : decode Y_Types_constructorsOf.2.1 0 = .ok (.aload_n 0, 1) := by decide +kernel
theorem d_Types_constructorsOf_1 : decode Y_Types_constructorsOf.2.1 1 = .ok (.iload_n 1, 1) := by decide +kernel
theorem d_Types_constructorsOf_2 : decode Y_Types_constructorsOf.2.1 2 = .ok (.invokevirtual 31, 3) := by decide +kernel
theorem d_Types_constructorsOf_5 : decode Y_Types_constructorsOf.2.1 5 = .ok (.ifCond .eq 12, 3) := by decide +kernel
theorem d_Types_constructorsOf_8 : decode Y_Types_constructorsOf.2.1 8 = .ok (.aload_n 0, 1) := by decide +kernel
theorem d_Types_constructorsOf_9 : decode Y_Types_constructorsOf.2.1 9 = .ok (.getfield 9, 3) := by decide +kernel
theorem d_Types_constructorsOf_12 : decode Y_Types_constructorsOf.2.1 12 = .ok (.iload_n 1, 1) := by decide +kernel
theorem d_Types_constructorsOf_13 : decode Y_Types_constructorsOf.2.1 13 = .ok (.iaload, 1) := by decide +kernel
theorem d_Types_constructorsOf_14 : decode Y_Types_constructorsOf.2.1 14 = .ok (.goto 4, 3) := by decide +kernel
theorem d_Types_constructorsOf_17 : decode Y_Types_constructorsOf.2.1 17 = .ok (.iconst 0, 1) := by decide +kernel
theorem d_Types_constructorsOf_18 : decode Y_Types_constructorsOf.2.1 18 = .ok (.ireturn, 1) := by decide +kernel
theorem d_Types_arity_0 : decode Y_Types_arity.2.1 0 = .ok (.aload_n 0, 1) := by decide +kernel
theorem d_Types_arity_1 : decode Y_Types_arity.2.1 1 = .ok (.iload_n 1, 1) := by decide +kernel
theorem d_Types_arity_2 : decode Y_Types_arity.2.1 2 = .ok (.iload_n 2, 1) := by decide +kernel
theorem d_Types_arity_3 : decode Y_Types_arity.2.1 3 = .ok (.invokevirtual 34, 3) := by decide +kernel
theorem d_Types_arity_6 : decode Y_Types_arity.2.1 6 = .ok (.ifCond .eq 17, 3) := by decide +kernel
theorem d_Types_arity_9 : decode Y_Types_arity.2.1 9 = .ok (.aload_n 0, 1) := by decide +kernel
theorem d_Types_arity_10 : decode Y_Types_arity.2.1 10 = .ok (.getfield 15, 3) := by decide +kernel
theorem d_Types_arity_13 : decode Y_Types_arity.2.1 13 = .ok (.iload_n 1, 1) := by decide +kernel
theorem d_Types_arity_14 : decode Y_Types_arity.2.1 14 = .ok (.bipush 8, 2) := by decide +kernel
theorem d_Types_arity_16 : decode Y_Types_arity.2.1 16 = .ok (.imul, 1) := by decide +kernel
theorem d_Types_arity_17 : decode Y_Types_arity.2.1 17 = .ok (.iload_n 2, 1) := by decide +kernel
theorem d_Types_arity_18 : decode Y_Types_arity.2.1 18 = .ok (.iadd, 1) := by decide +kernel
theorem d_Types_arity_19 : decode Y_Types_arity.2.1 19 = .ok (.iaload, 1) := by decide +kernel
theorem d_Types_arity_20 : decode Y_Types_arity.2.1 20 = .ok (.goto 4, 3) := by decide +kernel
theorem d_Types_arity_23 : decode Y_Types_arity.2.1 23 = .ok (.iconst 0, 1) := by decide +kernel
theorem d_Types_arity_24 : decode Y_Types_arity.2.1 24 = .ok (.ireturn, 1) := by decide +kernel
section TY
variable {E : gE} {d : Nat} {G : gS} {a ac aa ag : Nat} {fc fa fg : Nat → Int32}
set_option maxHeartbeats 4000000 in
set_option maxRecDepth 100000 in
theorem m_Types_canBe (x : Int32) : GM E Y_Types_canBe d [.ref a, .int x] G (rIs (some (.int (b32 (¬ x < 0 ∧ ¬ 16 ≤ x)))) G) := by
  refine g_entry (by decide) (by simp [Value.category]) (Nat.le_of_ble_eq_true rfl) ?_
  refine g_iload_n d_Types_canBe_0 rfl ?_
  refine g_if_lt (tgt := 14) d_Types_canBe_1 (by decide) (fun c_1 => ?_) (fun c_1 => ?_)
  · refine g_iconst (v := 0) d_Types_canBe_14 (by decide) ?_
    refine g_zret rfl rfl d_Types_canBe_15 ?_
    simp [rIs, b32, c_1]
  · refine g_iload_n d_Types_canBe_4 rfl ?_
    refine g_bipush (v := 16) d_Types_canBe_5 (by decide) ?_
    refine g_icmp_ge (tgt := 14) d_Types_canBe_7 (by decide) (fun c_7 => ?_) (fun c_7 => ?_)
    · refine g_iconst (v := 0) d_Types_canBe_14 (by decide) ?_
      refine g_zret rfl rfl d_Types_canBe_15 ?_
      simp [rIs, b32, c_1, c_7]
    · refine g_iconst (v := 1) d_Types_canBe_10 (by decide) ?_
      refine g_goto (tgt := 15) d_Types_canBe_11 (by decide) ?_
      refine g_zret rfl rfl d_Types_canBe_15 ?_
      simp [rIs, b32, c_1, c_7]
end TY
