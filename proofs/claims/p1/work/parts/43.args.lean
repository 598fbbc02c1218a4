/-! Types: addArgument -/
theorem d_Types_addArgument_0 : decode Y_Types_addArgument.2.1 0 = .ok (.iload_n 1, 1) := by decide +kernel
theorem d_Types_addArgument_1 : decode Y_Types_addArgument.2.1 1 = .ok (.bipush 8, 2) := by decide +kernel
theorem d_Types_addArgument_3 : decode Y_Types_addArgument.2.1 3 = .ok (.imul, 1) := by decide +kernel
theorem d_Types_addArgument_4 : decode Y_Types_addArgument.2.1 4 = .ok (.iload_n 2, 1) := by decide +kernel
theorem d_Types_addArgument_5 : decode Y_Types_addArgument.2.1 5 = .ok (.iadd, 1) := by decide +kernel
theorem d_Types_addArgument_6 : decode Y_Types_addArgument.2.1 6 = .ok (.istore 4, 2) := by decide +kernel
theorem d_Types_addArgument_8 : decode Y_Types_addArgument.2.1 8 = .ok (.aload_n 0, 1) := by decide +kernel
theorem d_Types_addArgument_9 : decode Y_Types_addArgument.2.1 9 = .ok (.getfield 18, 3) := by decide +kernel
theorem d_Types_addArgument_12 : decode Y_Types_addArgument.2.1 12 = .ok (.iload 4, 2) := by decide +kernel
theorem d_Types_addArgument_14 : decode Y_Types_addArgument.2.1 14 = .ok (.iconst 4, 1) := by decide +kernel
theorem d_Types_addArgument_15 : decode Y_Types_addArgument.2.1 15 = .ok (.imul, 1) := by decide +kernel
theorem d_Types_addArgument_16 : decode Y_Types_addArgument.2.1 16 = .ok (.aload_n 0, 1) := by decide +kernel
theorem d_Types_addArgument_17 : decode Y_Types_addArgument.2.1 17 = .ok (.getfield 15, 3) := by decide +kernel
theorem d_Types_addArgument_20 : decode Y_Types_addArgument.2.1 20 = .ok (.iload 4, 2) := by decide +kernel
theorem d_Types_addArgument_22 : decode Y_Types_addArgument.2.1 22 = .ok (.iaload, 1) := by decide +kernel
theorem d_Types_addArgument_23 : decode Y_Types_addArgument.2.1 23 = .ok (.iadd, 1) := by decide +kernel
theorem d_Types_addArgument_24 : decode Y_Types_addArgument.2.1 24 = .ok (.iload_n 3, 1) := by decide +kernel
theorem d_Types_addArgument_25 : decode Y_Types_addArgument.2.1 25 = .ok (.iastore, 1) := by decide +kernel
theorem d_Types_addArgument_26 : decode Y_Types_addArgument.2.1 26 = .ok (.aload_n 0, 1) := by decide +kernel
theorem d_Types_addArgument_27 : decode Y_Types_addArgument.2.1 27 = .ok (.getfield 15, 3) := by decide +kernel
theorem d_Types_addArgument_30 : decode Y_Types_addArgument.2.1 30 = .ok (.iload 4, 2) := by decide +kernel
theorem d_Types_addArgument_32 : decode Y_Types_addArgument.2.1 32 = .ok (.dup2, 1) := by decide +kernel
theorem d_Types_addArgument_33 : decode Y_Types_addArgument.2.1 33 = .ok (.iaload, 1) := by decide +kernel
theorem d_Types_addArgument_34 : decode Y_Types_addArgument.2.1 34 = .ok (.iconst 1, 1) := by decide +kernel
theorem d_Types_addArgument_35 : decode Y_Types_addArgument.2.1 35 = .ok (.iadd, 1) := by decide +kernel
theorem d_Types_addArgument_36 : decode Y_Types_addArgument.2.1 36 = .ok (.iastore, 1) := by decide +kernel
theorem d_Types_addArgument_37 : decode Y_Types_addArgument.2.1 37 = .ok (.aload_n 0, 1) := by decide +kernel
theorem d_Types_addArgument_38 : decode Y_Types_addArgument.2.1 38 = .ok (.getfield 15, 3) := by decide +kernel
theorem d_Types_addArgument_41 : decode Y_Types_addArgument.2.1 41 = .ok (.iload 4, 2) := by decide +kernel
theorem d_Types_addArgument_43 : decode Y_Types_addArgument.2.1 43 = .ok (.iaload, 1) := by decide +kernel
theorem d_Types_addArgument_44 : decode Y_Types_addArgument.2.1 44 = .ok (.ireturn, 1) := by decide +kernel
section TA
variable {E : gE} {d : Nat} {G : gS} {a ac aa ag : Nat} {fa fg : Nat → Int32}
set_option maxHeartbeats 400000 in
set_option maxRecDepth 100000 in
theorem m_Types_addArgument (ha : G.1 a = some (.inr (11, [.ref ac, .ref aa, .ref ag]))) (hb : G.1 aa = some (gAI E 128 fa)) (hg : G.1 ag = some (gAI E 512 fg)) (hne : ag ≠ aa) {x c y : Int32} {X C N : Nat} (hx : x.toInt = (X : Int)) (hc : c.toInt = (C : Int)) (bX : X < 16) (bC : C < 8) (hn : (fa (X * 8 + C)).toInt = (N : Int)) (bN : N < 4) : GM E Y_Types_addArgument d [.ref a, .int x, .int c, .int y] G (rIs (some (.int (fa (X * 8 + C) + 1))) (gUp (gUp G ag (gAI E 512 (upd fg ((X * 8 + C) * 4 + N) y))) aa (gAI E 128 (upd fa (X * 8 + C) (fa (X * 8 + C) + 1))))) := by
  refine g_entry (by decide) (by simp [Value.category]) (Nat.le_of_ble_eq_true rfl) ?_
  refine g_iload_n d_Types_addArgument_0 rfl ?_
  refine g_bipush (v := 8) d_Types_addArgument_1 (by decide) ?_
  refine g_imul d_Types_addArgument_3 ?_
  refine g_iload_n d_Types_addArgument_4 rfl ?_
  refine g_iadd d_Types_addArgument_5 ?_
  refine g_istore d_Types_addArgument_6 (by decide) rfl ?_
  refine g_aload_n d_Types_addArgument_8 rfl ?_
  refine g_getf kc_Types fl_Types_18 (by decide) ha rfl d_Types_addArgument_9 ?_
  refine g_iload d_Types_addArgument_12 rfl ?_
  refine g_iconst (v := 4) d_Types_addArgument_14 (by decide) ?_
  refine g_imul d_Types_addArgument_15 ?_
  refine g_aload_n d_Types_addArgument_16 rfl ?_
  refine g_getf kc_Types fl_Types_15 (by decide) ha rfl d_Types_addArgument_17 ?_
  refine g_iload d_Types_addArgument_20 rfl ?_
  refine g_iald hb (add_hi (mul_hi hx i8 (by omega)) hc (by omega)) (by omega) d_Types_addArgument_22 ?_
  refine g_iadd d_Types_addArgument_23 ?_
  refine g_iload_n d_Types_addArgument_24 rfl ?_
  refine g_iast hg (add_hi (mul_hi (add_hi (mul_hi hx i8 (by omega)) hc (by omega)) i4 (by omega)) hn (by omega)) (by omega) d_Types_addArgument_25 ?_
  have ha_u1 := gUp_k (x := (gAI E 512 (upd fg ((X * 8 + C) * 4 + N) (y)))) hg ha (by intro e; cases e)
  have hb_u1 := gUp_ne (x := (gAI E 512 (upd fg ((X * 8 + C) * 4 + N) (y)))) hb hne
  have hg_u1 := gUp_at (x := (gAI E 512 (upd fg ((X * 8 + C) * 4 + N) (y)))) hg
  refine g_aload_n d_Types_addArgument_26 rfl ?_
  refine g_getf kc_Types fl_Types_15 (by decide) ha_u1 rfl d_Types_addArgument_27 ?_
  refine g_iload d_Types_addArgument_30 rfl ?_
  refine g_dup2 d_Types_addArgument_32 rfl rfl ?_
  refine g_iald hb_u1 (add_hi (mul_hi hx i8 (by omega)) hc (by omega)) (by omega) d_Types_addArgument_33 ?_
  refine g_iconst (v := 1) d_Types_addArgument_34 (by decide) ?_
  refine g_iadd d_Types_addArgument_35 ?_
  refine g_iast hb_u1 (add_hi (mul_hi hx i8 (by omega)) hc (by omega)) (by omega) d_Types_addArgument_36 ?_
  have ha_u2 := gUp_k (x := (gAI E 128 (upd fa (X * 8 + C) ((fa (X * 8 + C)) + (1))))) hb_u1 ha_u1 (by intro e; cases e)
  have hg_u2 := gUp_ne (x := (gAI E 128 (upd fa (X * 8 + C) ((fa (X * 8 + C)) + (1))))) hg_u1 (Ne.symm hne)
  have hb_u2 := gUp_at (x := (gAI E 128 (upd fa (X * 8 + C) ((fa (X * 8 + C)) + (1))))) hb_u1
  refine g_aload_n d_Types_addArgument_37 rfl ?_
  refine g_getf kc_Types fl_Types_15 (by decide) ha_u2 rfl d_Types_addArgument_38 ?_
  refine g_iload d_Types_addArgument_41 rfl ?_
  refine g_iald hb_u2 (add_hi (mul_hi hx i8 (by omega)) hc (by omega)) (by omega) d_Types_addArgument_43 ?_
  refine g_iret rfl d_Types_addArgument_44 ?_
  refine ⟨?_, rfl⟩
  show _ = Sum.inl (some (Value.int (fa (X * 8 + C) + 1)))
  simp only [upd, if_true]
end TA
