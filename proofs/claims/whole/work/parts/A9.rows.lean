/-! Rows: the rows' list, insert -/
theorem d_Rows_cutTo_0 : decode Y_Rows_cutTo.2.1 0 = .ok (.aload_n 0, 1) := by decide +kernel
theorem d_Rows_cutTo_1 : decode Y_Rows_cutTo.2.1 1 = .ok (.aload_n 0, 1) := by decide +kernel
theorem d_Rows_cutTo_2 : decode Y_Rows_cutTo.2.1 2 = .ok (.getfield 18, 3) := by decide +kernel
theorem d_Rows_cutTo_5 : decode Y_Rows_cutTo.2.1 5 = .ok (.iload_n 1, 1) := by decide +kernel
theorem d_Rows_cutTo_6 : decode Y_Rows_cutTo.2.1 6 = .ok (.invokestatic 22, 3) := by decide +kernel
theorem d_Rows_cutTo_9 : decode Y_Rows_cutTo.2.1 9 = .ok (.putfield 18, 3) := by decide +kernel
theorem d_Rows_cutTo_12 : decode Y_Rows_cutTo.2.1 12 = .ok (.return_, 1) := by decide +kernel
theorem d_Rows_rowAt_0 : decode Y_Rows_rowAt.2.1 0 = .ok (.aload_n 0, 1) := by decide +kernel
theorem d_Rows_rowAt_1 : decode Y_Rows_rowAt.2.1 1 = .ok (.getfield 12, 3) := by decide +kernel
theorem d_Rows_rowAt_4 : decode Y_Rows_rowAt.2.1 4 = .ok (.iload_n 1, 1) := by decide +kernel
theorem d_Rows_rowAt_5 : decode Y_Rows_rowAt.2.1 5 = .ok (.invokevirtual 28, 3) := by decide +kernel
theorem d_Rows_rowAt_8 : decode Y_Rows_rowAt.2.1 8 = .ok (.checkcast 32, 3) := by decide +kernel
theorem d_Rows_rowAt_11 : decode Y_Rows_rowAt.2.1 11 = .ok (.areturn, 1) := by decide +kernel
theorem d_Rows_insert_0 : decode Y_Rows_insert.2.1 0 = .ok (.aload_n 0, 1) := by decide +kernel
theorem d_Rows_insert_1 : decode Y_Rows_insert.2.1 1 = .ok (.getfield 18, 3) := by decide +kernel
theorem d_Rows_insert_4 : decode Y_Rows_insert.2.1 4 = .ok (.iload_n 1, 1) := by decide +kernel
theorem d_Rows_insert_5 : decode Y_Rows_insert.2.1 5 = .ok (.isub, 1) := by decide +kernel
theorem d_Rows_insert_6 : decode Y_Rows_insert.2.1 6 = .ok (.bipush 80, 2) := by decide +kernel
theorem d_Rows_insert_8 : decode Y_Rows_insert.2.1 8 = .ok (.if_icmp .lt 5, 3) := by decide +kernel
theorem d_Rows_insert_11 : decode Y_Rows_insert.2.1 11 = .ok (.aconst_null, 1) := by decide +kernel
theorem d_Rows_insert_12 : decode Y_Rows_insert.2.1 12 = .ok (.areturn, 1) := by decide +kernel
theorem d_Rows_insert_13 : decode Y_Rows_insert.2.1 13 = .ok (.aload_n 0, 1) := by decide +kernel
theorem d_Rows_insert_14 : decode Y_Rows_insert.2.1 14 = .ok (.getfield 18, 3) := by decide +kernel
theorem d_Rows_insert_17 : decode Y_Rows_insert.2.1 17 = .ok (.aload_n 0, 1) := by decide +kernel
theorem d_Rows_insert_18 : decode Y_Rows_insert.2.1 18 = .ok (.getfield 12, 3) := by decide +kernel
theorem d_Rows_insert_21 : decode Y_Rows_insert.2.1 21 = .ok (.invokevirtual 96, 3) := by decide +kernel
theorem d_Rows_insert_24 : decode Y_Rows_insert.2.1 24 = .ok (.if_icmp .ne 18, 3) := by decide +kernel
theorem d_Rows_insert_27 : decode Y_Rows_insert.2.1 27 = .ok (.aload_n 0, 1) := by decide +kernel
theorem d_Rows_insert_28 : decode Y_Rows_insert.2.1 28 = .ok (.getfield 12, 3) := by decide +kernel
theorem d_Rows_insert_31 : decode Y_Rows_insert.2.1 31 = .ok (.new 32, 3) := by decide +kernel
theorem d_Rows_insert_34 : decode Y_Rows_insert.2.1 34 = .ok (.dup, 1) := by decide +kernel
theorem d_Rows_insert_35 : decode Y_Rows_insert.2.1 35 = .ok (.invokespecial 97, 3) := by decide +kernel
theorem d_Rows_insert_38 : decode Y_Rows_insert.2.1 38 = .ok (.invokevirtual 98, 3) := by decide +kernel
theorem d_Rows_insert_41 : decode Y_Rows_insert.2.1 41 = .ok (.pop, 1) := by decide +kernel
theorem d_Rows_insert_42 : decode Y_Rows_insert.2.1 42 = .ok (.iload_n 2, 1) := by decide +kernel
theorem d_Rows_insert_43 : decode Y_Rows_insert.2.1 43 = .ok (.aload_n 0, 1) := by decide +kernel
theorem d_Rows_insert_44 : decode Y_Rows_insert.2.1 44 = .ok (.getfield 18, 3) := by decide +kernel
theorem d_Rows_insert_47 : decode Y_Rows_insert.2.1 47 = .ok (.if_icmp .ge 25, 3) := by decide +kernel
theorem d_Rows_insert_50 : decode Y_Rows_insert.2.1 50 = .ok (.aload_n 0, 1) := by decide +kernel
theorem d_Rows_insert_51 : decode Y_Rows_insert.2.1 51 = .ok (.getfield 12, 3) := by decide +kernel
theorem d_Rows_insert_54 : decode Y_Rows_insert.2.1 54 = .ok (.iload_n 2, 1) := by decide +kernel
theorem d_Rows_insert_55 : decode Y_Rows_insert.2.1 55 = .ok (.aload_n 0, 1) := by decide +kernel
theorem d_Rows_insert_56 : decode Y_Rows_insert.2.1 56 = .ok (.getfield 12, 3) := by decide +kernel
theorem d_Rows_insert_59 : decode Y_Rows_insert.2.1 59 = .ok (.aload_n 0, 1) := by decide +kernel
theorem d_Rows_insert_60 : decode Y_Rows_insert.2.1 60 = .ok (.getfield 18, 3) := by decide +kernel
theorem d_Rows_insert_63 : decode Y_Rows_insert.2.1 63 = .ok (.invokevirtual 102, 3) := by decide +kernel
theorem d_Rows_insert_66 : decode Y_Rows_insert.2.1 66 = .ok (.checkcast 32, 3) := by decide +kernel
theorem d_Rows_insert_69 : decode Y_Rows_insert.2.1 69 = .ok (.invokevirtual 105, 3) := by decide +kernel
theorem d_Rows_insert_72 : decode Y_Rows_insert.2.1 72 = .ok (.aload_n 0, 1) := by decide +kernel
theorem d_Rows_insert_73 : decode Y_Rows_insert.2.1 73 = .ok (.dup, 1) := by decide +kernel
theorem d_Rows_insert_74 : decode Y_Rows_insert.2.1 74 = .ok (.getfield 18, 3) := by decide +kernel
theorem d_Rows_insert_77 : decode Y_Rows_insert.2.1 77 = .ok (.iconst 1, 1) := by decide +kernel
theorem d_Rows_insert_78 : decode Y_Rows_insert.2.1 78 = .ok (.iadd, 1) := by decide +kernel
theorem d_Rows_insert_79 : decode Y_Rows_insert.2.1 79 = .ok (.putfield 18, 3) := by decide +kernel
theorem d_Rows_insert_82 : decode Y_Rows_insert.2.1 82 = .ok (.aload_n 0, 1) := by decide +kernel
theorem d_Rows_insert_83 : decode Y_Rows_insert.2.1 83 = .ok (.getfield 12, 3) := by decide +kernel
theorem d_Rows_insert_86 : decode Y_Rows_insert.2.1 86 = .ok (.iload_n 2, 1) := by decide +kernel
theorem d_Rows_insert_87 : decode Y_Rows_insert.2.1 87 = .ok (.invokevirtual 28, 3) := by decide +kernel
theorem d_Rows_insert_90 : decode Y_Rows_insert.2.1 90 = .ok (.checkcast 32, 3) := by decide +kernel
theorem d_Rows_insert_93 : decode Y_Rows_insert.2.1 93 = .ok (.areturn, 1) := by decide +kernel
section BS
variable {E : gE} {d : Nat} {G G0 : gS} {a : Nat} {c c' : cS} {u u' : uS} {n n' sl sl' : Nat} {Q : gO → gS → Prop} {Nb Sb : Nat}
theorem yW_of {G' : gS} (ha : a + 24 ≤ n) (h1 : ∀ q, q < n → G'.1 q = (yW E G a c u n sl).1 q) (h2 : G'.2.1 = n') (h3 : G'.2.2 = sl') (hnn : n ≤ n') (hnew : ∀ q, n ≤ q → q < n' → G'.1 q = some (zD E u' (u'.1 q) q) ∧ u'.1 q ≠ 0) (hok' : ∀ q y, G'.1 q = some y → q < n') (hok : ∀ q y, (yW E G a c u n sl).1 q = some y → q < n) (hfr : ∀ q, q < n ∨ n' ≤ q → u'.1 q = u.1 q ∧ u'.2.1 q = u.2.1 q ∧ u'.2.2.1 q = u.2.2.1 q ∧ u'.2.2.2 q = u.2.2.2 q) : G' = yW E G a c u' n' sl' := by
  have same : ∀ q, q < n ∨ n' ≤ q → (yW E G a c u' n' sl').1 q = (yW E G a c u n sl).1 q := fun q hq => by
    obtain ⟨e1, e2, e3, e4⟩ := hfr q hq
    simp only [yW, xW, zW]
    by_cases e : a ≤ q ∧ q < a + 24
    · rw [if_pos e, if_pos e]
    · rw [if_neg e, if_neg e, e1]
      by_cases e0 : u.1 q = 0
      · rw [if_pos e0, if_pos e0]
      · rw [if_neg e0, if_neg e0, zD_cong e2 e3 e4]
  refine Prod.ext (funext fun q => ?_) (Prod.ext h2 h3)
  rcases Nat.lt_or_ge q n with hlt | hge
  · rw [h1 q hlt, same q (Or.inl hlt)]
  · rcases Nat.lt_or_ge q n' with hlt' | hge'
    · obtain ⟨e1, e2⟩ := hnew q hge hlt'
      rw [e1]
      simp only [yW, xW, zW]
      rw [if_neg (by omega), if_neg e2]
    · rw [same q (Or.inr hge')]
      have e1 : G'.1 q = none := by
        cases hq : G'.1 q with
        | none => rfl
        | some y => have := hok' q y hq; omega
      have e2 : (yW E G a c u n sl).1 q = none := by
        cases hq : (yW E G a c u n sl).1 q with
        | none => rfl
        | some y => have := hok q y hq; omega
      rw [e1, e2]
set_option maxHeartbeats 4000000 in
set_option maxRecDepth 100000 in
theorem m_Row_init {a n sl : Nat} (ha : G.1 a = some (.inr (7, [.null, .null, .null, .int (0), .int (0)]))) (hn : G.2.1 = n) (hs : G.2.2 = sl) (hlt : a < n) (hc : n + 3 ≤ E.1.heap.size + room_1.cells) (hr : sl + 56 ≤ room_1.slots) : GM E Y_Row_init (d + 1) [.ref a] G (rPost none (fun G' => G'.2.1 = n + 3 ∧ G'.2.2 = sl + 56 ∧ gKeep n a G G' ∧ G'.1 (a) = some (.inr (7, [.ref (n), .ref (n + 1), .ref (n + 2), .int (0), .int (0)])) ∧ G'.1 (n) = some (gAI E 24 (fun _ => 0)) ∧ G'.1 (n + 1) = some (gAT E 24 (fun _ => none)) ∧ G'.1 (n + 2) = some (gAI E 8 (fun _ => 0)))) := by
  refine g_entry (by decide) (by simp [Value.category]) (Nat.le_of_ble_eq_true rfl) ?_
  have z0 : G.2.1 = n := hn
  have s0 : G.2.2 = sl := hs
  have k0 : gKeep n a G G := gKeep.rf
  refine g_aload_n d_Row_init_0 rfl ?_
  refine g_objInit ml_Row_3 w_objI w_objC (Nat.le_of_ble_eq_true rfl) d_Row_init_1 ?_
  refine g_aload_n d_Row_init_4 rfl ?_
  refine g_bipush (v := 24) d_Row_init_5 (by decide +kernel) ?_
  refine g_newI (N := 24) wa_int (by decide +kernel) (by decide +kernel) (by omega) (by omega) d_Row_init_7 ?_
  rw [z0]
  have z1 : (gNew G (gAI E 24 (fun _ => 0)) 24).2.1 = n + 1 := by show G.2.1 + 1 = _; omega
  have s1 : (gNew G (gAI E 24 (fun _ => 0)) 24).2.2 = sl + 24 := by show G.2.2 + 24 = _; omega
  have k1 := k0.new (x := (gAI E 24 (fun _ => 0))) (n := 24) (by omega)
  have ha := gNew_ne (x := (gAI E 24 (fun _ => 0))) (n := 24) ha (by omega)
  have h0 : (gNew G (gAI E 24 (fun _ => 0)) 24).1 (n) = some (gAI E 24 (fun _ => 0)) := by rw [← z0]; exact gNew_at
  generalize gNew G (gAI E 24 (fun _ => 0)) 24 = G1 at z1 s1 k1 ha h0 ⊢
  clear z0 s0 k0
  refine g_putF (fs' := [.ref (n), .null, .null, .int (0), .int (0)]) kc_Row fl_Row_9 (by decide) ha rfl rfl rfl rfl rfl (Nat.le_of_ble_eq_true rfl) rfl d_Row_init_9 ?_
  have z2 : (gUp G1 (a) (.inr (7, [.ref (n), .null, .null, .int (0), .int (0)]))).2.1 = n + 1 := z1
  have s2 : (gUp G1 (a) (.inr (7, [.ref (n), .null, .null, .int (0), .int (0)]))).2.2 = sl + 24 := s1
  have k2 := k1.up (x := (.inr (7, [.ref (n), .null, .null, .int (0), .int (0)]))) (b := a) (Or.inl rfl)
  have h0 := gUp_ne (x := (.inr (7, [.ref (n), .null, .null, .int (0), .int (0)]))) (a := a) h0 (Nat.ne_of_lt (Nat.lt_of_lt_of_le hlt (Nat.le_add_right n 0)))
  have ha := gUp_at (x := (.inr (7, [.ref (n), .null, .null, .int (0), .int (0)]))) ha
  generalize gUp G1 (a) (.inr (7, [.ref (n), .null, .null, .int (0), .int (0)])) = G2 at z2 s2 k2 ha h0 ⊢
  clear z1 s1 k1
  refine g_aload_n d_Row_init_12 rfl ?_
  refine g_bipush (v := 24) d_Row_init_13 (by decide +kernel) ?_
  refine g_newT (N := 24) cl_Row_15 wo_Term (by decide +kernel) (by decide +kernel) (by omega) (by omega) d_Row_init_15 ?_
  rw [z2]
  have z3 : (gNew G2 (gAT E 24 (fun _ => none)) 24).2.1 = n + 2 := by show G2.2.1 + 1 = _; omega
  have s3 : (gNew G2 (gAT E 24 (fun _ => none)) 24).2.2 = sl + 48 := by show G2.2.2 + 24 = _; omega
  have k3 := k2.new (x := (gAT E 24 (fun _ => none))) (n := 24) (by omega)
  have ha := gNew_ne (x := (gAT E 24 (fun _ => none))) (n := 24) ha (by omega)
  have h0 := gNew_ne (x := (gAT E 24 (fun _ => none))) (n := 24) h0 (by omega)
  have h1 : (gNew G2 (gAT E 24 (fun _ => none)) 24).1 (n + 1) = some (gAT E 24 (fun _ => none)) := by rw [← z2]; exact gNew_at
  generalize gNew G2 (gAT E 24 (fun _ => none)) 24 = G3 at z3 s3 k3 ha h0 h1 ⊢
  clear z2 s2 k2
  refine g_putF (fs' := [.ref (n), .ref (n + 1), .null, .int (0), .int (0)]) kc_Row fl_Row_17 (by decide) ha rfl rfl rfl rfl rfl (Nat.le_of_ble_eq_true rfl) rfl d_Row_init_18 ?_
  have z4 : (gUp G3 (a) (.inr (7, [.ref (n), .ref (n + 1), .null, .int (0), .int (0)]))).2.1 = n + 2 := z3
  have s4 : (gUp G3 (a) (.inr (7, [.ref (n), .ref (n + 1), .null, .int (0), .int (0)]))).2.2 = sl + 48 := s3
  have k4 := k3.up (x := (.inr (7, [.ref (n), .ref (n + 1), .null, .int (0), .int (0)]))) (b := a) (Or.inl rfl)
  have h0 := gUp_ne (x := (.inr (7, [.ref (n), .ref (n + 1), .null, .int (0), .int (0)]))) (a := a) h0 (Nat.ne_of_lt (Nat.lt_of_lt_of_le hlt (Nat.le_add_right n 0)))
  have h1 := gUp_ne (x := (.inr (7, [.ref (n), .ref (n + 1), .null, .int (0), .int (0)]))) (a := a) h1 (Nat.ne_of_lt (Nat.lt_of_lt_of_le hlt (Nat.le_add_right n 1)))
  have ha := gUp_at (x := (.inr (7, [.ref (n), .ref (n + 1), .null, .int (0), .int (0)]))) ha
  generalize gUp G3 (a) (.inr (7, [.ref (n), .ref (n + 1), .null, .int (0), .int (0)])) = G4 at z4 s4 k4 ha h0 h1 ⊢
  clear z3 s3 k3
  refine g_aload_n d_Row_init_21 rfl ?_
  refine g_bipush (v := 8) d_Row_init_22 (by decide +kernel) ?_
  refine g_newI (N := 8) wa_int (by decide +kernel) (by decide +kernel) (by omega) (by omega) d_Row_init_24 ?_
  rw [z4]
  have z5 : (gNew G4 (gAI E 8 (fun _ => 0)) 8).2.1 = n + 3 := by show G4.2.1 + 1 = _; omega
  have s5 : (gNew G4 (gAI E 8 (fun _ => 0)) 8).2.2 = sl + 56 := by show G4.2.2 + 8 = _; omega
  have k5 := k4.new (x := (gAI E 8 (fun _ => 0))) (n := 8) (by omega)
  have ha := gNew_ne (x := (gAI E 8 (fun _ => 0))) (n := 8) ha (by omega)
  have h0 := gNew_ne (x := (gAI E 8 (fun _ => 0))) (n := 8) h0 (by omega)
  have h1 := gNew_ne (x := (gAI E 8 (fun _ => 0))) (n := 8) h1 (by omega)
  have h2 : (gNew G4 (gAI E 8 (fun _ => 0)) 8).1 (n + 2) = some (gAI E 8 (fun _ => 0)) := by rw [← z4]; exact gNew_at
  generalize gNew G4 (gAI E 8 (fun _ => 0)) 8 = G5 at z5 s5 k5 ha h0 h1 h2 ⊢
  clear z4 s4 k4
  refine g_putF (fs' := [.ref (n), .ref (n + 1), .ref (n + 2), .int (0), .int (0)]) kc_Row fl_Row_21 (by decide) ha rfl rfl rfl rfl rfl (Nat.le_of_ble_eq_true rfl) rfl d_Row_init_26 ?_
  have z6 : (gUp G5 (a) (.inr (7, [.ref (n), .ref (n + 1), .ref (n + 2), .int (0), .int (0)]))).2.1 = n + 3 := z5
  have s6 : (gUp G5 (a) (.inr (7, [.ref (n), .ref (n + 1), .ref (n + 2), .int (0), .int (0)]))).2.2 = sl + 56 := s5
  have k6 := k5.up (x := (.inr (7, [.ref (n), .ref (n + 1), .ref (n + 2), .int (0), .int (0)]))) (b := a) (Or.inl rfl)
  have h0 := gUp_ne (x := (.inr (7, [.ref (n), .ref (n + 1), .ref (n + 2), .int (0), .int (0)]))) (a := a) h0 (Nat.ne_of_lt (Nat.lt_of_lt_of_le hlt (Nat.le_add_right n 0)))
  have h1 := gUp_ne (x := (.inr (7, [.ref (n), .ref (n + 1), .ref (n + 2), .int (0), .int (0)]))) (a := a) h1 (Nat.ne_of_lt (Nat.lt_of_lt_of_le hlt (Nat.le_add_right n 1)))
  have h2 := gUp_ne (x := (.inr (7, [.ref (n), .ref (n + 1), .ref (n + 2), .int (0), .int (0)]))) (a := a) h2 (Nat.ne_of_lt (Nat.lt_of_lt_of_le hlt (Nat.le_add_right n 2)))
  have ha := gUp_at (x := (.inr (7, [.ref (n), .ref (n + 1), .ref (n + 2), .int (0), .int (0)]))) ha
  generalize gUp G5 (a) (.inr (7, [.ref (n), .ref (n + 1), .ref (n + 2), .int (0), .int (0)])) = G6 at z6 s6 k6 ha h0 h1 h2 ⊢
  clear z5 s5 k5
  refine g_vret rfl d_Row_init_29 ?_
  exact ⟨rfl, z6, s6, k6, ha, h0, h1, h2⟩
/-- a new row, at n -/
def uRow (u : uS) (n : Nat) : uS := uN (uN (uN (uN u n 1 0 (fun _ => 0) (fun _ => none)) (n + 1) 2 0 (fun _ => 0) (fun _ => none)) (n + 2) 3 0 (fun _ => 0) (fun _ => none)) (n + 3) 4 0 (fun _ => 0) (fun _ => none)
theorem uRow_o {q : Nat} (h : q < n ∨ n + 4 ≤ q) : (uRow u n).1 q = u.1 q ∧ (uRow u n).2.1 q = u.2.1 q ∧ (uRow u n).2.2.1 q = u.2.2.1 q ∧ (uRow u n).2.2.2 q = u.2.2.2 q := by
  refine ⟨?_, ?_, ?_, ?_⟩
  · show upN (upN (upN (upN u.1 n 1) (n + 1) 2) (n + 2) 3) (n + 3) 4 q = _
    rw [upN_ne (by omega), upN_ne (by omega), upN_ne (by omega), upN_ne (by omega)]
  · show upN (upN (upN (upN u.2.1 n 0) (n + 1) 0) (n + 2) 0) (n + 3) 0 q = _
    rw [upN_ne (by omega), upN_ne (by omega), upN_ne (by omega), upN_ne (by omega)]
  · show upA (upA (upA (upA u.2.2.1 n _) (n + 1) _) (n + 2) _) (n + 3) _ q = _
    rw [upA_ne (by omega), upA_ne (by omega), upA_ne (by omega), upA_ne (by omega)]
  · show upT (upT (upT (upT u.2.2.2 n _) (n + 1) _) (n + 2) _) (n + 3) _ q = _
    rw [upT_ne (by omega), upT_ne (by omega), upT_ne (by omega), upT_ne (by omega)]
theorem uRow_k {j : Nat} (h : j < 4) : (uRow u n).1 (n + j) = j + 1 ∧ (uRow u n).2.2.1 (n + j) = (fun _ => 0) ∧ (uRow u n).2.2.2 (n + j) = fun _ => none := by
  have k1 : ∀ q, (uRow u n).1 q = upN (upN (upN (upN u.1 n 1) (n + 1) 2) (n + 2) 3) (n + 3) 4 q := fun _ => rfl
  have k2 : ∀ q, (uRow u n).2.2.1 q = upA (upA (upA (upA u.2.2.1 n (fun _ => 0)) (n + 1) (fun _ => 0)) (n + 2) (fun _ => 0)) (n + 3) (fun _ => 0) q := fun _ => rfl
  have k3 : ∀ q, (uRow u n).2.2.2 q = upT (upT (upT (upT u.2.2.2 n (fun _ => none)) (n + 1) (fun _ => none)) (n + 2) (fun _ => none)) (n + 3) (fun _ => none) q := fun _ => rfl
  rw [k1, k2, k3]
  rcases (show j = 0 ∨ j = 1 ∨ j = 2 ∨ j = 3 by omega) with rfl | rfl | rfl | rfl
  · simp only [Nat.add_zero]
    rw [upN_ne (by omega), upN_ne (by omega), upN_ne (by omega), upN_at, upA_ne (by omega), upA_ne (by omega), upA_ne (by omega), upA_at, upT_ne (by omega), upT_ne (by omega), upT_ne (by omega), upT_at]
    exact ⟨rfl, rfl, rfl⟩
  · rw [upN_ne (by omega), upN_ne (by omega), upN_at, upA_ne (by omega), upA_ne (by omega), upA_at, upT_ne (by omega), upT_ne (by omega), upT_at]
    exact ⟨rfl, rfl, rfl⟩
  · rw [upN_ne (by omega), upN_at, upA_ne (by omega), upA_at, upT_ne (by omega), upT_at]
    exact ⟨rfl, rfl, rfl⟩
  · rw [upN_at, upA_at, upT_at]
    exact ⟨rfl, rfl, rfl⟩
theorem row_new (ha : a + 24 ≤ n) : rowW (uRow u n) a n := ⟨⟨(uRow_k (j := 0) (by decide)).1, ha⟩, ⟨(uRow_k (j := 1) (by decide)).1, by omega⟩, ⟨(uRow_k (j := 2) (by decide)).1, by omega⟩, ⟨(uRow_k (j := 3) (by decide)).1, by omega⟩⟩
/-- of the objects only rows and their list's array have changed -/
def rFr (u u' : uS) (n : Nat) : Prop := (∀ q, q < n → u'.1 q = u.1 q) ∧ ∀ q, q < n → 5 ≤ u.1 q → u.1 q ≠ 9 → u'.2.1 q = u.2.1 q ∧ u'.2.2.1 q = u.2.2.1 q ∧ u'.2.2.2 q = u.2.2.2 q
theorem rFr_rf : rFr u u n := ⟨fun _ _ => rfl, fun _ _ _ _ => ⟨rfl, rfl, rfl⟩⟩
theorem rFr_tr {u2 : uS} (h : rFr u u' n) (h' : rFr u' u2 n') (hn : n ≤ n') : rFr u u2 n :=
  ⟨fun q hq => (h'.1 q (by omega)).trans (h.1 q hq), fun q hq h5 h9 => by
    obtain ⟨a1, a2, a3⟩ := h.2 q hq h5 h9
    obtain ⟨b1, b2, b3⟩ := h'.2 q (by omega) (by rw [h.1 q hq]; exact h5) (by rw [h.1 q hq]; exact h9)
    exact ⟨b1.trans a1, b2.trans a2, b3.trans a3⟩⟩
/-- of the class only the rows' number and list have changed -/
def rFc (c c' : cS) : Prop := (∀ j, j ≠ 13 → j ≠ 14 → j ≠ 15 → c'.1 j = c.1 j) ∧ c'.2.1 = c.2.1 ∧ c'.2.2.1 = c.2.2.1 ∧ ∀ j, j ≠ 0 → c'.2.2.2 j = c.2.2.2 j
theorem rFc_rf : rFc c c := ⟨fun _ _ _ _ => rfl, rfl, rfl, fun _ _ => rfl⟩
theorem rFc_tr {c2 : cS} (h : rFc c c') (h' : rFc c' c2) : rFc c c2 := ⟨fun j a b d => (h'.1 j a b d).trans (h.1 j a b d), h'.2.1.trans h.2.1, h'.2.2.1.trans h.2.2.1, fun j hj => (h'.2.2.2 j hj).trans (h.2.2.2 j hj)⟩
/-- the rows: ks are in use, sp are spare ones; the room is bounded -/
def rwOk (E : gE) (a Nb Sb : Nat) (c : cS) (u : uS) (n sl : Nat) (ks sp : List Nat) : Prop :=
  gDef E < a ∧ a + 24 ≤ n ∧ uOk u a n ∧ lOk E c u a n 15 0 1 1000 (ks ++ sp) ∧ (ks ++ sp).Nodup ∧ (∀ b ∈ ks ++ sp, rowW u a b ∧ b + 4 ≤ n) ∧ c.1 13 = nI ks.length ∧ n ≤ Nb + lCap E c u 0 + 4 * (ks ++ sp).length ∧ sl ≤ Sb + 4 * lCap E c u 0 + 61 * (ks ++ sp).length ∧ Nb + 7000 ≤ E.1.heap.size + room_1.cells ∧ Sb + 120000 ≤ room_1.slots
theorem lCap_le {is D kb B : Nat} {bs : List Nat} (h : lOk E c u a n is D kb B bs) : lCap E c u D ≤ 10 + 2 * B := by
  unfold lCap
  rcases h.2.1 with ⟨-, e⟩ | ⟨g1, g2, g3, g4, g5, -⟩
  · rw [if_pos e]
    omega
  · split <;> omega
theorem rw_len {ks sp : List Nat} (h : rwOk E a Nb Sb c u n sl ks sp) : ks.length + sp.length ≤ 1000 := by
  have := h.2.2.2.1.2.2.1
  rw [List.length_append] at this
  exact this
theorem row_apart {b b2 : Nat} (h : rowW u a b) (h2 : rowW u a b2) (hne : b ≠ b2) : b2 + 4 ≤ b ∨ b + 4 ≤ b2 := by
  have e : ∀ j, j < 4 → 0 < j → b2 ≠ b + j ∧ b ≠ b2 + j := fun j hj h0 => by
    have k1 : zIs u a (b + j) (j + 1) := by
      rcases (show j = 1 ∨ j = 2 ∨ j = 3 by omega) with rfl | rfl | rfl
      · exact h.2.1
      · exact h.2.2.1
      · exact h.2.2.2
    have k2 : zIs u a (b2 + j) (j + 1) := by
      rcases (show j = 1 ∨ j = 2 ∨ j = 3 by omega) with rfl | rfl | rfl
      · exact h2.2.1
      · exact h2.2.2.1
      · exact h2.2.2.2
    refine ⟨fun z => ?_, fun z => ?_⟩
    · have := h2.1.1
      rw [z, k1.1] at this
      omega
    · have := h.1.1
      rw [z, k2.1] at this
      omega
  have e1 := e 1 (by omega) (by omega)
  have e2 := e 2 (by omega) (by omega)
  have e3 := e 3 (by omega) (by omega)
  omega
set_option maxHeartbeats 400000 in
set_option maxRecDepth 100000 in
theorem m_S_size : GM E Y_Rows_size d [.ref (a + 13)] (yW E G a c u n sl) (rIs (some (.int (c.1 13))) (yW E G a c u n sl)) := by
  refine g_entry (by decide) (by simp [Value.category]) (Nat.le_of_ble_eq_true rfl) ?_
  refine g_aload_n d_Rows_size_0 rfl ?_
  refine x_get (k := 13) (j := 1) (v := .int (c.1 13)) kc_Rows fl_Rows_18 (by decide) (by decide) rfl rfl d_Rows_size_1 ?_
  refine g_iret rfl d_Rows_size_4 ?_
  exact ⟨rfl, rfl⟩
set_option maxHeartbeats 400000 in
set_option maxRecDepth 100000 in
theorem m_S_cutTo (m : Int32) : GM E Y_Rows_cutTo (d + 1) [.ref (a + 13), .int m] (yW E G a c u n sl) (rIs none (yW E G a (cF c 13 (if m < c.1 13 then m else c.1 13)) u n sl)) := by
  refine g_entry (by decide) (by simp [Value.category]) (Nat.le_of_ble_eq_true rfl) ?_
  refine g_aload_n d_Rows_cutTo_0 rfl ?_
  refine g_aload_n d_Rows_cutTo_1 rfl ?_
  refine x_get (k := 13) (j := 1) (v := .int (c.1 13)) kc_Rows fl_Rows_18 (by decide) (by decide) rfl rfl d_Rows_cutTo_2 ?_
  refine g_iload_n d_Rows_cutTo_5 rfl ?_
  refine c_Sr (as := [.int (c.1 13), .int (m)]) ks_Math_min ml_Rows_22 (m_Math_min (c.1 13) m) rfl (Nat.le_of_ble_eq_true rfl) rfl d_Rows_cutTo_6 rfl ?_
  refine x_put (c' := (cF c 13 (if m < c.1 13 then m else c.1 13))) (k := 13) (j := 1) kc_Rows fl_Rows_18 (by decide) (by decide) rfl rfl rfl rfl (Nat.le_of_ble_eq_true rfl) rfl rfl xf_F13 d_Rows_cutTo_9 ?_
  refine g_vret rfl d_Rows_cutTo_12 ?_
  exact ⟨rfl, rfl⟩
set_option maxHeartbeats 400000 in
set_option maxRecDepth 100000 in
theorem m_S_rowAt {i b : Nat} {bs : List Nat} (hlo : lOk E c u a n 15 0 1 1000 bs) (hi : bs[i]? = some b) : GM E Y_Rows_rowAt (d + 3) [.ref (a + 13), .int (nI i)] (yW E G a c u n sl) (rIs (some (.ref b)) (yW E G a c u n sl)) := by
  refine g_entry (by decide) (by simp [Value.category]) (Nat.le_of_ble_eq_true rfl) ?_
  refine g_aload_n d_Rows_rowAt_0 rfl ?_
  refine x_get (k := 13) (j := 0) (v := .ref (a + 14)) kc_Rows fl_Rows_12 (by decide) (by decide) rfl rfl d_Rows_rowAt_1 ?_
  refine g_iload_n d_Rows_rowAt_4 rfl ?_
  refine c_Vr (as := [.int (nI i)]) kv_ArrayList_get ml_Rows_28 rfl (x_at (k := 14) (by decide) rfl) (m_K_get lk_rows hlo (by omega) hi) rfl (Nat.le_of_ble_eq_true rfl) rfl d_Rows_rowAt_5 rfl ?_
  refine z_cast (kb := 1) cl_Rows_32 rfl (hlo.2.2.2 b (List.mem_of_getElem? hi)).1 (by decide) d_Rows_rowAt_8 ?_
  refine g_aret rfl (by first | exact Or.inl ⟨_, rfl⟩ | exact Or.inr ⟨_, rfl⟩) (by first | exact Or.inl rfl | exact Or.inr ⟨_, rfl⟩) d_Rows_rowAt_11 ?_
  exact ⟨rfl, rfl⟩
set_option maxHeartbeats 400000 in
set_option maxRecDepth 100000 in
theorem m_S_insNull {fr at_ K : Nat} (hK : c.1 13 = nI K) (hb : K ≤ 1000) (h : fr + 80 ≤ K) : GM E Y_Rows_insert d [.ref (a + 13), .int (nI fr), .int (nI at_)] (yW E G a c u n sl) (rIs (some .null) (yW E G a c u n sl)) := by
  refine g_entry (by decide) (by simp [Value.category]) (Nat.le_of_ble_eq_true rfl) ?_
  refine g_aload_n d_Rows_insert_0 rfl ?_
  refine x_get (k := 13) (j := 1) (v := .int (c.1 13)) kc_Rows fl_Rows_18 (by decide) (by decide) rfl rfl d_Rows_insert_1 ?_
  rw [hK]
  refine g_iload_n d_Rows_insert_4 rfl ?_
  refine g_isub d_Rows_insert_5 ?_
  refine g_bipush (v := 80) d_Rows_insert_6 (by decide) ?_
  refine g_icmp_lt (tgt := 13) d_Rows_insert_8 (by decide) (fun c_8 => ?_) (fun c_8 => ?_)
  · exact absurd c_8 (fun q => by have := (lt_hi (sub_hi (nI_hi (by omega)) (nI_hi (by omega)) (by omega)) (show (80 : Int32).toInt = ((80 : Nat) : Int) by decide)).mp q; omega)
  refine g_null d_Rows_insert_11 ?_
  refine g_aret rfl (by first | exact Or.inl ⟨_, rfl⟩ | exact Or.inr ⟨_, rfl⟩) (by first | exact Or.inl rfl | exact Or.inr ⟨_, rfl⟩) d_Rows_insert_12 ?_
  exact ⟨rfl, rfl⟩
end BS
