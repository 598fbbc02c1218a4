/-! Names of a term; cases; two patterns alike -/
theorem d_Integer_bitCount_0 : decode Y_Integer_bitCount.2.1 0 = .ok (.iload_n 0, 1) := by decide +kernel
theorem d_Integer_bitCount_1 : decode Y_Integer_bitCount.2.1 1 = .ok (.iload_n 0, 1) := by decide +kernel
theorem d_Integer_bitCount_2 : decode Y_Integer_bitCount.2.1 2 = .ok (.iconst 1, 1) := by decide +kernel
theorem d_Integer_bitCount_3 : decode Y_Integer_bitCount.2.1 3 = .ok (.iushr, 1) := by decide +kernel
theorem d_Integer_bitCount_4 : decode Y_Integer_bitCount.2.1 4 = .ok (.ldc_w 265, 3) := by decide +kernel
theorem d_Integer_bitCount_7 : decode Y_Integer_bitCount.2.1 7 = .ok (.iand, 1) := by decide +kernel
theorem d_Integer_bitCount_8 : decode Y_Integer_bitCount.2.1 8 = .ok (.isub, 1) := by decide +kernel
theorem d_Integer_bitCount_9 : decode Y_Integer_bitCount.2.1 9 = .ok (.istore_n 0, 1) := by decide +kernel
theorem d_Integer_bitCount_10 : decode Y_Integer_bitCount.2.1 10 = .ok (.iload_n 0, 1) := by decide +kernel
theorem d_Integer_bitCount_11 : decode Y_Integer_bitCount.2.1 11 = .ok (.ldc_w 266, 3) := by decide +kernel
theorem d_Integer_bitCount_14 : decode Y_Integer_bitCount.2.1 14 = .ok (.iand, 1) := by decide +kernel
theorem d_Integer_bitCount_15 : decode Y_Integer_bitCount.2.1 15 = .ok (.iload_n 0, 1) := by decide +kernel
theorem d_Integer_bitCount_16 : decode Y_Integer_bitCount.2.1 16 = .ok (.iconst 2, 1) := by decide +kernel
theorem d_Integer_bitCount_17 : decode Y_Integer_bitCount.2.1 17 = .ok (.iushr, 1) := by decide +kernel
theorem d_Integer_bitCount_18 : decode Y_Integer_bitCount.2.1 18 = .ok (.ldc_w 266, 3) := by decide +kernel
theorem d_Integer_bitCount_21 : decode Y_Integer_bitCount.2.1 21 = .ok (.iand, 1) := by decide +kernel
theorem d_Integer_bitCount_22 : decode Y_Integer_bitCount.2.1 22 = .ok (.iadd, 1) := by decide +kernel
theorem d_Integer_bitCount_23 : decode Y_Integer_bitCount.2.1 23 = .ok (.istore_n 0, 1) := by decide +kernel
theorem d_Integer_bitCount_24 : decode Y_Integer_bitCount.2.1 24 = .ok (.iload_n 0, 1) := by decide +kernel
theorem d_Integer_bitCount_25 : decode Y_Integer_bitCount.2.1 25 = .ok (.iload_n 0, 1) := by decide +kernel
theorem d_Integer_bitCount_26 : decode Y_Integer_bitCount.2.1 26 = .ok (.iconst 4, 1) := by decide +kernel
theorem d_Integer_bitCount_27 : decode Y_Integer_bitCount.2.1 27 = .ok (.iushr, 1) := by decide +kernel
theorem d_Integer_bitCount_28 : decode Y_Integer_bitCount.2.1 28 = .ok (.iadd, 1) := by decide +kernel
theorem d_Integer_bitCount_29 : decode Y_Integer_bitCount.2.1 29 = .ok (.ldc_w 267, 3) := by decide +kernel
theorem d_Integer_bitCount_32 : decode Y_Integer_bitCount.2.1 32 = .ok (.iand, 1) := by decide +kernel
theorem d_Integer_bitCount_33 : decode Y_Integer_bitCount.2.1 33 = .ok (.istore_n 0, 1) := by decide +kernel
theorem d_Integer_bitCount_34 : decode Y_Integer_bitCount.2.1 34 = .ok (.iload_n 0, 1) := by decide +kernel
theorem d_Integer_bitCount_35 : decode Y_Integer_bitCount.2.1 35 = .ok (.iload_n 0, 1) := by decide +kernel
theorem d_Integer_bitCount_36 : decode Y_Integer_bitCount.2.1 36 = .ok (.bipush 8, 2) := by decide +kernel
theorem d_Integer_bitCount_38 : decode Y_Integer_bitCount.2.1 38 = .ok (.iushr, 1) := by decide +kernel
theorem d_Integer_bitCount_39 : decode Y_Integer_bitCount.2.1 39 = .ok (.iadd, 1) := by decide +kernel
theorem d_Integer_bitCount_40 : decode Y_Integer_bitCount.2.1 40 = .ok (.istore_n 0, 1) := by decide +kernel
theorem d_Integer_bitCount_41 : decode Y_Integer_bitCount.2.1 41 = .ok (.iload_n 0, 1) := by decide +kernel
theorem d_Integer_bitCount_42 : decode Y_Integer_bitCount.2.1 42 = .ok (.iload_n 0, 1) := by decide +kernel
theorem d_Integer_bitCount_43 : decode Y_Integer_bitCount.2.1 43 = .ok (.bipush 16, 2) := by decide +kernel
theorem d_Integer_bitCount_45 : decode Y_Integer_bitCount.2.1 45 = .ok (.iushr, 1) := by decide +kernel
theorem d_Integer_bitCount_46 : decode Y_Integer_bitCount.2.1 46 = .ok (.iadd, 1) := by decide +kernel
theorem d_Integer_bitCount_47 : decode Y_Integer_bitCount.2.1 47 = .ok (.istore_n 0, 1) := by decide +kernel
theorem d_Integer_bitCount_48 : decode Y_Integer_bitCount.2.1 48 = .ok (.iload_n 0, 1) := by decide +kernel
theorem d_Integer_bitCount_49 : decode Y_Integer_bitCount.2.1 49 = .ok (.bipush 63, 2) := by decide +kernel
theorem d_Integer_bitCount_51 : decode Y_Integer_bitCount.2.1 51 = .ok (.iand, 1) := by decide +kernel
theorem d_Integer_bitCount_52 : decode Y_Integer_bitCount.2.1 52 = .ok (.ireturn, 1) := by decide +kernel
theorem d_Cases_add_0 : decode Y_Cases_add.2.1 0 = .ok (.aload_n 0, 1) := by decide +kernel
theorem d_Cases_add_1 : decode Y_Cases_add.2.1 1 = .ok (.getfield 11, 3) := by decide +kernel
theorem d_Cases_add_4 : decode Y_Cases_add.2.1 4 = .ok (.aload_n 0, 1) := by decide +kernel
theorem d_Cases_add_5 : decode Y_Cases_add.2.1 5 = .ok (.getfield 21, 3) := by decide +kernel
theorem d_Cases_add_8 : decode Y_Cases_add.2.1 8 = .ok (.aload_n 1, 1) := by decide +kernel
theorem d_Cases_add_9 : decode Y_Cases_add.2.1 9 = .ok (.aastore, 1) := by decide +kernel
theorem d_Cases_add_10 : decode Y_Cases_add.2.1 10 = .ok (.aload_n 0, 1) := by decide +kernel
theorem d_Cases_add_11 : decode Y_Cases_add.2.1 11 = .ok (.getfield 17, 3) := by decide +kernel
theorem d_Cases_add_14 : decode Y_Cases_add.2.1 14 = .ok (.aload_n 0, 1) := by decide +kernel
theorem d_Cases_add_15 : decode Y_Cases_add.2.1 15 = .ok (.getfield 21, 3) := by decide +kernel
theorem d_Cases_add_18 : decode Y_Cases_add.2.1 18 = .ok (.iload_n 2, 1) := by decide +kernel
theorem d_Cases_add_19 : decode Y_Cases_add.2.1 19 = .ok (.bastore, 1) := by decide +kernel
theorem d_Cases_add_20 : decode Y_Cases_add.2.1 20 = .ok (.aload_n 0, 1) := by decide +kernel
theorem d_Cases_add_21 : decode Y_Cases_add.2.1 21 = .ok (.dup, 1) := by decide +kernel
theorem d_Cases_add_22 : decode Y_Cases_add.2.1 22 = .ok (.getfield 21, 3) := by decide +kernel
theorem d_Cases_add_25 : decode Y_Cases_add.2.1 25 = .ok (.iconst 1, 1) := by decide +kernel
theorem d_Cases_add_26 : decode Y_Cases_add.2.1 26 = .ok (.iadd, 1) := by decide +kernel
theorem d_Cases_add_27 : decode Y_Cases_add.2.1 27 = .ok (.putfield 21, 3) := by decide +kernel
theorem d_Cases_add_30 : decode Y_Cases_add.2.1 30 = .ok (.aload_n 0, 1) := by decide +kernel
theorem d_Cases_add_31 : decode Y_Cases_add.2.1 31 = .ok (.getfield 21, 3) := by decide +kernel
theorem d_Cases_add_34 : decode Y_Cases_add.2.1 34 = .ok (.iconst 1, 1) := by decide +kernel
theorem d_Cases_add_35 : decode Y_Cases_add.2.1 35 = .ok (.isub, 1) := by decide +kernel
theorem d_Cases_add_36 : decode Y_Cases_add.2.1 36 = .ok (.ireturn, 1) := by decide +kernel
section CZ
variable {E : gE} {d : Nat} {G G0 G1 : gS} {a : Nat} {c c' c0 c1 : cS} {u u' u2 u0 : uS} {n n' n2 n1 sl sl' sl2 : Nat} {Q : gO → gS → Prop} {tp l : List Nat} {Y : gY} {pc : Nat} {lv : List (Nat × Value)} {rest : List Value}
theorem g_ldcw {index : Nat} {v : Int32} (hw : Cond.constant Y.1.cls index v ∈ lw_tbl) (hdg : decode Y.2.1 pc = .ok (.ldc_w index, 3)) (kk : GT E Y d G0 (pc + 3) lv (.int v :: rest) G Q) : GT E Y d G0 pc lv rest G Q :=
  fun p l e s m args below meth c X H locs ls hM hL h1 h2 hl => lv_ldcw X.1 X.2.1 X.2.2.2.1 (X.2.2.2.2.1.word hw rfl args) hdg (kk p l e s m args below meth c X H locs ls hM hL h1 h2 hl)
def ush (x y : Int32) : Int32 := (x.toUInt32 >>> (y.toUInt32 &&& Int32.toUInt32 31)).toInt32
def bcF (x : Int32) : Int32 :=
  let x1 := x - (ush x 1 &&& 1431655765)
  let x2 := (x1 &&& 858993459) + (ush x1 2 &&& 858993459)
  let x3 := (x2 + ush x2 4) &&& 252645135
  let x4 := x3 + ush x3 8
  (x4 + ush x4 16) &&& 63
set_option maxRecDepth 100000 in
theorem bc_all : ∀ k : Fin 256, bcF (nI k) = rBt (nI k) 8 := by decide +kernel
theorem m_bitCount (x : Int32) : GM E Y_Integer_bitCount d [.int x] G (rIs (some (.int (bcF x))) G) := by
  refine g_entry (by decide) (by simp [Value.category]) (Nat.le_of_ble_eq_true rfl) ?_
  refine g_iload_n d_Integer_bitCount_0 rfl ?_
  refine g_iload_n d_Integer_bitCount_1 rfl ?_
  refine g_iconst (v := 1) d_Integer_bitCount_2 (by decide) ?_
  refine g_iushr (v := ush _ _) d_Integer_bitCount_3 rfl ?_
  refine g_ldcw cn_Integer_265 d_Integer_bitCount_4 ?_
  refine g_iand d_Integer_bitCount_7 ?_
  refine g_isub d_Integer_bitCount_8 ?_
  refine g_istore_n d_Integer_bitCount_9 (by decide) rfl ?_
  refine g_iload_n d_Integer_bitCount_10 rfl ?_
  refine g_ldcw cn_Integer_266 d_Integer_bitCount_11 ?_
  refine g_iand d_Integer_bitCount_14 ?_
  refine g_iload_n d_Integer_bitCount_15 rfl ?_
  refine g_iconst (v := 2) d_Integer_bitCount_16 (by decide) ?_
  refine g_iushr (v := ush _ _) d_Integer_bitCount_17 rfl ?_
  refine g_ldcw cn_Integer_266 d_Integer_bitCount_18 ?_
  refine g_iand d_Integer_bitCount_21 ?_
  refine g_iadd d_Integer_bitCount_22 ?_
  refine g_istore_n d_Integer_bitCount_23 (by decide) rfl ?_
  refine g_iload_n d_Integer_bitCount_24 rfl ?_
  refine g_iload_n d_Integer_bitCount_25 rfl ?_
  refine g_iconst (v := 4) d_Integer_bitCount_26 (by decide) ?_
  refine g_iushr (v := ush _ _) d_Integer_bitCount_27 rfl ?_
  refine g_iadd d_Integer_bitCount_28 ?_
  refine g_ldcw cn_Integer_267 d_Integer_bitCount_29 ?_
  refine g_iand d_Integer_bitCount_32 ?_
  refine g_istore_n d_Integer_bitCount_33 (by decide) rfl ?_
  refine g_iload_n d_Integer_bitCount_34 rfl ?_
  refine g_iload_n d_Integer_bitCount_35 rfl ?_
  refine g_bipush (v := 8) d_Integer_bitCount_36 (by decide) ?_
  refine g_iushr (v := ush _ _) d_Integer_bitCount_38 rfl ?_
  refine g_iadd d_Integer_bitCount_39 ?_
  refine g_istore_n d_Integer_bitCount_40 (by decide) rfl ?_
  refine g_iload_n d_Integer_bitCount_41 rfl ?_
  refine g_iload_n d_Integer_bitCount_42 rfl ?_
  refine g_bipush (v := 16) d_Integer_bitCount_43 (by decide) ?_
  refine g_iushr (v := ush _ _) d_Integer_bitCount_45 rfl ?_
  refine g_iadd d_Integer_bitCount_46 ?_
  refine g_istore_n d_Integer_bitCount_47 (by decide) rfl ?_
  refine g_iload_n d_Integer_bitCount_48 rfl ?_
  refine g_bipush (v := 63) d_Integer_bitCount_49 (by decide) ?_
  refine g_iand d_Integer_bitCount_51 ?_
  refine g_iret rfl d_Integer_bitCount_52 ?_
  exact ⟨rfl, rfl⟩
set_option maxHeartbeats 400000 in
set_option maxRecDepth 100000 in
theorem m_Tm_has {t : Nat} {x : Int32} (ht : zIs u a t 7) : GM E Y_Term_hasName d [.ref t, .int x] (yW E G a c u n sl) (rIs (some (.int (if (u.2.2.1 t 6 >>> (x &&& 31)) &&& 1 = 1 then 1 else 0))) (yW E G a c u n sl)) := by
  refine g_entry (by decide) (by simp [Value.category]) (Nat.le_of_ble_eq_true rfl) ?_
  by_cases hb : (u.2.2.1 t 6 >>> (x &&& 31)) &&& 1 = 1
  · rw [if_pos hb]
    refine g_aload_n d_Term_hasName_0 rfl ?_
    refine z_get (k := 7) (j := 6) (v := .int (u.2.2.1 t 6)) kc_Term fl_Term_28 (by decide) ht (by decide) rfl rfl d_Term_hasName_1 ?_
    refine g_iload_n d_Term_hasName_4 rfl ?_
    refine g_ishr d_Term_hasName_5 ?_
    refine g_iconst (v := 1) d_Term_hasName_6 (by decide) ?_
    refine g_iand d_Term_hasName_7 ?_
    refine g_iconst (v := 1) d_Term_hasName_8 (by decide) ?_
    refine g_icmp_ne (tgt := 16) d_Term_hasName_9 (by decide) (fun c_9 => ?_) (fun c_9 => ?_)
    · exact absurd c_9 (fun q => q hb)
    refine g_iconst (v := 1) d_Term_hasName_12 (by decide) ?_
    refine g_goto (tgt := 17) d_Term_hasName_13 (by decide) ?_
    refine g_zret rfl rfl d_Term_hasName_17 ?_
    exact ⟨rfl, rfl⟩
  · rw [if_neg hb]
    refine g_aload_n d_Term_hasName_0 rfl ?_
    refine z_get (k := 7) (j := 6) (v := .int (u.2.2.1 t 6)) kc_Term fl_Term_28 (by decide) ht (by decide) rfl rfl d_Term_hasName_1 ?_
    refine g_iload_n d_Term_hasName_4 rfl ?_
    refine g_ishr d_Term_hasName_5 ?_
    refine g_iconst (v := 1) d_Term_hasName_6 (by decide) ?_
    refine g_iand d_Term_hasName_7 ?_
    refine g_iconst (v := 1) d_Term_hasName_8 (by decide) ?_
    refine g_icmp_ne (tgt := 16) d_Term_hasName_9 (by decide) (fun c_9 => ?_) (fun c_9 => ?_)
    rotate_left
    · exact absurd c_9 (fun q => hb q)
    refine g_iconst (v := 0) d_Term_hasName_16 (by decide) ?_
    refine g_zret rfl rfl d_Term_hasName_17 ?_
    exact ⟨rfl, rfl⟩
set_option maxHeartbeats 400000 in
set_option maxRecDepth 100000 in
theorem m_Tm_add {t : Nat} {x : Int32} (ht : zIs u a t 7) : GM E Y_Term_addName (d + 1) [.ref t, .int x] (yW E G a c u n sl) (rIs (some (.int (bcF (u.2.2.1 t 6 ||| 1 <<< (x &&& 31))))) (yW E G a c (uI (uI u t 5 (u.2.2.1 t 5 ||| 1 <<< (x &&& 31))) t 6 (u.2.2.1 t 6 ||| 1 <<< (x &&& 31))) n sl)) := by
  refine g_entry (by decide) (by simp [Value.category]) (Nat.le_of_ble_eq_true rfl) ?_
  refine g_aload_n d_Term_addName_0 rfl ?_
  refine g_dup d_Term_addName_1 rfl ?_
  refine z_get (k := 7) (j := 5) (v := .int (u.2.2.1 t 5)) kc_Term fl_Term_31 (by decide) ht (by decide) rfl rfl d_Term_addName_2 ?_
  refine g_iconst (v := 1) d_Term_addName_5 (by decide) ?_
  refine g_iload_n d_Term_addName_6 rfl ?_
  refine g_ishl d_Term_addName_7 ?_
  refine g_ior d_Term_addName_8 ?_
  refine z_put (k := 7) (j := 5) (x := (u.2.2.1 t 5) ||| ((1) <<< ((x) &&& 31))) kc_Term fl_Term_31 (by decide) ht (by decide) (fun _ => rfl) rfl rfl rfl (Nat.le_of_ble_eq_true rfl) rfl d_Term_addName_9 ?_
  refine g_aload_n d_Term_addName_12 rfl ?_
  refine g_dup d_Term_addName_13 rfl ?_
  refine z_get (k := 7) (j := 6) (v := .int ((uI u t 5 ((u.2.2.1 t 5) ||| ((1) <<< ((x) &&& 31)))).2.2.1 t 6)) kc_Term fl_Term_28 (by decide) ht (by decide) rfl rfl d_Term_addName_14 ?_
  rw [show (uI u t 5 ((u.2.2.1 t 5) ||| ((1) <<< ((x) &&& 31)))).2.2.1 t 6 = u.2.2.1 t 6 from by rw [uI_j]; rfl]
  refine g_iconst (v := 1) d_Term_addName_17 (by decide) ?_
  refine g_iload_n d_Term_addName_18 rfl ?_
  refine g_ishl d_Term_addName_19 ?_
  refine g_ior d_Term_addName_20 ?_
  refine z_put (k := 7) (j := 6) (x := (u.2.2.1 t 6) ||| ((1) <<< ((x) &&& 31))) kc_Term fl_Term_28 (by decide) ht (by decide) (fun _ => rfl) rfl rfl rfl (Nat.le_of_ble_eq_true rfl) rfl d_Term_addName_21 ?_
  refine g_aload_n d_Term_addName_24 rfl ?_
  refine z_get (k := 7) (j := 6) (v := .int ((uI (uI u t 5 ((u.2.2.1 t 5) ||| ((1) <<< ((x) &&& 31)))) t 6 ((u.2.2.1 t 6) ||| ((1) <<< ((x) &&& 31)))).2.2.1 t 6)) kc_Term fl_Term_28 (by decide) ht (by decide) rfl rfl d_Term_addName_25 ?_
  rw [show (uI (uI u t 5 ((u.2.2.1 t 5) ||| ((1) <<< ((x) &&& 31)))) t 6 ((u.2.2.1 t 6) ||| ((1) <<< ((x) &&& 31)))).2.2.1 t 6 = u.2.2.1 t 6 ||| 1 <<< (x &&& 31) from by rw [uI_j]; rfl]
  refine c_Sr (as := [.int (u.2.2.1 t 6 ||| 1 <<< (x &&& 31))]) ks_Integer_bitCount ml_Term_34 (m_bitCount _) rfl (Nat.le_of_ble_eq_true rfl) rfl d_Term_addName_28 rfl ?_
  refine g_iret rfl d_Term_addName_31 ?_
  exact ⟨rfl, rfl⟩
set_option maxHeartbeats 400000 in
set_option maxRecDepth 100000 in
theorem m_C_areOf {k t : Nat} {x : Int32} (hk : k < 1000) (h3 : c.1 3 = nI (k + 1)) (h : c.2.2.1 0 0 = some t) (ht : zIs u a t 7) : GM E Y_Cases_areOf d [.ref (a + 5), .int x] (yW E G a c u n sl) (rIs (some (.int (if u.2.2.1 t 0 = x then 1 else 0))) (yW E G a c u n sl)) := by
  refine g_entry (by decide) (by simp [Value.category]) (Nat.le_of_ble_eq_true rfl) ?_
  by_cases hb : u.2.2.1 t 0 = x
  · rw [if_pos hb]
    refine g_aload_n d_Cases_areOf_0 rfl ?_
    refine x_get (k := 5) (j := 2) (v := .int (c.1 3)) kc_Cases fl_Cases_21 (by decide) (by decide) rfl rfl d_Cases_areOf_1 ?_
    rw [h3]
    refine g_if_le (tgt := 24) d_Cases_areOf_4 (by decide) (fun c_4 => ?_) (fun c_4 => ?_)
    · exact absurd c_4 (fun q => by have := (le_hi (nI_hi (by omega)) (show (0 : Int32).toInt = ((0 : Nat) : Int) by decide)).mp q; omega)
    refine g_aload_n d_Cases_areOf_7 rfl ?_
    refine x_get (k := 5) (j := 0) (v := .ref (a + 6)) kc_Cases fl_Cases_11 (by decide) (by decide) rfl rfl d_Cases_areOf_8 ?_
    refine g_iconst (v := 0) d_Cases_areOf_11 (by decide) ?_
    refine g_taldS (j := 0) (x_at (k := 6) (by decide) rfl) (by decide) (by decide) h d_Cases_areOf_12 ?_
    refine z_get (k := 7) (j := 0) (v := .int (u.2.2.1 t 0)) kc_Term fl_Cases_25 (by decide) ht (by decide) rfl rfl d_Cases_areOf_13 ?_
    refine g_iload_n d_Cases_areOf_16 rfl ?_
    refine g_icmp_ne (tgt := 24) d_Cases_areOf_17 (by decide) (fun c_17 => ?_) (fun c_17 => ?_)
    · exact absurd c_17 (fun q => q hb)
    refine g_iconst (v := 1) d_Cases_areOf_20 (by decide) ?_
    refine g_goto (tgt := 25) d_Cases_areOf_21 (by decide) ?_
    refine g_zret rfl rfl d_Cases_areOf_25 ?_
    exact ⟨rfl, rfl⟩
  · rw [if_neg hb]
    refine g_aload_n d_Cases_areOf_0 rfl ?_
    refine x_get (k := 5) (j := 2) (v := .int (c.1 3)) kc_Cases fl_Cases_21 (by decide) (by decide) rfl rfl d_Cases_areOf_1 ?_
    rw [h3]
    refine g_if_le (tgt := 24) d_Cases_areOf_4 (by decide) (fun c_4 => ?_) (fun c_4 => ?_)
    · exact absurd c_4 (fun q => by have := (le_hi (nI_hi (by omega)) (show (0 : Int32).toInt = ((0 : Nat) : Int) by decide)).mp q; omega)
    refine g_aload_n d_Cases_areOf_7 rfl ?_
    refine x_get (k := 5) (j := 0) (v := .ref (a + 6)) kc_Cases fl_Cases_11 (by decide) (by decide) rfl rfl d_Cases_areOf_8 ?_
    refine g_iconst (v := 0) d_Cases_areOf_11 (by decide) ?_
    refine g_taldS (j := 0) (x_at (k := 6) (by decide) rfl) (by decide) (by decide) h d_Cases_areOf_12 ?_
    refine z_get (k := 7) (j := 0) (v := .int (u.2.2.1 t 0)) kc_Term fl_Cases_25 (by decide) ht (by decide) rfl rfl d_Cases_areOf_13 ?_
    refine g_iload_n d_Cases_areOf_16 rfl ?_
    refine g_icmp_ne (tgt := 24) d_Cases_areOf_17 (by decide) (fun c_17 => ?_) (fun c_17 => ?_)
    rotate_left
    · exact absurd c_17 (fun q => hb q)
    refine g_iconst (v := 0) d_Cases_areOf_24 (by decide) ?_
    refine g_zret rfl rfl d_Cases_areOf_25 ?_
    exact ⟨rfl, rfl⟩
set_option maxHeartbeats 400000 in
set_option maxRecDepth 100000 in
theorem m_C_areOf0 {x : Int32} (h3 : c.1 3 = 0) : GM E Y_Cases_areOf d [.ref (a + 5), .int x] (yW E G a c u n sl) (rIs (some (.int 0)) (yW E G a c u n sl)) := by
  refine g_entry (by decide) (by simp [Value.category]) (Nat.le_of_ble_eq_true rfl) ?_
  refine g_aload_n d_Cases_areOf_0 rfl ?_
  refine x_get (k := 5) (j := 2) (v := .int (c.1 3)) kc_Cases fl_Cases_21 (by decide) (by decide) rfl rfl d_Cases_areOf_1 ?_
  rw [h3]
  refine g_if_le (tgt := 24) d_Cases_areOf_4 (by decide) (fun c_4 => ?_) (fun c_4 => absurd c_4 (by decide))
  refine g_iconst (v := 0) d_Cases_areOf_24 (by decide) ?_
  refine g_zret rfl rfl d_Cases_areOf_25 ?_
  exact ⟨rfl, rfl⟩
set_option maxHeartbeats 400000 in
set_option maxRecDepth 100000 in
theorem m_C_acc0 {t : Nat} (h3 : c.1 3 = 0) : GM E Y_Cases_accepts (d + 1) [.ref (a + 5), .ref t] (yW E G a c u n sl) (rIs (some (.int 1)) (yW E G a c u n sl)) := by
  refine g_entry (by decide) (by simp [Value.category]) (Nat.le_of_ble_eq_true rfl) ?_
  refine g_aload_n d_Cases_accepts_0 rfl ?_
  refine x_get (k := 5) (j := 2) (v := .int (c.1 3)) kc_Cases fl_Cases_21 (by decide) (by decide) rfl rfl d_Cases_accepts_1 ?_
  rw [h3]
  refine g_if_eq (tgt := 27) d_Cases_accepts_4 (by decide) (fun c_4 => ?_) (fun c_4 => absurd c_4 (by decide))
  refine g_iconst (v := 1) d_Cases_accepts_27 (by decide) ?_
  refine g_goto (tgt := 32) d_Cases_accepts_28 (by decide) ?_
  refine g_zret rfl rfl d_Cases_accepts_32 ?_
  exact ⟨rfl, rfl⟩
set_option maxHeartbeats 400000 in
set_option maxRecDepth 100000 in
theorem m_C_acc20 {t : Nat} (h3 : c.1 3 = 20) : GM E Y_Cases_accepts (d + 1) [.ref (a + 5), .ref t] (yW E G a c u n sl) (rIs (some (.int 0)) (yW E G a c u n sl)) := by
  refine g_entry (by decide) (by simp [Value.category]) (Nat.le_of_ble_eq_true rfl) ?_
  refine g_aload_n d_Cases_accepts_0 rfl ?_
  refine x_get (k := 5) (j := 2) (v := .int (c.1 3)) kc_Cases fl_Cases_21 (by decide) (by decide) rfl rfl d_Cases_accepts_1 ?_
  rw [h3]
  refine g_if_eq (tgt := 27) d_Cases_accepts_4 (by decide) (fun c_4 => absurd c_4 (by decide)) (fun c_4 => ?_)
  refine g_aload_n d_Cases_accepts_7 rfl ?_
  refine x_get (k := 5) (j := 2) (v := .int (c.1 3)) kc_Cases fl_Cases_21 (by decide) (by decide) rfl rfl d_Cases_accepts_8 ?_
  rw [h3]
  refine g_bipush (v := 20) d_Cases_accepts_11 (by decide) ?_
  refine g_icmp_ge (tgt := 31) d_Cases_accepts_13 (by decide) (fun c_13 => ?_) (fun c_13 => ?_)
  rotate_left
  · exact absurd c_13 (fun q => q (Int32.le_refl _))
  refine g_iconst (v := 0) d_Cases_accepts_31 (by decide) ?_
  refine g_zret rfl rfl d_Cases_accepts_32 ?_
  exact ⟨rfl, rfl⟩
set_option maxHeartbeats 400000 in
set_option maxRecDepth 100000 in
theorem m_C_acc {k t t' : Nat} (hk : k + 1 < 20) (h3 : c.1 3 = nI (k + 1)) (h : c.2.2.1 0 0 = some t') (ht' : zIs u a t' 7) (ht : zIs u a t 7) : GM E Y_Cases_accepts (d + 1) [.ref (a + 5), .ref t] (yW E G a c u n sl) (rIs (some (.int (if u.2.2.1 t' 0 = u.2.2.1 t 0 then 1 else 0))) (yW E G a c u n sl)) := by
  refine g_entry (by decide) (by simp [Value.category]) (Nat.le_of_ble_eq_true rfl) ?_
  have KA := m_C_areOf (E := E) (d := d) (G := G) (n := n) (sl := sl) (x := u.2.2.1 t 0) (k := k) (by omega) h3 h ht'
  by_cases hb : u.2.2.1 t' 0 = u.2.2.1 t 0
  · rw [if_pos hb] at KA ⊢
    refine g_aload_n d_Cases_accepts_0 rfl ?_
    refine x_get (k := 5) (j := 2) (v := .int (c.1 3)) kc_Cases fl_Cases_21 (by decide) (by decide) rfl rfl d_Cases_accepts_1 ?_
    rw [h3]
    refine g_if_eq (tgt := 27) d_Cases_accepts_4 (by decide) (fun c_4 => ?_) (fun c_4 => ?_)
    · exact absurd c_4 (fun q => nI_ne (b := 0) (by omega) (by omega) (by omega) q)
    refine g_aload_n d_Cases_accepts_7 rfl ?_
    refine x_get (k := 5) (j := 2) (v := .int (c.1 3)) kc_Cases fl_Cases_21 (by decide) (by decide) rfl rfl d_Cases_accepts_8 ?_
    rw [h3]
    refine g_bipush (v := 20) d_Cases_accepts_11 (by decide) ?_
    refine g_icmp_ge (tgt := 31) d_Cases_accepts_13 (by decide) (fun c_13 => ?_) (fun c_13 => ?_)
    · exact absurd c_13 (ige (m := 20) (by omega) (by omega) hk)
    refine g_aload_n d_Cases_accepts_16 rfl ?_
    refine g_aload_n d_Cases_accepts_17 rfl ?_
    refine z_get (k := 7) (j := 0) (v := .int (u.2.2.1 t 0)) kc_Term fl_Cases_25 (by decide) ht (by decide) rfl rfl d_Cases_accepts_18 ?_
    refine c_Vr (as := [.int (u.2.2.1 t 0)]) kv_Cases_areOf ml_Cases_28 rfl (x_at (k := 5) (by decide) rfl) (KA) rfl (Nat.le_of_ble_eq_true rfl) rfl d_Cases_accepts_21 rfl ?_
    refine g_if_eq (tgt := 31) d_Cases_accepts_24 (by decide) (fun c_24 => absurd c_24 (by decide)) (fun c_24 => ?_)
    refine g_iconst (v := 1) d_Cases_accepts_27 (by decide) ?_
    refine g_goto (tgt := 32) d_Cases_accepts_28 (by decide) ?_
    refine g_zret rfl rfl d_Cases_accepts_32 ?_
    exact ⟨rfl, rfl⟩
  · rw [if_neg hb] at KA ⊢
    refine g_aload_n d_Cases_accepts_0 rfl ?_
    refine x_get (k := 5) (j := 2) (v := .int (c.1 3)) kc_Cases fl_Cases_21 (by decide) (by decide) rfl rfl d_Cases_accepts_1 ?_
    rw [h3]
    refine g_if_eq (tgt := 27) d_Cases_accepts_4 (by decide) (fun c_4 => ?_) (fun c_4 => ?_)
    · exact absurd c_4 (fun q => nI_ne (b := 0) (by omega) (by omega) (by omega) q)
    refine g_aload_n d_Cases_accepts_7 rfl ?_
    refine x_get (k := 5) (j := 2) (v := .int (c.1 3)) kc_Cases fl_Cases_21 (by decide) (by decide) rfl rfl d_Cases_accepts_8 ?_
    rw [h3]
    refine g_bipush (v := 20) d_Cases_accepts_11 (by decide) ?_
    refine g_icmp_ge (tgt := 31) d_Cases_accepts_13 (by decide) (fun c_13 => ?_) (fun c_13 => ?_)
    · exact absurd c_13 (ige (m := 20) (by omega) (by omega) hk)
    refine g_aload_n d_Cases_accepts_16 rfl ?_
    refine g_aload_n d_Cases_accepts_17 rfl ?_
    refine z_get (k := 7) (j := 0) (v := .int (u.2.2.1 t 0)) kc_Term fl_Cases_25 (by decide) ht (by decide) rfl rfl d_Cases_accepts_18 ?_
    refine c_Vr (as := [.int (u.2.2.1 t 0)]) kv_Cases_areOf ml_Cases_28 rfl (x_at (k := 5) (by decide) rfl) (KA) rfl (Nat.le_of_ble_eq_true rfl) rfl d_Cases_accepts_21 rfl ?_
    refine g_if_eq (tgt := 31) d_Cases_accepts_24 (by decide) (fun c_24 => ?_) (fun c_24 => absurd c_24 (by decide))
    refine g_iconst (v := 0) d_Cases_accepts_31 (by decide) ?_
    refine g_zret rfl rfl d_Cases_accepts_32 ?_
    exact ⟨rfl, rfl⟩
set_option maxHeartbeats 400000 in
set_option maxRecDepth 100000 in
theorem m_Y_alike {l0 : List Nat} {s t : Nat} (hp : pil c 1 4 (l0 ++ [s, t])) (hz : pilT u a (l0 ++ [s, t])) : GM E Y_Pile_areAlike (d + 1) [.ref (a + 8), .int 2] (yW E G a c u n sl) (rIs (some (.int (if u.2.2.1 t 0 = u.2.2.1 s 0 ∧ u.2.2.1 t 6 = u.2.2.1 s 6 then 1 else 0))) (yW E G a c u n sl)) := by
  refine g_entry (by decide) (by simp [Value.category]) (Nat.le_of_ble_eq_true rfl) ?_
  have h40 := hp.2.1
  have hl : (l0 ++ [s, t]).length = l0.length + 2 := by simp
  have h4 : c.1 4 = nI (l0.length + 2) := by rw [hp.1, hl]
  have hs : c.2.2.1 1 l0.length = some s := hp.2.2 _ s mid_at
  have ht : c.2.2.1 1 (l0.length + 1) = some t := hp.2.2 _ t (by rw [List.getElem?_append_right (by omega), Nat.add_sub_cancel_left]; rfl)
  have hzs := hz s (by simp)
  have hzt := hz t (by simp)
  by_cases hb : u.2.2.1 t 0 = u.2.2.1 s 0
  · by_cases hb2 : u.2.2.1 t 6 = u.2.2.1 s 6
    · rw [if_pos ⟨hb, hb2⟩]
      refine g_iconst (v := 0) d_Pile_areAlike_0 (by decide) ?_
      refine g_aload_n d_Pile_areAlike_1 rfl ?_
      refine x_get (k := 8) (j := 1) (v := .int (c.1 4)) kc_Pile fl_Pile_17 (by decide) (by decide) rfl rfl d_Pile_areAlike_2 ?_
      rw [h4]
      refine g_iload_n d_Pile_areAlike_5 rfl ?_
      refine g_isub d_Pile_areAlike_6 ?_
      refine g_top (nI l0.length) (by rw [show (2 : Int32) = nI 2 from rfl, sub_nI (by omega) (by omega), Nat.add_sub_cancel]) ?_
      refine c_Sr (as := [.int (0), .int (nI l0.length)]) ks_Math_max ml_Pile_28 (m_Math_max _ _) rfl (Nat.le_of_ble_eq_true rfl) rfl d_Pile_areAlike_7 rfl ?_
      refine g_top (nI l0.length) (max_0 (by omega)) ?_
      refine g_iconst (v := 1) d_Pile_areAlike_10 (by decide) ?_
      refine g_iadd d_Pile_areAlike_11 ?_
      refine g_top (nI (l0.length + 1)) (nI_1 _) ?_
      refine g_istore_n d_Pile_areAlike_12 (by decide) rfl ?_
      refine g_iload_n d_Pile_areAlike_13 rfl ?_
      refine g_aload_n d_Pile_areAlike_14 rfl ?_
      refine x_get (k := 8) (j := 1) (v := .int (c.1 4)) kc_Pile fl_Pile_17 (by decide) (by decide) rfl rfl d_Pile_areAlike_15 ?_
      rw [h4]
      refine g_icmp_ge (tgt := 75) d_Pile_areAlike_18 (by decide) (fun c_18 => ?_) (fun c_18 => ?_)
      · exact absurd c_18 (ige (by omega) (by omega) (by omega))
      refine g_aload_n d_Pile_areAlike_21 rfl ?_
      refine x_get (k := 8) (j := 0) (v := .ref (a + 9)) kc_Pile fl_Pile_11 (by decide) (by decide) rfl rfl d_Pile_areAlike_22 ?_
      refine g_iload_n d_Pile_areAlike_25 rfl ?_
      refine g_taldS (j := l0.length + 1) (x_at (k := 9) (by decide) rfl) (nI_hi (by omega)) (by omega) ht d_Pile_areAlike_26 ?_
      refine z_get (k := 7) (j := 0) (v := .int (u.2.2.1 t 0)) kc_Term fl_Pile_25 (by decide) hzt (by decide) rfl rfl d_Pile_areAlike_27 ?_
      refine g_aload_n d_Pile_areAlike_30 rfl ?_
      refine x_get (k := 8) (j := 0) (v := .ref (a + 9)) kc_Pile fl_Pile_11 (by decide) (by decide) rfl rfl d_Pile_areAlike_31 ?_
      refine g_iload_n d_Pile_areAlike_34 rfl ?_
      refine g_iconst (v := 1) d_Pile_areAlike_35 (by decide) ?_
      refine g_isub d_Pile_areAlike_36 ?_
      refine g_taldS (j := l0.length) (x_at (k := 9) (by decide) rfl) (by rw [nI_s1 (by omega)]; exact nI_hi (by omega)) (by omega) hs d_Pile_areAlike_37 ?_
      refine z_get (k := 7) (j := 0) (v := .int (u.2.2.1 s 0)) kc_Term fl_Pile_25 (by decide) hzs (by decide) rfl rfl d_Pile_areAlike_38 ?_
      refine g_icmp_ne (tgt := 67) d_Pile_areAlike_41 (by decide) (fun c_41 => ?_) (fun c_41 => ?_)
      · exact absurd c_41 (fun q => q hb)
      refine g_aload_n d_Pile_areAlike_44 rfl ?_
      refine x_get (k := 8) (j := 0) (v := .ref (a + 9)) kc_Pile fl_Pile_11 (by decide) (by decide) rfl rfl d_Pile_areAlike_45 ?_
      refine g_iload_n d_Pile_areAlike_48 rfl ?_
      refine g_taldS (j := l0.length + 1) (x_at (k := 9) (by decide) rfl) (nI_hi (by omega)) (by omega) ht d_Pile_areAlike_49 ?_
      refine z_get (k := 7) (j := 6) (v := .int (u.2.2.1 t 6)) kc_Term fl_Pile_40 (by decide) hzt (by decide) rfl rfl d_Pile_areAlike_50 ?_
      refine g_aload_n d_Pile_areAlike_53 rfl ?_
      refine x_get (k := 8) (j := 0) (v := .ref (a + 9)) kc_Pile fl_Pile_11 (by decide) (by decide) rfl rfl d_Pile_areAlike_54 ?_
      refine g_iload_n d_Pile_areAlike_57 rfl ?_
      refine g_iconst (v := 1) d_Pile_areAlike_58 (by decide) ?_
      refine g_isub d_Pile_areAlike_59 ?_
      refine g_taldS (j := l0.length) (x_at (k := 9) (by decide) rfl) (by rw [nI_s1 (by omega)]; exact nI_hi (by omega)) (by omega) hs d_Pile_areAlike_60 ?_
      refine z_get (k := 7) (j := 6) (v := .int (u.2.2.1 s 6)) kc_Term fl_Pile_40 (by decide) hzs (by decide) rfl rfl d_Pile_areAlike_61 ?_
      refine g_icmp_eq (tgt := 69) d_Pile_areAlike_64 (by decide) (fun c_64 => ?_) (fun c_64 => ?_)
      rotate_left
      · exact absurd c_64 (fun q => q hb2)
      refine g_iinc (v := nI (l0.length + 2)) d_Pile_areAlike_69 rfl (nI_1 _) (by decide) rfl ?_
      refine g_goto (tgt := 13) d_Pile_areAlike_72 (by decide) ?_
      refine g_iload_n d_Pile_areAlike_13 rfl ?_
      refine g_aload_n d_Pile_areAlike_14 rfl ?_
      refine x_get (k := 8) (j := 1) (v := .int (c.1 4)) kc_Pile fl_Pile_17 (by decide) (by decide) rfl rfl d_Pile_areAlike_15 ?_
      rw [h4]
      refine g_icmp_ge (tgt := 75) d_Pile_areAlike_18 (by decide) (fun _ => ?_) (fun q => absurd (Int32.le_refl _) q)
      refine g_iconst (v := 1) d_Pile_areAlike_75 (by decide) ?_
      refine g_zret rfl rfl d_Pile_areAlike_76 ?_
      exact ⟨rfl, rfl⟩
    · rw [if_neg (fun z => hb2 z.2)]
      refine g_iconst (v := 0) d_Pile_areAlike_0 (by decide) ?_
      refine g_aload_n d_Pile_areAlike_1 rfl ?_
      refine x_get (k := 8) (j := 1) (v := .int (c.1 4)) kc_Pile fl_Pile_17 (by decide) (by decide) rfl rfl d_Pile_areAlike_2 ?_
      rw [h4]
      refine g_iload_n d_Pile_areAlike_5 rfl ?_
      refine g_isub d_Pile_areAlike_6 ?_
      refine g_top (nI l0.length) (by rw [show (2 : Int32) = nI 2 from rfl, sub_nI (by omega) (by omega), Nat.add_sub_cancel]) ?_
      refine c_Sr (as := [.int (0), .int (nI l0.length)]) ks_Math_max ml_Pile_28 (m_Math_max _ _) rfl (Nat.le_of_ble_eq_true rfl) rfl d_Pile_areAlike_7 rfl ?_
      refine g_top (nI l0.length) (max_0 (by omega)) ?_
      refine g_iconst (v := 1) d_Pile_areAlike_10 (by decide) ?_
      refine g_iadd d_Pile_areAlike_11 ?_
      refine g_top (nI (l0.length + 1)) (nI_1 _) ?_
      refine g_istore_n d_Pile_areAlike_12 (by decide) rfl ?_
      refine g_iload_n d_Pile_areAlike_13 rfl ?_
      refine g_aload_n d_Pile_areAlike_14 rfl ?_
      refine x_get (k := 8) (j := 1) (v := .int (c.1 4)) kc_Pile fl_Pile_17 (by decide) (by decide) rfl rfl d_Pile_areAlike_15 ?_
      rw [h4]
      refine g_icmp_ge (tgt := 75) d_Pile_areAlike_18 (by decide) (fun c_18 => ?_) (fun c_18 => ?_)
      · exact absurd c_18 (ige (by omega) (by omega) (by omega))
      refine g_aload_n d_Pile_areAlike_21 rfl ?_
      refine x_get (k := 8) (j := 0) (v := .ref (a + 9)) kc_Pile fl_Pile_11 (by decide) (by decide) rfl rfl d_Pile_areAlike_22 ?_
      refine g_iload_n d_Pile_areAlike_25 rfl ?_
      refine g_taldS (j := l0.length + 1) (x_at (k := 9) (by decide) rfl) (nI_hi (by omega)) (by omega) ht d_Pile_areAlike_26 ?_
      refine z_get (k := 7) (j := 0) (v := .int (u.2.2.1 t 0)) kc_Term fl_Pile_25 (by decide) hzt (by decide) rfl rfl d_Pile_areAlike_27 ?_
      refine g_aload_n d_Pile_areAlike_30 rfl ?_
      refine x_get (k := 8) (j := 0) (v := .ref (a + 9)) kc_Pile fl_Pile_11 (by decide) (by decide) rfl rfl d_Pile_areAlike_31 ?_
      refine g_iload_n d_Pile_areAlike_34 rfl ?_
      refine g_iconst (v := 1) d_Pile_areAlike_35 (by decide) ?_
      refine g_isub d_Pile_areAlike_36 ?_
      refine g_taldS (j := l0.length) (x_at (k := 9) (by decide) rfl) (by rw [nI_s1 (by omega)]; exact nI_hi (by omega)) (by omega) hs d_Pile_areAlike_37 ?_
      refine z_get (k := 7) (j := 0) (v := .int (u.2.2.1 s 0)) kc_Term fl_Pile_25 (by decide) hzs (by decide) rfl rfl d_Pile_areAlike_38 ?_
      refine g_icmp_ne (tgt := 67) d_Pile_areAlike_41 (by decide) (fun c_41 => ?_) (fun c_41 => ?_)
      · exact absurd c_41 (fun q => q hb)
      refine g_aload_n d_Pile_areAlike_44 rfl ?_
      refine x_get (k := 8) (j := 0) (v := .ref (a + 9)) kc_Pile fl_Pile_11 (by decide) (by decide) rfl rfl d_Pile_areAlike_45 ?_
      refine g_iload_n d_Pile_areAlike_48 rfl ?_
      refine g_taldS (j := l0.length + 1) (x_at (k := 9) (by decide) rfl) (nI_hi (by omega)) (by omega) ht d_Pile_areAlike_49 ?_
      refine z_get (k := 7) (j := 6) (v := .int (u.2.2.1 t 6)) kc_Term fl_Pile_40 (by decide) hzt (by decide) rfl rfl d_Pile_areAlike_50 ?_
      refine g_aload_n d_Pile_areAlike_53 rfl ?_
      refine x_get (k := 8) (j := 0) (v := .ref (a + 9)) kc_Pile fl_Pile_11 (by decide) (by decide) rfl rfl d_Pile_areAlike_54 ?_
      refine g_iload_n d_Pile_areAlike_57 rfl ?_
      refine g_iconst (v := 1) d_Pile_areAlike_58 (by decide) ?_
      refine g_isub d_Pile_areAlike_59 ?_
      refine g_taldS (j := l0.length) (x_at (k := 9) (by decide) rfl) (by rw [nI_s1 (by omega)]; exact nI_hi (by omega)) (by omega) hs d_Pile_areAlike_60 ?_
      refine z_get (k := 7) (j := 6) (v := .int (u.2.2.1 s 6)) kc_Term fl_Pile_40 (by decide) hzs (by decide) rfl rfl d_Pile_areAlike_61 ?_
      refine g_icmp_eq (tgt := 69) d_Pile_areAlike_64 (by decide) (fun c_64 => ?_) (fun c_64 => ?_)
      · exact absurd c_64 hb2
      refine g_iconst (v := 0) d_Pile_areAlike_67 (by decide) ?_
      refine g_zret rfl rfl d_Pile_areAlike_68 ?_
      exact ⟨rfl, rfl⟩
  · rw [if_neg (fun z => hb z.1)]
    refine g_iconst (v := 0) d_Pile_areAlike_0 (by decide) ?_
    refine g_aload_n d_Pile_areAlike_1 rfl ?_
    refine x_get (k := 8) (j := 1) (v := .int (c.1 4)) kc_Pile fl_Pile_17 (by decide) (by decide) rfl rfl d_Pile_areAlike_2 ?_
    rw [h4]
    refine g_iload_n d_Pile_areAlike_5 rfl ?_
    refine g_isub d_Pile_areAlike_6 ?_
    refine g_top (nI l0.length) (by rw [show (2 : Int32) = nI 2 from rfl, sub_nI (by omega) (by omega), Nat.add_sub_cancel]) ?_
    refine c_Sr (as := [.int (0), .int (nI l0.length)]) ks_Math_max ml_Pile_28 (m_Math_max _ _) rfl (Nat.le_of_ble_eq_true rfl) rfl d_Pile_areAlike_7 rfl ?_
    refine g_top (nI l0.length) (max_0 (by omega)) ?_
    refine g_iconst (v := 1) d_Pile_areAlike_10 (by decide) ?_
    refine g_iadd d_Pile_areAlike_11 ?_
    refine g_top (nI (l0.length + 1)) (nI_1 _) ?_
    refine g_istore_n d_Pile_areAlike_12 (by decide) rfl ?_
    refine g_iload_n d_Pile_areAlike_13 rfl ?_
    refine g_aload_n d_Pile_areAlike_14 rfl ?_
    refine x_get (k := 8) (j := 1) (v := .int (c.1 4)) kc_Pile fl_Pile_17 (by decide) (by decide) rfl rfl d_Pile_areAlike_15 ?_
    rw [h4]
    refine g_icmp_ge (tgt := 75) d_Pile_areAlike_18 (by decide) (fun c_18 => ?_) (fun c_18 => ?_)
    · exact absurd c_18 (ige (by omega) (by omega) (by omega))
    refine g_aload_n d_Pile_areAlike_21 rfl ?_
    refine x_get (k := 8) (j := 0) (v := .ref (a + 9)) kc_Pile fl_Pile_11 (by decide) (by decide) rfl rfl d_Pile_areAlike_22 ?_
    refine g_iload_n d_Pile_areAlike_25 rfl ?_
    refine g_taldS (j := l0.length + 1) (x_at (k := 9) (by decide) rfl) (nI_hi (by omega)) (by omega) ht d_Pile_areAlike_26 ?_
    refine z_get (k := 7) (j := 0) (v := .int (u.2.2.1 t 0)) kc_Term fl_Pile_25 (by decide) hzt (by decide) rfl rfl d_Pile_areAlike_27 ?_
    refine g_aload_n d_Pile_areAlike_30 rfl ?_
    refine x_get (k := 8) (j := 0) (v := .ref (a + 9)) kc_Pile fl_Pile_11 (by decide) (by decide) rfl rfl d_Pile_areAlike_31 ?_
    refine g_iload_n d_Pile_areAlike_34 rfl ?_
    refine g_iconst (v := 1) d_Pile_areAlike_35 (by decide) ?_
    refine g_isub d_Pile_areAlike_36 ?_
    refine g_taldS (j := l0.length) (x_at (k := 9) (by decide) rfl) (by rw [nI_s1 (by omega)]; exact nI_hi (by omega)) (by omega) hs d_Pile_areAlike_37 ?_
    refine z_get (k := 7) (j := 0) (v := .int (u.2.2.1 s 0)) kc_Term fl_Pile_25 (by decide) hzs (by decide) rfl rfl d_Pile_areAlike_38 ?_
    refine g_icmp_ne (tgt := 67) d_Pile_areAlike_41 (by decide) (fun c_41 => ?_) (fun c_41 => ?_)
    rotate_left
    · exact absurd c_41 (fun q => hb q)
    refine g_iconst (v := 0) d_Pile_areAlike_67 (by decide) ?_
    refine g_zret rfl rfl d_Pile_areAlike_68 ?_
    exact ⟨rfl, rfl⟩
end CZ
