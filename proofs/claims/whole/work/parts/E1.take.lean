/-! Pile.take, Pile.areAlike; new terms -/
theorem d_Term_init_0 : decode Y_Term_init.2.1 0 = .ok (.aload_n 0, 1) := by decide +kernel
theorem d_Term_init_1 : decode Y_Term_init.2.1 1 = .ok (.invokespecial 3, 3) := by decide +kernel
theorem d_Term_init_4 : decode Y_Term_init.2.1 4 = .ok (.aload_n 0, 1) := by decide +kernel
theorem d_Term_init_5 : decode Y_Term_init.2.1 5 = .ok (.iload_n 1, 1) := by decide +kernel
theorem d_Term_init_6 : decode Y_Term_init.2.1 6 = .ok (.putfield 9, 3) := by decide +kernel
theorem d_Term_init_9 : decode Y_Term_init.2.1 9 = .ok (.aload_n 0, 1) := by decide +kernel
theorem d_Term_init_10 : decode Y_Term_init.2.1 10 = .ok (.iload_n 2, 1) := by decide +kernel
theorem d_Term_init_11 : decode Y_Term_init.2.1 11 = .ok (.putfield 15, 3) := by decide +kernel
theorem d_Term_init_14 : decode Y_Term_init.2.1 14 = .ok (.aload_n 0, 1) := by decide +kernel
theorem d_Term_init_15 : decode Y_Term_init.2.1 15 = .ok (.iload_n 3, 1) := by decide +kernel
theorem d_Term_init_16 : decode Y_Term_init.2.1 16 = .ok (.putfield 18, 3) := by decide +kernel
theorem d_Term_init_19 : decode Y_Term_init.2.1 19 = .ok (.aload_n 0, 1) := by decide +kernel
theorem d_Term_init_20 : decode Y_Term_init.2.1 20 = .ok (.aload 4, 2) := by decide +kernel
theorem d_Term_init_22 : decode Y_Term_init.2.1 22 = .ok (.putfield 21, 3) := by decide +kernel
theorem d_Term_init_25 : decode Y_Term_init.2.1 25 = .ok (.iconst 1, 1) := by decide +kernel
theorem d_Term_init_26 : decode Y_Term_init.2.1 26 = .ok (.istore 5, 2) := by decide +kernel
theorem d_Term_init_28 : decode Y_Term_init.2.1 28 = .ok (.iconst 0, 1) := by decide +kernel
theorem d_Term_init_29 : decode Y_Term_init.2.1 29 = .ok (.istore 6, 2) := by decide +kernel
theorem d_Term_init_31 : decode Y_Term_init.2.1 31 = .ok (.iload 6, 2) := by decide +kernel
theorem d_Term_init_33 : decode Y_Term_init.2.1 33 = .ok (.aload 4, 2) := by decide +kernel
theorem d_Term_init_35 : decode Y_Term_init.2.1 35 = .ok (.arraylength, 1) := by decide +kernel
theorem d_Term_init_36 : decode Y_Term_init.2.1 36 = .ok (.if_icmp .ge 39, 3) := by decide +kernel
theorem d_Term_init_39 : decode Y_Term_init.2.1 39 = .ok (.iload 5, 2) := by decide +kernel
theorem d_Term_init_41 : decode Y_Term_init.2.1 41 = .ok (.aload 4, 2) := by decide +kernel
theorem d_Term_init_43 : decode Y_Term_init.2.1 43 = .ok (.iload 6, 2) := by decide +kernel
theorem d_Term_init_45 : decode Y_Term_init.2.1 45 = .ok (.aaload, 1) := by decide +kernel
theorem d_Term_init_46 : decode Y_Term_init.2.1 46 = .ok (.getfield 25, 3) := by decide +kernel
theorem d_Term_init_49 : decode Y_Term_init.2.1 49 = .ok (.iadd, 1) := by decide +kernel
theorem d_Term_init_50 : decode Y_Term_init.2.1 50 = .ok (.istore 5, 2) := by decide +kernel
theorem d_Term_init_52 : decode Y_Term_init.2.1 52 = .ok (.aload_n 0, 1) := by decide +kernel
theorem d_Term_init_53 : decode Y_Term_init.2.1 53 = .ok (.dup, 1) := by decide +kernel
theorem d_Term_init_54 : decode Y_Term_init.2.1 54 = .ok (.getfield 28, 3) := by decide +kernel
theorem d_Term_init_57 : decode Y_Term_init.2.1 57 = .ok (.aload 4, 2) := by decide +kernel
theorem d_Term_init_59 : decode Y_Term_init.2.1 59 = .ok (.iload 6, 2) := by decide +kernel
theorem d_Term_init_61 : decode Y_Term_init.2.1 61 = .ok (.aaload, 1) := by decide +kernel
theorem d_Term_init_62 : decode Y_Term_init.2.1 62 = .ok (.getfield 28, 3) := by decide +kernel
theorem d_Term_init_65 : decode Y_Term_init.2.1 65 = .ok (.ior, 1) := by decide +kernel
theorem d_Term_init_66 : decode Y_Term_init.2.1 66 = .ok (.putfield 28, 3) := by decide +kernel
theorem d_Term_init_69 : decode Y_Term_init.2.1 69 = .ok (.iinc 6 1, 3) := by decide +kernel
theorem d_Term_init_72 : decode Y_Term_init.2.1 72 = .ok (.goto (-41), 3) := by decide +kernel
theorem d_Term_init_75 : decode Y_Term_init.2.1 75 = .ok (.aload_n 0, 1) := by decide +kernel
theorem d_Term_init_76 : decode Y_Term_init.2.1 76 = .ok (.iload 5, 2) := by decide +kernel
theorem d_Term_init_78 : decode Y_Term_init.2.1 78 = .ok (.putfield 25, 3) := by decide +kernel
theorem d_Term_init_81 : decode Y_Term_init.2.1 81 = .ok (.return_, 1) := by decide +kernel
theorem d_Term_hasName_0 : decode Y_Term_hasName.2.1 0 = .ok (.aload_n 0, 1) := by decide +kernel
theorem d_Term_hasName_1 : decode Y_Term_hasName.2.1 1 = .ok (.getfield 28, 3) := by decide +kernel
theorem d_Term_hasName_4 : decode Y_Term_hasName.2.1 4 = .ok (.iload_n 1, 1) := by decide +kernel
theorem d_Term_hasName_5 : decode Y_Term_hasName.2.1 5 = .ok (.ishr, 1) := by decide +kernel
theorem d_Term_hasName_6 : decode Y_Term_hasName.2.1 6 = .ok (.iconst 1, 1) := by decide +kernel
theorem d_Term_hasName_7 : decode Y_Term_hasName.2.1 7 = .ok (.iand, 1) := by decide +kernel
theorem d_Term_hasName_8 : decode Y_Term_hasName.2.1 8 = .ok (.iconst 1, 1) := by decide +kernel
theorem d_Term_hasName_9 : decode Y_Term_hasName.2.1 9 = .ok (.if_icmp .ne 7, 3) := by decide +kernel
theorem d_Term_hasName_12 : decode Y_Term_hasName.2.1 12 = .ok (.iconst 1, 1) := by decide +kernel
theorem d_Term_hasName_13 : decode Y_Term_hasName.2.1 13 = .ok (.goto 4, 3) := by decide +kernel
theorem d_Term_hasName_16 : decode Y_Term_hasName.2.1 16 = .ok (.iconst 0, 1) := by decide +kernel
theorem d_Term_hasName_17 : decode Y_Term_hasName.2.1 17 = .ok (.ireturn, 1) := by decide +kernel
theorem d_Term_addName_0 : decode Y_Term_addName.2.1 0 = .ok (.aload_n 0, 1) := by decide +kernel
theorem d_Term_addName_1 : decode Y_Term_addName.2.1 1 = .ok (.dup, 1) := by decide +kernel
theorem d_Term_addName_2 : decode Y_Term_addName.2.1 2 = .ok (.getfield 31, 3) := by decide +kernel
theorem d_Term_addName_5 : decode Y_Term_addName.2.1 5 = .ok (.iconst 1, 1) := by decide +kernel
theorem d_Term_addName_6 : decode Y_Term_addName.2.1 6 = .ok (.iload_n 1, 1) := by decide +kernel
theorem d_Term_addName_7 : decode Y_Term_addName.2.1 7 = .ok (.ishl, 1) := by decide +kernel
theorem d_Term_addName_8 : decode Y_Term_addName.2.1 8 = .ok (.ior, 1) := by decide +kernel
theorem d_Term_addName_9 : decode Y_Term_addName.2.1 9 = .ok (.putfield 31, 3) := by decide +kernel
theorem d_Term_addName_12 : decode Y_Term_addName.2.1 12 = .ok (.aload_n 0, 1) := by decide +kernel
theorem d_Term_addName_13 : decode Y_Term_addName.2.1 13 = .ok (.dup, 1) := by decide +kernel
theorem d_Term_addName_14 : decode Y_Term_addName.2.1 14 = .ok (.getfield 28, 3) := by decide +kernel
theorem d_Term_addName_17 : decode Y_Term_addName.2.1 17 = .ok (.iconst 1, 1) := by decide +kernel
theorem d_Term_addName_18 : decode Y_Term_addName.2.1 18 = .ok (.iload_n 1, 1) := by decide +kernel
theorem d_Term_addName_19 : decode Y_Term_addName.2.1 19 = .ok (.ishl, 1) := by decide +kernel
theorem d_Term_addName_20 : decode Y_Term_addName.2.1 20 = .ok (.ior, 1) := by decide +kernel
theorem d_Term_addName_21 : decode Y_Term_addName.2.1 21 = .ok (.putfield 28, 3) := by decide +kernel
theorem d_Term_addName_24 : decode Y_Term_addName.2.1 24 = .ok (.aload_n 0, 1) := by decide +kernel
theorem d_Term_addName_25 : decode Y_Term_addName.2.1 25 = .ok (.getfield 28, 3) := by decide +kernel
theorem d_Term_addName_28 : decode Y_Term_addName.2.1 28 = .ok (.invokestatic 34, 3) := by decide +kernel
theorem d_Term_addName_31 : decode Y_Term_addName.2.1 31 = .ok (.ireturn, 1) := by decide +kernel
section CX
variable {E : gE} {d : Nat} {G G0 G1 : gS} {a : Nat} {c c' c0 c1 : cS} {u u' u2 u0 : uS} {n n' n2 n1 sl sl' sl2 : Nat} {Q : gO → gS → Prop} {l l0 tp : List Nat}
theorem gNew_x {y : va_E} {m : Nat} (h : a + 24 ≤ G.2.1) : gNew (xW E G a c) y m = xW E (gNew G y m) a c := by
  refine Prod.ext (funext fun p => ?_) rfl
  show va_up (xW E G a c).1 G.2.1 (some y) p = (xW E (gNew G y m) a c).1 p
  unfold va_up xW gNew
  simp only
  by_cases e : p = G.2.1
  · subst e
    rw [if_pos rfl, if_neg (by omega)]
    simp [va_up]
  · rw [if_neg e]
    by_cases e2 : a ≤ p ∧ p < a + 24
    · rw [if_pos e2, if_pos e2]
    · rw [if_neg e2, if_neg e2]
      simp [va_up, e]
theorem gUp_x {y : va_E} {q : Nat} (h : a + 24 ≤ q) : gUp (xW E G a c) q y = xW E (gUp G q y) a c := by
  refine Prod.ext (funext fun p => ?_) rfl
  show va_up (xW E G a c).1 q (some y) p = (xW E (gUp G q y) a c).1 p
  unfold va_up xW gUp
  simp only
  by_cases e : p = q
  · subst e
    rw [if_pos rfl, if_neg (by omega)]
    simp [va_up]
  · rw [if_neg e]
    by_cases e2 : a ≤ p ∧ p < a + 24
    · rw [if_pos e2, if_pos e2]
    · rw [if_neg e2, if_neg e2]
      simp [va_up, e]
theorem gUp_gNew {y z : va_E} {m : Nat} : gUp (gNew G y m) G.2.1 z = gNew G z m := by
  refine Prod.ext (funext fun p => ?_) rfl
  show va_up (va_up G.1 G.2.1 (some y)) G.2.1 (some z) p = va_up G.1 G.2.1 (some z) p
  unfold va_up
  by_cases e : p = G.2.1
  · rw [if_pos e, if_pos e]
  · rw [if_neg e, if_neg e, if_neg e]
/-- the first i of these, the others null -/
def tkF (tp : List Nat) (i : Nat) : Nat → Option Nat := fun j => if j < i then tp[j]? else none
theorem tkF_s {i t : Nat} (h : tp[i]? = some t) : va_up (tkF tp i) i (some t) = tkF tp (i + 1) := by
  funext j
  unfold va_up tkF
  by_cases e : j = i
  · rw [if_pos e, if_pos (by omega), e, h]
  · rw [if_neg e]
    by_cases e2 : j < i
    · rw [if_pos e2, if_pos (by omega)]
    · rw [if_neg e2, if_neg (by omega)]
theorem tkF_all : tkF tp tp.length = fun j => tp[j]? := by
  funext j
  unfold tkF
  by_cases e : j < tp.length
  · rw [if_pos e]
  · rw [if_neg e, List.getElem?_eq_none (by omega)]
set_option maxHeartbeats 400000 in
set_option maxRecDepth 100000 in
theorem m_X_takeL_8 (hp : pil c 1 4 (l0 ++ tp)) (ha : a + 24 ≤ G.2.1) (ht : ∀ t ∈ tp, t < G.2.1 ∧ ∃ vs, (xW E G a c).1 t = some (.inr (9, vs))) (kk : Q (.inl (some (.ref G.2.1))) (xW E (gNew G (gAT E tp.length (fun j => tp[j]?)) tp.length) a (cF c 4 (nI l0.length)))) : ∀ (w i : Nat), i + w = tp.length → GT E Y_Pile_take (d + 1) G0 17 [(0, .ref (a + 8)), (1, .int (nI tp.length)), (2, .int (nI tp.length)), (3, .ref G.2.1), (4, .int (nI i))] [] (xW E (gNew G (gAT E tp.length (tkF tp i)) tp.length) a c) Q := by
  have h40 := hp.2.1
  have hl : (l0 ++ tp).length = l0.length + tp.length := List.length_append
  have h4 : c.1 4 = nI (l0.length + tp.length) := by rw [hp.1, hl]
  intro w
  induction w with
  | zero =>
    intro i hi
    obtain rfl : i = tp.length := by omega
    rw [tkF_all]
    refine g_iload d_Pile_take_17 rfl ?_
    refine g_iload_n d_Pile_take_19 rfl ?_
    refine g_icmp_ge (tgt := 47) d_Pile_take_20 (by decide) (fun c_20 => ?_) (fun c_20 => ?_)
    rotate_left
    · exact absurd c_20 (fun q => q (Int32.le_refl _))
    refine g_aload_n d_Pile_take_47 rfl ?_
    refine g_dup d_Pile_take_48 rfl ?_
    refine x_get (k := 8) (j := 1) (v := .int (c.1 4)) kc_Pile fl_Pile_17 (by decide) (by decide) rfl rfl d_Pile_take_49 ?_
    refine g_iload_n d_Pile_take_52 rfl ?_
    refine g_isub d_Pile_take_53 ?_
    refine g_top (nI l0.length) (by rw [h4, sub_nI (by omega) (by omega), Nat.add_sub_cancel]) ?_
    refine x_put (c' := (cF c 4 (nI l0.length))) (k := 8) (j := 1) kc_Pile fl_Pile_17 (by decide) (by decide) rfl rfl rfl rfl (Nat.le_of_ble_eq_true rfl) rfl rfl xf_F4 d_Pile_take_54 ?_
    refine g_aload_n d_Pile_take_57 rfl ?_
    refine g_aret rfl (Or.inr ⟨_, rfl⟩) (Or.inr ⟨_, rfl⟩) d_Pile_take_58 ?_
    exact kk
  | succ w ih =>
    intro i hi
    obtain ⟨t, hti⟩ : ∃ t, tp[i]? = some t := ⟨tp[i]'(by omega), List.getElem?_eq_getElem (by omega)⟩
    obtain ⟨htl, vs, hvs⟩ := ht t (List.mem_of_getElem? hti)
    have hcT : c.2.2.1 1 (l0.length + i) = some t := hp.2.2 _ t (by rw [List.getElem?_append_right (by omega), Nat.add_sub_cancel_left]; exact hti)
    have hne : t < a ∨ a + 24 ≤ t ∨ (a ≤ t ∧ t < a + 24) := by omega
    have hvs2 : (xW E (gNew G (gAT E tp.length (tkF tp i)) tp.length) a c).1 t = some (.inr (9, vs)) := by
      rw [← hvs, ← gNew_x ha]
      show va_up (xW E G a c).1 G.2.1 _ t = _
      exact if_neg (by omega)
    refine g_iload d_Pile_take_17 rfl ?_
    refine g_iload_n d_Pile_take_19 rfl ?_
    refine g_icmp_ge (tgt := 47) d_Pile_take_20 (by decide) (fun c_20 => ?_) (fun c_20 => ?_)
    · exact absurd c_20 (ige (by omega) (by omega) (by omega))
    refine g_aload_n d_Pile_take_23 rfl ?_
    refine g_iload d_Pile_take_24 rfl ?_
    refine g_aload_n d_Pile_take_26 rfl ?_
    refine x_get (k := 8) (j := 0) (v := .ref (a + 9)) kc_Pile fl_Pile_11 (by decide) (by decide) rfl rfl d_Pile_take_27 ?_
    refine g_aload_n d_Pile_take_30 rfl ?_
    refine x_get (k := 8) (j := 1) (v := .int (c.1 4)) kc_Pile fl_Pile_17 (by decide) (by decide) rfl rfl d_Pile_take_31 ?_
    refine g_iload_n d_Pile_take_34 rfl ?_
    refine g_isub d_Pile_take_35 ?_
    refine g_iload d_Pile_take_36 rfl ?_
    refine g_iadd d_Pile_take_38 ?_
    refine g_top (nI (l0.length + i)) (by rw [h4, sub_nI (by omega) (by omega), Nat.add_sub_cancel]; exact i_nI (add_hi (nI_hi (by omega)) (nI_hi (by omega)) (by omega))) ?_
    refine g_taldS (j := l0.length + i) (x_at (k := 9) (by decide) rfl) (nI_hi (by omega)) (by omega) hcT d_Pile_take_39 ?_
    refine g_tast (n := tp.length) (ci := 9) (f := tkF tp i) (by rw [xw_o (Or.inr ha)]; exact gNew_at) (nI_hi (by omega)) (by omega) hvs2 rfl d_Pile_take_40 ?_
    rw [gUp_x (by omega), gUp_gNew, tkF_s hti]
    refine g_iinc (v := nI (i + 1)) d_Pile_take_41 rfl (nI_1 i) (by decide) rfl ?_
    refine g_goto (tgt := 17) d_Pile_take_44 (by decide) ?_
    exact ih (i + 1) (by omega)
set_option maxHeartbeats 400000 in
set_option maxRecDepth 100000 in
theorem m_X_take_8 (hp : pil c 1 4 (l0 ++ tp)) (ha : a + 24 ≤ G.2.1) (ht : ∀ t ∈ tp, t < G.2.1 ∧ ∃ vs, (xW E G a c).1 t = some (.inr (9, vs))) (hc : G.2.1 + 1 ≤ E.1.heap.size + room_1.cells) (hs : G.2.2 + tp.length ≤ room_1.slots) : GM E Y_Pile_take (d + 1) [.ref (a + 8), .int (nI tp.length)] (xW E G a c) (rIs (some (.ref G.2.1)) (xW E (gNew G (gAT E tp.length (fun j => tp[j]?)) tp.length) a (cF c 4 (nI l0.length)))) := by
  refine g_entry (by decide) (by simp [Value.category]) (Nat.le_of_ble_eq_true rfl) ?_
  have h40 := hp.2.1
  have hl : (l0 ++ tp).length = l0.length + tp.length := List.length_append
  have h4 : c.1 4 = nI (l0.length + tp.length) := by rw [hp.1, hl]
  refine g_iload_n d_Pile_take_0 rfl ?_
  refine g_aload_n d_Pile_take_1 rfl ?_
  refine x_get (k := 8) (j := 1) (v := .int (c.1 4)) kc_Pile fl_Pile_17 (by decide) (by decide) rfl rfl d_Pile_take_2 ?_
  rw [h4]
  refine c_Sr (as := [.int (nI tp.length), .int (nI (l0.length + tp.length))]) ks_Math_min ml_Pile_34 (m_Math_min _ _) rfl (Nat.le_of_ble_eq_true rfl) rfl d_Pile_take_5 rfl ?_
  refine g_top (nI tp.length) (if_neg (fun z => by have := (lt_hi (nI_hi (by omega)) (nI_hi (by omega))).mp z; omega)) ?_
  refine g_istore_n d_Pile_take_8 (by decide) rfl ?_
  refine g_iload_n d_Pile_take_9 rfl ?_
  refine g_newT (N := tp.length) cl_Pile_9 wo_Term (nI_hi (by omega)) (by omega) (by exact hc) (by exact hs) d_Pile_take_10 ?_
  rw [gNew_x ha, show (fun _ => none) = tkF tp 0 from by funext j; unfold tkF; rw [if_neg (by omega)]]
  refine g_astore_n d_Pile_take_13 (by decide) rfl ?_
  refine g_iconst (v := 0) d_Pile_take_14 (by decide) ?_
  refine g_istore d_Pile_take_15 (by decide) rfl ?_
  exact m_X_takeL_8 hp ha ht ⟨rfl, rfl⟩ tp.length 0 (by omega)
set_option maxHeartbeats 400000 in
set_option maxRecDepth 100000 in
theorem m_X_takeL_10 (hp : pil c 2 5 (l0 ++ tp)) (ha : a + 24 ≤ G.2.1) (ht : ∀ t ∈ tp, t < G.2.1 ∧ ∃ vs, (xW E G a c).1 t = some (.inr (9, vs))) (kk : Q (.inl (some (.ref G.2.1))) (xW E (gNew G (gAT E tp.length (fun j => tp[j]?)) tp.length) a (cF c 5 (nI l0.length)))) : ∀ (w i : Nat), i + w = tp.length → GT E Y_Pile_take (d + 1) G0 17 [(0, .ref (a + 10)), (1, .int (nI tp.length)), (2, .int (nI tp.length)), (3, .ref G.2.1), (4, .int (nI i))] [] (xW E (gNew G (gAT E tp.length (tkF tp i)) tp.length) a c) Q := by
  have h40 := hp.2.1
  have hl : (l0 ++ tp).length = l0.length + tp.length := List.length_append
  have h4 : c.1 5 = nI (l0.length + tp.length) := by rw [hp.1, hl]
  intro w
  induction w with
  | zero =>
    intro i hi
    obtain rfl : i = tp.length := by omega
    rw [tkF_all]
    refine g_iload d_Pile_take_17 rfl ?_
    refine g_iload_n d_Pile_take_19 rfl ?_
    refine g_icmp_ge (tgt := 47) d_Pile_take_20 (by decide) (fun c_20 => ?_) (fun c_20 => ?_)
    rotate_left
    · exact absurd c_20 (fun q => q (Int32.le_refl _))
    refine g_aload_n d_Pile_take_47 rfl ?_
    refine g_dup d_Pile_take_48 rfl ?_
    refine x_get (k := 10) (j := 1) (v := .int (c.1 5)) kc_Pile fl_Pile_17 (by decide) (by decide) rfl rfl d_Pile_take_49 ?_
    refine g_iload_n d_Pile_take_52 rfl ?_
    refine g_isub d_Pile_take_53 ?_
    refine g_top (nI l0.length) (by rw [h4, sub_nI (by omega) (by omega), Nat.add_sub_cancel]) ?_
    refine x_put (c' := (cF c 5 (nI l0.length))) (k := 10) (j := 1) kc_Pile fl_Pile_17 (by decide) (by decide) rfl rfl rfl rfl (Nat.le_of_ble_eq_true rfl) rfl rfl xf_F5 d_Pile_take_54 ?_
    refine g_aload_n d_Pile_take_57 rfl ?_
    refine g_aret rfl (Or.inr ⟨_, rfl⟩) (Or.inr ⟨_, rfl⟩) d_Pile_take_58 ?_
    exact kk
  | succ w ih =>
    intro i hi
    obtain ⟨t, hti⟩ : ∃ t, tp[i]? = some t := ⟨tp[i]'(by omega), List.getElem?_eq_getElem (by omega)⟩
    obtain ⟨htl, vs, hvs⟩ := ht t (List.mem_of_getElem? hti)
    have hcT : c.2.2.1 2 (l0.length + i) = some t := hp.2.2 _ t (by rw [List.getElem?_append_right (by omega), Nat.add_sub_cancel_left]; exact hti)
    have hne : t < a ∨ a + 24 ≤ t ∨ (a ≤ t ∧ t < a + 24) := by omega
    have hvs2 : (xW E (gNew G (gAT E tp.length (tkF tp i)) tp.length) a c).1 t = some (.inr (9, vs)) := by
      rw [← hvs, ← gNew_x ha]
      show va_up (xW E G a c).1 G.2.1 _ t = _
      exact if_neg (by omega)
    refine g_iload d_Pile_take_17 rfl ?_
    refine g_iload_n d_Pile_take_19 rfl ?_
    refine g_icmp_ge (tgt := 47) d_Pile_take_20 (by decide) (fun c_20 => ?_) (fun c_20 => ?_)
    · exact absurd c_20 (ige (by omega) (by omega) (by omega))
    refine g_aload_n d_Pile_take_23 rfl ?_
    refine g_iload d_Pile_take_24 rfl ?_
    refine g_aload_n d_Pile_take_26 rfl ?_
    refine x_get (k := 10) (j := 0) (v := .ref (a + 11)) kc_Pile fl_Pile_11 (by decide) (by decide) rfl rfl d_Pile_take_27 ?_
    refine g_aload_n d_Pile_take_30 rfl ?_
    refine x_get (k := 10) (j := 1) (v := .int (c.1 5)) kc_Pile fl_Pile_17 (by decide) (by decide) rfl rfl d_Pile_take_31 ?_
    refine g_iload_n d_Pile_take_34 rfl ?_
    refine g_isub d_Pile_take_35 ?_
    refine g_iload d_Pile_take_36 rfl ?_
    refine g_iadd d_Pile_take_38 ?_
    refine g_top (nI (l0.length + i)) (by rw [h4, sub_nI (by omega) (by omega), Nat.add_sub_cancel]; exact i_nI (add_hi (nI_hi (by omega)) (nI_hi (by omega)) (by omega))) ?_
    refine g_taldS (j := l0.length + i) (x_at (k := 11) (by decide) rfl) (nI_hi (by omega)) (by omega) hcT d_Pile_take_39 ?_
    refine g_tast (n := tp.length) (ci := 9) (f := tkF tp i) (by rw [xw_o (Or.inr ha)]; exact gNew_at) (nI_hi (by omega)) (by omega) hvs2 rfl d_Pile_take_40 ?_
    rw [gUp_x (by omega), gUp_gNew, tkF_s hti]
    refine g_iinc (v := nI (i + 1)) d_Pile_take_41 rfl (nI_1 i) (by decide) rfl ?_
    refine g_goto (tgt := 17) d_Pile_take_44 (by decide) ?_
    exact ih (i + 1) (by omega)
set_option maxHeartbeats 400000 in
set_option maxRecDepth 100000 in
theorem m_X_take_10 (hp : pil c 2 5 (l0 ++ tp)) (ha : a + 24 ≤ G.2.1) (ht : ∀ t ∈ tp, t < G.2.1 ∧ ∃ vs, (xW E G a c).1 t = some (.inr (9, vs))) (hc : G.2.1 + 1 ≤ E.1.heap.size + room_1.cells) (hs : G.2.2 + tp.length ≤ room_1.slots) : GM E Y_Pile_take (d + 1) [.ref (a + 10), .int (nI tp.length)] (xW E G a c) (rIs (some (.ref G.2.1)) (xW E (gNew G (gAT E tp.length (fun j => tp[j]?)) tp.length) a (cF c 5 (nI l0.length)))) := by
  refine g_entry (by decide) (by simp [Value.category]) (Nat.le_of_ble_eq_true rfl) ?_
  have h40 := hp.2.1
  have hl : (l0 ++ tp).length = l0.length + tp.length := List.length_append
  have h4 : c.1 5 = nI (l0.length + tp.length) := by rw [hp.1, hl]
  refine g_iload_n d_Pile_take_0 rfl ?_
  refine g_aload_n d_Pile_take_1 rfl ?_
  refine x_get (k := 10) (j := 1) (v := .int (c.1 5)) kc_Pile fl_Pile_17 (by decide) (by decide) rfl rfl d_Pile_take_2 ?_
  rw [h4]
  refine c_Sr (as := [.int (nI tp.length), .int (nI (l0.length + tp.length))]) ks_Math_min ml_Pile_34 (m_Math_min _ _) rfl (Nat.le_of_ble_eq_true rfl) rfl d_Pile_take_5 rfl ?_
  refine g_top (nI tp.length) (if_neg (fun z => by have := (lt_hi (nI_hi (by omega)) (nI_hi (by omega))).mp z; omega)) ?_
  refine g_istore_n d_Pile_take_8 (by decide) rfl ?_
  refine g_iload_n d_Pile_take_9 rfl ?_
  refine g_newT (N := tp.length) cl_Pile_9 wo_Term (nI_hi (by omega)) (by omega) (by exact hc) (by exact hs) d_Pile_take_10 ?_
  rw [gNew_x ha, show (fun _ => none) = tkF tp 0 from by funext j; unfold tkF; rw [if_neg (by omega)]]
  refine g_astore_n d_Pile_take_13 (by decide) rfl ?_
  refine g_iconst (v := 0) d_Pile_take_14 (by decide) ?_
  refine g_istore d_Pile_take_15 (by decide) rfl ?_
  exact m_X_takeL_10 hp ha ht ⟨rfl, rfl⟩ tp.length 0 (by omega)
end CX
