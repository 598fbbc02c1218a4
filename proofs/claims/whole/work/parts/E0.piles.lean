/-! The piles -/
theorem d_Pile_take_0 : decode Y_Pile_take.2.1 0 = .ok (.iload_n 1, 1) := by decide +kernel
theorem d_Pile_take_1 : decode Y_Pile_take.2.1 1 = .ok (.aload_n 0, 1) := by decide +kernel
theorem d_Pile_take_2 : decode Y_Pile_take.2.1 2 = .ok (.getfield 17, 3) := by decide +kernel
theorem d_Pile_take_5 : decode Y_Pile_take.2.1 5 = .ok (.invokestatic 34, 3) := by decide +kernel
theorem d_Pile_take_8 : decode Y_Pile_take.2.1 8 = .ok (.istore_n 2, 1) := by decide +kernel
theorem d_Pile_take_9 : decode Y_Pile_take.2.1 9 = .ok (.iload_n 2, 1) := by decide +kernel
theorem d_Pile_take_10 : decode Y_Pile_take.2.1 10 = .ok (.anewarray 9, 3) := by decide +kernel
theorem d_Pile_take_13 : decode Y_Pile_take.2.1 13 = .ok (.astore_n 3, 1) := by decide +kernel
theorem d_Pile_take_14 : decode Y_Pile_take.2.1 14 = .ok (.iconst 0, 1) := by decide +kernel
theorem d_Pile_take_15 : decode Y_Pile_take.2.1 15 = .ok (.istore 4, 2) := by decide +kernel
theorem d_Pile_take_17 : decode Y_Pile_take.2.1 17 = .ok (.iload 4, 2) := by decide +kernel
theorem d_Pile_take_19 : decode Y_Pile_take.2.1 19 = .ok (.iload_n 2, 1) := by decide +kernel
theorem d_Pile_take_20 : decode Y_Pile_take.2.1 20 = .ok (.if_icmp .ge 27, 3) := by decide +kernel
theorem d_Pile_take_23 : decode Y_Pile_take.2.1 23 = .ok (.aload_n 3, 1) := by decide +kernel
theorem d_Pile_take_24 : decode Y_Pile_take.2.1 24 = .ok (.iload 4, 2) := by decide +kernel
theorem d_Pile_take_26 : decode Y_Pile_take.2.1 26 = .ok (.aload_n 0, 1) := by decide +kernel
theorem d_Pile_take_27 : decode Y_Pile_take.2.1 27 = .ok (.getfield 11, 3) := by decide +kernel
theorem d_Pile_take_30 : decode Y_Pile_take.2.1 30 = .ok (.aload_n 0, 1) := by decide +kernel
theorem d_Pile_take_31 : decode Y_Pile_take.2.1 31 = .ok (.getfield 17, 3) := by decide +kernel
theorem d_Pile_take_34 : decode Y_Pile_take.2.1 34 = .ok (.iload_n 2, 1) := by decide +kernel
theorem d_Pile_take_35 : decode Y_Pile_take.2.1 35 = .ok (.isub, 1) := by decide +kernel
theorem d_Pile_take_36 : decode Y_Pile_take.2.1 36 = .ok (.iload 4, 2) := by decide +kernel
theorem d_Pile_take_38 : decode Y_Pile_take.2.1 38 = .ok (.iadd, 1) := by decide +kernel
theorem d_Pile_take_39 : decode Y_Pile_take.2.1 39 = .ok (.aaload, 1) := by decide +kernel
theorem d_Pile_take_40 : decode Y_Pile_take.2.1 40 = .ok (.aastore, 1) := by decide +kernel
theorem d_Pile_take_41 : decode Y_Pile_take.2.1 41 = .ok (.iinc 4 1, 3) := by decide +kernel
theorem d_Pile_take_44 : decode Y_Pile_take.2.1 44 = .ok (.goto (-27), 3) := by decide +kernel
theorem d_Pile_take_47 : decode Y_Pile_take.2.1 47 = .ok (.aload_n 0, 1) := by decide +kernel
theorem d_Pile_take_48 : decode Y_Pile_take.2.1 48 = .ok (.dup, 1) := by decide +kernel
theorem d_Pile_take_49 : decode Y_Pile_take.2.1 49 = .ok (.getfield 17, 3) := by decide +kernel
theorem d_Pile_take_52 : decode Y_Pile_take.2.1 52 = .ok (.iload_n 2, 1) := by decide +kernel
theorem d_Pile_take_53 : decode Y_Pile_take.2.1 53 = .ok (.isub, 1) := by decide +kernel
theorem d_Pile_take_54 : decode Y_Pile_take.2.1 54 = .ok (.putfield 17, 3) := by decide +kernel
theorem d_Pile_take_57 : decode Y_Pile_take.2.1 57 = .ok (.aload_n 3, 1) := by decide +kernel
theorem d_Pile_take_58 : decode Y_Pile_take.2.1 58 = .ok (.areturn, 1) := by decide +kernel
theorem d_Pile_sizeOf_0 : decode Y_Pile_sizeOf.2.1 0 = .ok (.iconst 0, 1) := by decide +kernel
theorem d_Pile_sizeOf_1 : decode Y_Pile_sizeOf.2.1 1 = .ok (.istore_n 2, 1) := by decide +kernel
theorem d_Pile_sizeOf_2 : decode Y_Pile_sizeOf.2.1 2 = .ok (.iconst 0, 1) := by decide +kernel
theorem d_Pile_sizeOf_3 : decode Y_Pile_sizeOf.2.1 3 = .ok (.aload_n 0, 1) := by decide +kernel
theorem d_Pile_sizeOf_4 : decode Y_Pile_sizeOf.2.1 4 = .ok (.getfield 17, 3) := by decide +kernel
theorem d_Pile_sizeOf_7 : decode Y_Pile_sizeOf.2.1 7 = .ok (.iload_n 1, 1) := by decide +kernel
theorem d_Pile_sizeOf_8 : decode Y_Pile_sizeOf.2.1 8 = .ok (.isub, 1) := by decide +kernel
theorem d_Pile_sizeOf_9 : decode Y_Pile_sizeOf.2.1 9 = .ok (.invokestatic 28, 3) := by decide +kernel
theorem d_Pile_sizeOf_12 : decode Y_Pile_sizeOf.2.1 12 = .ok (.istore_n 3, 1) := by decide +kernel
theorem d_Pile_sizeOf_13 : decode Y_Pile_sizeOf.2.1 13 = .ok (.iload_n 3, 1) := by decide +kernel
theorem d_Pile_sizeOf_14 : decode Y_Pile_sizeOf.2.1 14 = .ok (.aload_n 0, 1) := by decide +kernel
theorem d_Pile_sizeOf_15 : decode Y_Pile_sizeOf.2.1 15 = .ok (.getfield 17, 3) := by decide +kernel
theorem d_Pile_sizeOf_18 : decode Y_Pile_sizeOf.2.1 18 = .ok (.if_icmp .ge 21, 3) := by decide +kernel
theorem d_Pile_sizeOf_21 : decode Y_Pile_sizeOf.2.1 21 = .ok (.iload_n 2, 1) := by decide +kernel
theorem d_Pile_sizeOf_22 : decode Y_Pile_sizeOf.2.1 22 = .ok (.aload_n 0, 1) := by decide +kernel
theorem d_Pile_sizeOf_23 : decode Y_Pile_sizeOf.2.1 23 = .ok (.getfield 11, 3) := by decide +kernel
theorem d_Pile_sizeOf_26 : decode Y_Pile_sizeOf.2.1 26 = .ok (.iload_n 3, 1) := by decide +kernel
theorem d_Pile_sizeOf_27 : decode Y_Pile_sizeOf.2.1 27 = .ok (.aaload, 1) := by decide +kernel
theorem d_Pile_sizeOf_28 : decode Y_Pile_sizeOf.2.1 28 = .ok (.getfield 37, 3) := by decide +kernel
theorem d_Pile_sizeOf_31 : decode Y_Pile_sizeOf.2.1 31 = .ok (.iadd, 1) := by decide +kernel
theorem d_Pile_sizeOf_32 : decode Y_Pile_sizeOf.2.1 32 = .ok (.istore_n 2, 1) := by decide +kernel
theorem d_Pile_sizeOf_33 : decode Y_Pile_sizeOf.2.1 33 = .ok (.iinc 3 1, 3) := by decide +kernel
theorem d_Pile_sizeOf_36 : decode Y_Pile_sizeOf.2.1 36 = .ok (.goto (-23), 3) := by decide +kernel
theorem d_Pile_sizeOf_39 : decode Y_Pile_sizeOf.2.1 39 = .ok (.iload_n 2, 1) := by decide +kernel
theorem d_Pile_sizeOf_40 : decode Y_Pile_sizeOf.2.1 40 = .ok (.ireturn, 1) := by decide +kernel
theorem d_Pile_shareNames_0 : decode Y_Pile_shareNames.2.1 0 = .ok (.iconst 0, 1) := by decide +kernel
theorem d_Pile_shareNames_1 : decode Y_Pile_shareNames.2.1 1 = .ok (.istore_n 2, 1) := by decide +kernel
theorem d_Pile_shareNames_2 : decode Y_Pile_shareNames.2.1 2 = .ok (.iconst 0, 1) := by decide +kernel
theorem d_Pile_shareNames_3 : decode Y_Pile_shareNames.2.1 3 = .ok (.aload_n 0, 1) := by decide +kernel
theorem d_Pile_shareNames_4 : decode Y_Pile_shareNames.2.1 4 = .ok (.getfield 17, 3) := by decide +kernel
theorem d_Pile_shareNames_7 : decode Y_Pile_shareNames.2.1 7 = .ok (.iload_n 1, 1) := by decide +kernel
theorem d_Pile_shareNames_8 : decode Y_Pile_shareNames.2.1 8 = .ok (.isub, 1) := by decide +kernel
theorem d_Pile_shareNames_9 : decode Y_Pile_shareNames.2.1 9 = .ok (.invokestatic 28, 3) := by decide +kernel
theorem d_Pile_shareNames_12 : decode Y_Pile_shareNames.2.1 12 = .ok (.istore_n 3, 1) := by decide +kernel
theorem d_Pile_shareNames_13 : decode Y_Pile_shareNames.2.1 13 = .ok (.iload_n 3, 1) := by decide +kernel
theorem d_Pile_shareNames_14 : decode Y_Pile_shareNames.2.1 14 = .ok (.aload_n 0, 1) := by decide +kernel
theorem d_Pile_shareNames_15 : decode Y_Pile_shareNames.2.1 15 = .ok (.getfield 17, 3) := by decide +kernel
theorem d_Pile_shareNames_18 : decode Y_Pile_shareNames.2.1 18 = .ok (.if_icmp .ge 37, 3) := by decide +kernel
theorem d_Pile_shareNames_21 : decode Y_Pile_shareNames.2.1 21 = .ok (.iload_n 2, 1) := by decide +kernel
theorem d_Pile_shareNames_22 : decode Y_Pile_shareNames.2.1 22 = .ok (.aload_n 0, 1) := by decide +kernel
theorem d_Pile_shareNames_23 : decode Y_Pile_shareNames.2.1 23 = .ok (.getfield 11, 3) := by decide +kernel
theorem d_Pile_shareNames_26 : decode Y_Pile_shareNames.2.1 26 = .ok (.iload_n 3, 1) := by decide +kernel
theorem d_Pile_shareNames_27 : decode Y_Pile_shareNames.2.1 27 = .ok (.aaload, 1) := by decide +kernel
theorem d_Pile_shareNames_28 : decode Y_Pile_shareNames.2.1 28 = .ok (.getfield 40, 3) := by decide +kernel
theorem d_Pile_shareNames_31 : decode Y_Pile_shareNames.2.1 31 = .ok (.iand, 1) := by decide +kernel
theorem d_Pile_shareNames_32 : decode Y_Pile_shareNames.2.1 32 = .ok (.ifCond .eq 5, 3) := by decide +kernel
theorem d_Pile_shareNames_35 : decode Y_Pile_shareNames.2.1 35 = .ok (.iconst 1, 1) := by decide +kernel
theorem d_Pile_shareNames_36 : decode Y_Pile_shareNames.2.1 36 = .ok (.ireturn, 1) := by decide +kernel
theorem d_Pile_shareNames_37 : decode Y_Pile_shareNames.2.1 37 = .ok (.iload_n 2, 1) := by decide +kernel
theorem d_Pile_shareNames_38 : decode Y_Pile_shareNames.2.1 38 = .ok (.aload_n 0, 1) := by decide +kernel
theorem d_Pile_shareNames_39 : decode Y_Pile_shareNames.2.1 39 = .ok (.getfield 11, 3) := by decide +kernel
theorem d_Pile_shareNames_42 : decode Y_Pile_shareNames.2.1 42 = .ok (.iload_n 3, 1) := by decide +kernel
theorem d_Pile_shareNames_43 : decode Y_Pile_shareNames.2.1 43 = .ok (.aaload, 1) := by decide +kernel
theorem d_Pile_shareNames_44 : decode Y_Pile_shareNames.2.1 44 = .ok (.getfield 40, 3) := by decide +kernel
theorem d_Pile_shareNames_47 : decode Y_Pile_shareNames.2.1 47 = .ok (.ior, 1) := by decide +kernel
theorem d_Pile_shareNames_48 : decode Y_Pile_shareNames.2.1 48 = .ok (.istore_n 2, 1) := by decide +kernel
theorem d_Pile_shareNames_49 : decode Y_Pile_shareNames.2.1 49 = .ok (.iinc 3 1, 3) := by decide +kernel
theorem d_Pile_shareNames_52 : decode Y_Pile_shareNames.2.1 52 = .ok (.goto (-39), 3) := by decide +kernel
theorem d_Pile_shareNames_55 : decode Y_Pile_shareNames.2.1 55 = .ok (.iconst 0, 1) := by decide +kernel
theorem d_Pile_shareNames_56 : decode Y_Pile_shareNames.2.1 56 = .ok (.ireturn, 1) := by decide +kernel
theorem d_Pile_areAlike_0 : decode Y_Pile_areAlike.2.1 0 = .ok (.iconst 0, 1) := by decide +kernel
theorem d_Pile_areAlike_1 : decode Y_Pile_areAlike.2.1 1 = .ok (.aload_n 0, 1) := by decide +kernel
theorem d_Pile_areAlike_2 : decode Y_Pile_areAlike.2.1 2 = .ok (.getfield 17, 3) := by decide +kernel
theorem d_Pile_areAlike_5 : decode Y_Pile_areAlike.2.1 5 = .ok (.iload_n 1, 1) := by decide +kernel
theorem d_Pile_areAlike_6 : decode Y_Pile_areAlike.2.1 6 = .ok (.isub, 1) := by decide +kernel
theorem d_Pile_areAlike_7 : decode Y_Pile_areAlike.2.1 7 = .ok (.invokestatic 28, 3) := by decide +kernel
theorem d_Pile_areAlike_10 : decode Y_Pile_areAlike.2.1 10 = .ok (.iconst 1, 1) := by decide +kernel
theorem d_Pile_areAlike_11 : decode Y_Pile_areAlike.2.1 11 = .ok (.iadd, 1) := by decide +kernel
theorem d_Pile_areAlike_12 : decode Y_Pile_areAlike.2.1 12 = .ok (.istore_n 2, 1) := by decide +kernel
theorem d_Pile_areAlike_13 : decode Y_Pile_areAlike.2.1 13 = .ok (.iload_n 2, 1) := by decide +kernel
theorem d_Pile_areAlike_14 : decode Y_Pile_areAlike.2.1 14 = .ok (.aload_n 0, 1) := by decide +kernel
theorem d_Pile_areAlike_15 : decode Y_Pile_areAlike.2.1 15 = .ok (.getfield 17, 3) := by decide +kernel
theorem d_Pile_areAlike_18 : decode Y_Pile_areAlike.2.1 18 = .ok (.if_icmp .ge 57, 3) := by decide +kernel
theorem d_Pile_areAlike_21 : decode Y_Pile_areAlike.2.1 21 = .ok (.aload_n 0, 1) := by decide +kernel
theorem d_Pile_areAlike_22 : decode Y_Pile_areAlike.2.1 22 = .ok (.getfield 11, 3) := by decide +kernel
theorem d_Pile_areAlike_25 : decode Y_Pile_areAlike.2.1 25 = .ok (.iload_n 2, 1) := by decide +kernel
theorem d_Pile_areAlike_26 : decode Y_Pile_areAlike.2.1 26 = .ok (.aaload, 1) := by decide +kernel
theorem d_Pile_areAlike_27 : decode Y_Pile_areAlike.2.1 27 = .ok (.getfield 25, 3) := by decide +kernel
theorem d_Pile_areAlike_30 : decode Y_Pile_areAlike.2.1 30 = .ok (.aload_n 0, 1) := by decide +kernel
theorem d_Pile_areAlike_31 : decode Y_Pile_areAlike.2.1 31 = .ok (.getfield 11, 3) := by decide +kernel
theorem d_Pile_areAlike_34 : decode Y_Pile_areAlike.2.1 34 = .ok (.iload_n 2, 1) := by decide +kernel
theorem d_Pile_areAlike_35 : decode Y_Pile_areAlike.2.1 35 = .ok (.iconst 1, 1) := by decide +kernel
theorem d_Pile_areAlike_36 : decode Y_Pile_areAlike.2.1 36 = .ok (.isub, 1) := by decide +kernel
theorem d_Pile_areAlike_37 : decode Y_Pile_areAlike.2.1 37 = .ok (.aaload, 1) := by decide +kernel
theorem d_Pile_areAlike_38 : decode Y_Pile_areAlike.2.1 38 = .ok (.getfield 25, 3) := by decide +kernel
theorem d_Pile_areAlike_41 : decode Y_Pile_areAlike.2.1 41 = .ok (.if_icmp .ne 26, 3) := by decide +kernel
theorem d_Pile_areAlike_44 : decode Y_Pile_areAlike.2.1 44 = .ok (.aload_n 0, 1) := by decide +kernel
theorem d_Pile_areAlike_45 : decode Y_Pile_areAlike.2.1 45 = .ok (.getfield 11, 3) := by decide +kernel
theorem d_Pile_areAlike_48 : decode Y_Pile_areAlike.2.1 48 = .ok (.iload_n 2, 1) := by decide +kernel
theorem d_Pile_areAlike_49 : decode Y_Pile_areAlike.2.1 49 = .ok (.aaload, 1) := by decide +kernel
theorem d_Pile_areAlike_50 : decode Y_Pile_areAlike.2.1 50 = .ok (.getfield 40, 3) := by decide +kernel
theorem d_Pile_areAlike_53 : decode Y_Pile_areAlike.2.1 53 = .ok (.aload_n 0, 1) := by decide +kernel
theorem d_Pile_areAlike_54 : decode Y_Pile_areAlike.2.1 54 = .ok (.getfield 11, 3) := by decide +kernel
theorem d_Pile_areAlike_57 : decode Y_Pile_areAlike.2.1 57 = .ok (.iload_n 2, 1) := by decide +kernel
theorem d_Pile_areAlike_58 : decode Y_Pile_areAlike.2.1 58 = .ok (.iconst 1, 1) := by decide +kernel
theorem d_Pile_areAlike_59 : decode Y_Pile_areAlike.2.1 59 = .ok (.isub, 1) := by decide +kernel
theorem d_Pile_areAlike_60 : decode Y_Pile_areAlike.2.1 60 = .ok (.aaload, 1) := by decide +kernel
theorem d_Pile_areAlike_61 : decode Y_Pile_areAlike.2.1 61 = .ok (.getfield 40, 3) := by decide +kernel
theorem d_Pile_areAlike_64 : decode Y_Pile_areAlike.2.1 64 = .ok (.if_icmp .eq 5, 3) := by decide +kernel
theorem d_Pile_areAlike_67 : decode Y_Pile_areAlike.2.1 67 = .ok (.iconst 0, 1) := by decide +kernel
theorem d_Pile_areAlike_68 : decode Y_Pile_areAlike.2.1 68 = .ok (.ireturn, 1) := by decide +kernel
theorem d_Pile_areAlike_69 : decode Y_Pile_areAlike.2.1 69 = .ok (.iinc 2 1, 3) := by decide +kernel
theorem d_Pile_areAlike_72 : decode Y_Pile_areAlike.2.1 72 = .ok (.goto (-59), 3) := by decide +kernel
theorem d_Pile_areAlike_75 : decode Y_Pile_areAlike.2.1 75 = .ok (.iconst 1, 1) := by decide +kernel
theorem d_Pile_areAlike_76 : decode Y_Pile_areAlike.2.1 76 = .ok (.ireturn, 1) := by decide +kernel
section CW
variable {E : gE} {d : Nat} {G G0 : gS} {a : Nat} {c c' c0 c1 : cS} {u u' u2 u0 : uS} {n n' n2 n1 sl sl' sl2 : Nat} {Q : gO → gS → Prop} {l l0 tp : List Nat}
/-- a pile: the terms on it, the lowest first -/
def pil (c : cS) (j h : Nat) (l : List Nat) : Prop := c.1 h = nI l.length ∧ l.length ≤ 40 ∧ ∀ i t, l[i]? = some t → c.2.2.1 j i = some t
def pilT (u : uS) (a : Nat) (l : List Nat) : Prop := ∀ t ∈ l, zIs u a t 7
theorem max_0 {k : Nat} (hk : k < 2 ^ 31) : (if (0 : Int32) < nI k then nI k else 0) = nI k := by
  have := max_nI (x := 0) (y := k) (by omega) hk
  rw [Nat.zero_max] at this
  exact this
theorem sub_nI {x y : Nat} (hx : x < 2 ^ 31) (h : y ≤ x) : nI x - nI y = nI (x - y) := i_nI (sub_hi (nI_hi hx) (nI_hi (by omega)) h)
/-- sizes one behind another -/
def szF (u : uS) : Int32 → List Nat → Int32
  | s, [] => s
  | s, t :: r => szF u (s + u.2.2.1 t 4) r
/-- a name stands in two of them -/
def shF (u : uS) : Int32 → List Nat → Int32
  | _, [] => 0
  | s, t :: r => if s &&& u.2.2.1 t 6 = 0 then shF u (s ||| u.2.2.1 t 6) r else 1
set_option maxHeartbeats 400000 in
set_option maxRecDepth 100000 in
theorem m_Y_top_8 (hp : pil c 1 4 l) (hz : pilT u a l) {k t : Nat} (hk : k < l.length) (ht : l[l.length - 1 - k]? = some t) : GM E Y_Pile_fromTop d [.ref (a + 8), .int (nI k)] (yW E G a c u n sl) (rIs (some (.ref t)) (yW E G a c u n sl)) := by
  refine g_entry (by decide) (by simp [Value.category]) (Nat.le_of_ble_eq_true rfl) ?_
  have h40 := hp.2.1
  refine g_iload_n d_Pile_fromTop_0 rfl ?_
  refine g_if_lt (tgt := 28) d_Pile_fromTop_1 (by decide) (fun c_1 => ?_) (fun c_1 => ?_)
  · exact absurd c_1 (nlt_hi (nI_hi (by omega)))
  refine g_iload_n d_Pile_fromTop_4 rfl ?_
  refine g_aload_n d_Pile_fromTop_5 rfl ?_
  refine x_get (k := 8) (j := 1) (v := .int (c.1 4)) kc_Pile fl_Pile_17 (by decide) (by decide) rfl rfl d_Pile_fromTop_6 ?_
  rw [hp.1]
  refine g_icmp_ge (tgt := 28) d_Pile_fromTop_9 (by decide) (fun c_9 => ?_) (fun c_9 => ?_)
  · exact absurd c_9 (ige (by omega) (by omega) hk)
  refine g_aload_n d_Pile_fromTop_12 rfl ?_
  refine x_get (k := 8) (j := 0) (v := .ref (a + 9)) kc_Pile fl_Pile_11 (by decide) (by decide) rfl rfl d_Pile_fromTop_13 ?_
  refine g_aload_n d_Pile_fromTop_16 rfl ?_
  refine x_get (k := 8) (j := 1) (v := .int (c.1 4)) kc_Pile fl_Pile_17 (by decide) (by decide) rfl rfl d_Pile_fromTop_17 ?_
  rw [hp.1]
  refine g_iconst (v := 1) d_Pile_fromTop_20 (by decide) ?_
  refine g_isub d_Pile_fromTop_21 ?_
  refine g_iload_n d_Pile_fromTop_22 rfl ?_
  refine g_isub d_Pile_fromTop_23 ?_
  refine g_taldS (j := l.length - 1 - k) (x_at (k := 9) (by decide) rfl) (by rw [show nI l.length - 1 = nI (l.length - 1) from sub_nI (y := 1) (by omega) (by omega), sub_nI (by omega) (by omega)]; exact nI_hi (by omega)) (by omega) (hp.2.2 _ t ht) d_Pile_fromTop_24 ?_
  refine g_goto (tgt := 29) d_Pile_fromTop_25 (by decide) ?_
  refine g_aret rfl (by first | exact Or.inl ⟨_, rfl⟩ | exact Or.inr ⟨_, rfl⟩) (by first | exact Or.inl rfl | exact Or.inr ⟨_, rfl⟩) d_Pile_fromTop_29 ?_
  exact ⟨rfl, rfl⟩
set_option maxHeartbeats 400000 in
set_option maxRecDepth 100000 in
theorem m_Y_topN_8 (h : c.1 4 = 0) : GM E Y_Pile_fromTop d [.ref (a + 8), .int 0] (yW E G a c u n sl) (rIs (some .null) (yW E G a c u n sl)) := by
  refine g_entry (by decide) (by simp [Value.category]) (Nat.le_of_ble_eq_true rfl) ?_
  refine g_iload_n d_Pile_fromTop_0 rfl ?_
  refine g_if_lt (tgt := 28) d_Pile_fromTop_1 (by decide) (fun c_1 => absurd c_1 (by decide)) (fun c_1 => ?_)
  refine g_iload_n d_Pile_fromTop_4 rfl ?_
  refine g_aload_n d_Pile_fromTop_5 rfl ?_
  refine x_get (k := 8) (j := 1) (v := .int (c.1 4)) kc_Pile fl_Pile_17 (by decide) (by decide) rfl rfl d_Pile_fromTop_6 ?_
  rw [h]
  refine g_icmp_ge (tgt := 28) d_Pile_fromTop_9 (by decide) (fun c_9 => ?_) (fun c_9 => ?_)
  rotate_left
  · exact absurd c_9 (fun q => q (Int32.le_refl _))
  refine g_null d_Pile_fromTop_28 ?_
  refine g_aret rfl (by first | exact Or.inl ⟨_, rfl⟩ | exact Or.inr ⟨_, rfl⟩) (by first | exact Or.inl rfl | exact Or.inr ⟨_, rfl⟩) d_Pile_fromTop_29 ?_
  exact ⟨rfl, rfl⟩
set_option maxHeartbeats 400000 in
set_option maxRecDepth 100000 in
theorem m_Y_type_8 (hp : pil c 1 4 l) (hz : pilT u a l) {k t : Nat} (hk : k < l.length) (ht : l[l.length - 1 - k]? = some t) : GM E Y_Pile_typeAt (d + 1) [.ref (a + 8), .int (nI k)] (yW E G a c u n sl) (rIs (some (.int (u.2.2.1 t 0))) (yW E G a c u n sl)) := by
  refine g_entry (by decide) (by simp [Value.category]) (Nat.le_of_ble_eq_true rfl) ?_
  have hzt := hz t (List.mem_of_getElem? ht)
  refine g_aload_n d_Pile_typeAt_0 rfl ?_
  refine g_iload_n d_Pile_typeAt_1 rfl ?_
  refine c_Vr (as := [.int (nI k)]) kv_Pile_fromTop ml_Pile_21 rfl (x_at (k := 8) (by decide) rfl) (m_Y_top_8 hp hz hk ht) rfl (Nat.le_of_ble_eq_true rfl) rfl d_Pile_typeAt_2 rfl ?_
  refine g_astore_n d_Pile_typeAt_5 (by decide) rfl ?_
  refine g_aload_n d_Pile_typeAt_6 rfl ?_
  refine g_ifnonnull (tgt := 14) d_Pile_typeAt_7 (by decide) ?_
  refine g_aload_n d_Pile_typeAt_14 rfl ?_
  refine z_get (k := 7) (j := 0) (v := .int (u.2.2.1 t 0)) kc_Term fl_Pile_25 (by decide) hzt (by decide) rfl rfl d_Pile_typeAt_15 ?_
  refine g_iret rfl d_Pile_typeAt_18 ?_
  exact ⟨rfl, rfl⟩
set_option maxHeartbeats 400000 in
set_option maxRecDepth 100000 in
theorem m_Y_full_8 (hp : pil c 1 4 l) (hz : pilT u a l) : GM E Y_Pile_isFull d [.ref (a + 8)] (yW E G a c u n sl) (rIs (some (.int (if l.length = 40 then 1 else 0))) (yW E G a c u n sl)) := by
  refine g_entry (by decide) (by simp [Value.category]) (Nat.le_of_ble_eq_true rfl) ?_
  have h40 := hp.2.1
  by_cases hf : l.length = 40
  · rw [if_pos hf]
    refine g_aload_n d_Pile_isFull_0 rfl ?_
    refine x_get (k := 8) (j := 1) (v := .int (c.1 4)) kc_Pile fl_Pile_17 (by decide) (by decide) rfl rfl d_Pile_isFull_1 ?_
    rw [hp.1]
    refine g_bipush (v := 40) d_Pile_isFull_4 (by decide) ?_
    refine g_icmp_lt (tgt := 13) d_Pile_isFull_6 (by decide) (fun c_6 => ?_) (fun c_6 => ?_)
    · exact absurd c_6 (fun q => by have := (lt_hi (nI_hi (by omega)) (show (40 : Int32).toInt = ((40 : Nat) : Int) by decide)).mp q; omega)
    refine g_iconst (v := 1) d_Pile_isFull_9 (by decide) ?_
    refine g_goto (tgt := 14) d_Pile_isFull_10 (by decide) ?_
    refine g_zret rfl rfl d_Pile_isFull_14 ?_
    exact ⟨rfl, rfl⟩
  · rw [if_neg hf]
    refine g_aload_n d_Pile_isFull_0 rfl ?_
    refine x_get (k := 8) (j := 1) (v := .int (c.1 4)) kc_Pile fl_Pile_17 (by decide) (by decide) rfl rfl d_Pile_isFull_1 ?_
    rw [hp.1]
    refine g_bipush (v := 40) d_Pile_isFull_4 (by decide) ?_
    refine g_icmp_lt (tgt := 13) d_Pile_isFull_6 (by decide) (fun c_6 => ?_) (fun c_6 => ?_)
    rotate_left
    · exact absurd c_6 (fun q => q ((lt_hi (nI_hi (by omega)) (show (40 : Int32).toInt = ((40 : Nat) : Int) by decide)).mpr (by omega)))
    refine g_iconst (v := 0) d_Pile_isFull_13 (by decide) ?_
    refine g_zret rfl rfl d_Pile_isFull_14 ?_
    exact ⟨rfl, rfl⟩
set_option maxHeartbeats 400000 in
set_option maxRecDepth 100000 in
theorem m_Y_lay_8 (hp : pil c 1 4 l) (hz : pilT u a l) {t : Nat} (hl : l.length < 40) (ht : zIs u a t 7) : GM E Y_Pile_lay d [.ref (a + 8), .ref t] (yW E G a c u n sl) (rPost (some (.int (nI (l.length + 1)))) (fun G' => ∃ c', G' = yW E G a c' u n sl ∧ pil c' 1 4 (l ++ [t]) ∧ (∀ i, i ≠ 4 → c'.1 i = c.1 i) ∧ c'.2.1 = c.2.1 ∧ (∀ i, i ≠ 1 → c'.2.2.1 i = c.2.2.1 i) ∧ c'.2.2.2 = c.2.2.2)) := by
  refine g_entry (by decide) (by simp [Value.category]) (Nat.le_of_ble_eq_true rfl) ?_
  have h40 := hp.2.1
  refine g_aload_n d_Pile_lay_0 rfl ?_
  refine x_get (k := 8) (j := 1) (v := .int (c.1 4)) kc_Pile fl_Pile_17 (by decide) (by decide) rfl rfl d_Pile_lay_1 ?_
  rw [hp.1]
  refine g_bipush (v := 40) d_Pile_lay_4 (by decide) ?_
  refine g_icmp_ge (tgt := 29) d_Pile_lay_6 (by decide) (fun c_6 => ?_) (fun c_6 => ?_)
  · exact absurd c_6 (ige (m := 40) (by omega) (by omega) hl)
  refine g_aload_n d_Pile_lay_9 rfl ?_
  refine x_get (k := 8) (j := 0) (v := .ref (a + 9)) kc_Pile fl_Pile_11 (by decide) (by decide) rfl rfl d_Pile_lay_10 ?_
  refine g_aload_n d_Pile_lay_13 rfl ?_
  refine x_get (k := 8) (j := 1) (v := .int (c.1 4)) kc_Pile fl_Pile_17 (by decide) (by decide) rfl rfl d_Pile_lay_14 ?_
  rw [hp.1]
  refine g_aload_n d_Pile_lay_17 rfl ?_
  refine x_tst (c' := (cT c 1 (l.length) (some (t)))) (k := 9) (q := l.length) (by decide) rfl (nI_hi (by omega)) (by omega) (z_at ht (by decide)) rfl xf_T1 d_Pile_lay_18 ?_
  refine g_aload_n d_Pile_lay_19 rfl ?_
  refine g_dup d_Pile_lay_20 rfl ?_
  refine x_get (k := 8) (j := 1) (v := .int (c.1 4)) kc_Pile fl_Pile_17 (by decide) (by decide) rfl rfl d_Pile_lay_21 ?_
  rw [hp.1]
  refine g_iconst (v := 1) d_Pile_lay_24 (by decide) ?_
  refine g_iadd d_Pile_lay_25 ?_
  refine g_top (nI (l.length + 1)) (nI_1 _) ?_
  refine x_put (c' := (cF (cT c 1 (l.length) (some (t))) 4 (nI (l.length + 1)))) (k := 8) (j := 1) kc_Pile fl_Pile_17 (by decide) (by decide) rfl rfl rfl rfl (Nat.le_of_ble_eq_true rfl) rfl rfl xf_F4 d_Pile_lay_26 ?_
  refine g_aload_n d_Pile_lay_29 rfl ?_
  refine x_get (k := 8) (j := 1) (v := .int (nI (l.length + 1))) kc_Pile fl_Pile_17 (by decide) (by decide) rfl rfl d_Pile_lay_30 ?_
  refine g_iret rfl d_Pile_lay_33 ?_
  refine ⟨rfl, _, rfl, ⟨by rw [List.length_append]; rfl, by rw [List.length_append, List.length_cons, List.length_nil]; omega, fun i s hs => ?_⟩, fun i hi => up_ne hi, rfl, fun i hi => upT_ne hi, rfl⟩
  show (cT c 1 l.length (some t)).2.2.1 1 i = some s
  rw [show (cT c 1 l.length (some t)).2.2.1 1 = va_up (c.2.2.1 1) l.length (some t) from upT_at (A := c.2.2.1) (j := 1) (f := va_up (c.2.2.1 1) l.length (some t))]
  rcases app_get hs with ⟨h1, h2⟩ | ⟨h1, h2⟩
  · exact (if_neg (by omega)).trans (hp.2.2 i s h2)
  · rw [h1, h2]
    exact if_pos rfl
set_option maxHeartbeats 400000 in
set_option maxRecDepth 100000 in
theorem m_Y_sizeOfL_8 {k : Nat} (hz : pilT u a l) (hp : pil c 1 4 l) : ∀ (tp l0 : List Nat) (s : Int32), l = l0 ++ tp → GT E Y_Pile_sizeOf d G0 13 [(0, .ref (a + 8)), (1, .int (nI k)), (2, .int s), (3, .int (nI l0.length))] [] (yW E G a c u n sl) (rIs (some (.int (szF u s tp))) (yW E G a c u n sl)) := by
  have h40 := hp.2.1
  intro tp
  induction tp with
  | nil =>
    intro l0 s e
    have hl : l.length = l0.length := by rw [e]; simp
    refine g_iload_n d_Pile_sizeOf_13 rfl ?_
    refine g_aload_n d_Pile_sizeOf_14 rfl ?_
    refine x_get (k := 8) (j := 1) (v := .int (c.1 4)) kc_Pile fl_Pile_17 (by decide) (by decide) rfl rfl d_Pile_sizeOf_15 ?_
    rw [hp.1, hl]
    refine g_icmp_ge (tgt := 39) d_Pile_sizeOf_18 (by decide) (fun c_18 => ?_) (fun c_18 => ?_)
    rotate_left
    · exact absurd c_18 (fun q => q (Int32.le_refl _))
    refine g_iload_n d_Pile_sizeOf_39 rfl ?_
    refine g_iret rfl d_Pile_sizeOf_40 ?_
    exact ⟨rfl, rfl⟩
  | cons t r ih =>
    intro l0 s e
    have hl : l.length = l0.length + (r.length + 1) := by rw [e]; simp
    have hlt : l[l0.length]? = some t := by rw [e]; exact mid_at
    have hzt := hz t (by rw [e]; simp)
    have e2 : l = (l0 ++ [t]) ++ r := by rw [e]; simp
    have hl2 : (l0 ++ [t]).length = l0.length + 1 := by simp
    simp only [szF]
    have K := ih (l0 ++ [t]) (s + u.2.2.1 t 4) e2
    rw [hl2] at K
    refine g_iload_n d_Pile_sizeOf_13 rfl ?_
    refine g_aload_n d_Pile_sizeOf_14 rfl ?_
    refine x_get (k := 8) (j := 1) (v := .int (c.1 4)) kc_Pile fl_Pile_17 (by decide) (by decide) rfl rfl d_Pile_sizeOf_15 ?_
    rw [hp.1, hl]
    refine g_icmp_ge (tgt := 39) d_Pile_sizeOf_18 (by decide) (fun c_18 => ?_) (fun c_18 => ?_)
    · exact absurd c_18 (ige (by omega) (by omega) (by omega))
    refine g_iload_n d_Pile_sizeOf_21 rfl ?_
    refine g_aload_n d_Pile_sizeOf_22 rfl ?_
    refine x_get (k := 8) (j := 0) (v := .ref (a + 9)) kc_Pile fl_Pile_11 (by decide) (by decide) rfl rfl d_Pile_sizeOf_23 ?_
    refine g_iload_n d_Pile_sizeOf_26 rfl ?_
    refine g_taldS (j := l0.length) (x_at (k := 9) (by decide) rfl) (nI_hi (by omega)) (by omega) (hp.2.2 _ t hlt) d_Pile_sizeOf_27 ?_
    refine z_get (k := 7) (j := 4) (v := .int (u.2.2.1 t 4)) kc_Term fl_Pile_37 (by decide) hzt (by decide) rfl rfl d_Pile_sizeOf_28 ?_
    refine g_iadd d_Pile_sizeOf_31 ?_
    refine g_istore_n d_Pile_sizeOf_32 (by decide) rfl ?_
    refine g_iinc (v := nI (l0.length + 1)) d_Pile_sizeOf_33 rfl (nI_1 _) (by decide) rfl ?_
    refine g_goto (tgt := 13) d_Pile_sizeOf_36 (by decide) ?_
    exact K
set_option maxHeartbeats 400000 in
set_option maxRecDepth 100000 in
theorem m_Y_sizeOf_8 (hp : pil c 1 4 (l0 ++ tp)) (hz : pilT u a (l0 ++ tp)) : GM E Y_Pile_sizeOf (d + 1) [.ref (a + 8), .int (nI tp.length)] (yW E G a c u n sl) (rIs (some (.int (szF u 0 tp))) (yW E G a c u n sl)) := by
  refine g_entry (by decide) (by simp [Value.category]) (Nat.le_of_ble_eq_true rfl) ?_
  have h40 := hp.2.1
  have hl : (l0 ++ tp).length = l0.length + tp.length := List.length_append
  refine g_iconst (v := 0) d_Pile_sizeOf_0 (by decide) ?_
  refine g_istore_n d_Pile_sizeOf_1 (by decide) rfl ?_
  refine g_iconst (v := 0) d_Pile_sizeOf_2 (by decide) ?_
  refine g_aload_n d_Pile_sizeOf_3 rfl ?_
  refine x_get (k := 8) (j := 1) (v := .int (c.1 4)) kc_Pile fl_Pile_17 (by decide) (by decide) rfl rfl d_Pile_sizeOf_4 ?_
  rw [hp.1, hl]
  refine g_iload_n d_Pile_sizeOf_7 rfl ?_
  refine g_isub d_Pile_sizeOf_8 ?_
  refine g_top (nI l0.length) (by rw [sub_nI (by omega) (by omega), Nat.add_sub_cancel]) ?_
  refine c_Sr (as := [.int (0), .int (nI l0.length)]) ks_Math_max ml_Pile_28 (m_Math_max _ _) rfl (Nat.le_of_ble_eq_true rfl) rfl d_Pile_sizeOf_9 rfl ?_
  refine g_top (nI l0.length) (max_0 (by omega)) ?_
  refine g_istore_n d_Pile_sizeOf_12 (by decide) rfl ?_
  exact m_Y_sizeOfL_8 hz hp tp l0 0 rfl
set_option maxHeartbeats 400000 in
set_option maxRecDepth 100000 in
theorem m_Y_shareNamesL_8 {k : Nat} (hz : pilT u a l) (hp : pil c 1 4 l) : ∀ (tp l0 : List Nat) (s : Int32), l = l0 ++ tp → GT E Y_Pile_shareNames d G0 13 [(0, .ref (a + 8)), (1, .int (nI k)), (2, .int s), (3, .int (nI l0.length))] [] (yW E G a c u n sl) (rIs (some (.int (shF u s tp))) (yW E G a c u n sl)) := by
  have h40 := hp.2.1
  intro tp
  induction tp with
  | nil =>
    intro l0 s e
    have hl : l.length = l0.length := by rw [e]; simp
    refine g_iload_n d_Pile_shareNames_13 rfl ?_
    refine g_aload_n d_Pile_shareNames_14 rfl ?_
    refine x_get (k := 8) (j := 1) (v := .int (c.1 4)) kc_Pile fl_Pile_17 (by decide) (by decide) rfl rfl d_Pile_shareNames_15 ?_
    rw [hp.1, hl]
    refine g_icmp_ge (tgt := 55) d_Pile_shareNames_18 (by decide) (fun c_18 => ?_) (fun c_18 => ?_)
    rotate_left
    · exact absurd c_18 (fun q => q (Int32.le_refl _))
    refine g_iconst (v := 0) d_Pile_shareNames_55 (by decide) ?_
    refine g_zret rfl rfl d_Pile_shareNames_56 ?_
    exact ⟨rfl, rfl⟩
  | cons t r ih =>
    intro l0 s e
    have hl : l.length = l0.length + (r.length + 1) := by rw [e]; simp
    have hlt : l[l0.length]? = some t := by rw [e]; exact mid_at
    have hzt := hz t (by rw [e]; simp)
    have e2 : l = (l0 ++ [t]) ++ r := by rw [e]; simp
    have hl2 : (l0 ++ [t]).length = l0.length + 1 := by simp
    simp only [shF]
    have K := ih (l0 ++ [t]) (s ||| u.2.2.1 t 6) e2
    rw [hl2] at K
    by_cases hs : s &&& u.2.2.1 t 6 = 0
    · rw [if_pos hs]
      refine g_iload_n d_Pile_shareNames_13 rfl ?_
      refine g_aload_n d_Pile_shareNames_14 rfl ?_
      refine x_get (k := 8) (j := 1) (v := .int (c.1 4)) kc_Pile fl_Pile_17 (by decide) (by decide) rfl rfl d_Pile_shareNames_15 ?_
      rw [hp.1, hl]
      refine g_icmp_ge (tgt := 55) d_Pile_shareNames_18 (by decide) (fun c_18 => ?_) (fun c_18 => ?_)
      · exact absurd c_18 (ige (by omega) (by omega) (by omega))
      refine g_iload_n d_Pile_shareNames_21 rfl ?_
      refine g_aload_n d_Pile_shareNames_22 rfl ?_
      refine x_get (k := 8) (j := 0) (v := .ref (a + 9)) kc_Pile fl_Pile_11 (by decide) (by decide) rfl rfl d_Pile_shareNames_23 ?_
      refine g_iload_n d_Pile_shareNames_26 rfl ?_
      refine g_taldS (j := l0.length) (x_at (k := 9) (by decide) rfl) (nI_hi (by omega)) (by omega) (hp.2.2 _ t hlt) d_Pile_shareNames_27 ?_
      refine z_get (k := 7) (j := 6) (v := .int (u.2.2.1 t 6)) kc_Term fl_Pile_40 (by decide) hzt (by decide) rfl rfl d_Pile_shareNames_28 ?_
      refine g_iand d_Pile_shareNames_31 ?_
      refine g_if_eq (tgt := 37) d_Pile_shareNames_32 (by decide) (fun c_32 => ?_) (fun c_32 => ?_)
      rotate_left
      · exact absurd c_32 (fun q => q hs)
      refine g_iload_n d_Pile_shareNames_37 rfl ?_
      refine g_aload_n d_Pile_shareNames_38 rfl ?_
      refine x_get (k := 8) (j := 0) (v := .ref (a + 9)) kc_Pile fl_Pile_11 (by decide) (by decide) rfl rfl d_Pile_shareNames_39 ?_
      refine g_iload_n d_Pile_shareNames_42 rfl ?_
      refine g_taldS (j := l0.length) (x_at (k := 9) (by decide) rfl) (nI_hi (by omega)) (by omega) (hp.2.2 _ t hlt) d_Pile_shareNames_43 ?_
      refine z_get (k := 7) (j := 6) (v := .int (u.2.2.1 t 6)) kc_Term fl_Pile_40 (by decide) hzt (by decide) rfl rfl d_Pile_shareNames_44 ?_
      refine g_ior d_Pile_shareNames_47 ?_
      refine g_istore_n d_Pile_shareNames_48 (by decide) rfl ?_
      refine g_iinc (v := nI (l0.length + 1)) d_Pile_shareNames_49 rfl (nI_1 _) (by decide) rfl ?_
      refine g_goto (tgt := 13) d_Pile_shareNames_52 (by decide) ?_
      exact K
    · rw [if_neg hs]
      refine g_iload_n d_Pile_shareNames_13 rfl ?_
      refine g_aload_n d_Pile_shareNames_14 rfl ?_
      refine x_get (k := 8) (j := 1) (v := .int (c.1 4)) kc_Pile fl_Pile_17 (by decide) (by decide) rfl rfl d_Pile_shareNames_15 ?_
      rw [hp.1, hl]
      refine g_icmp_ge (tgt := 55) d_Pile_shareNames_18 (by decide) (fun c_18 => ?_) (fun c_18 => ?_)
      · exact absurd c_18 (ige (by omega) (by omega) (by omega))
      refine g_iload_n d_Pile_shareNames_21 rfl ?_
      refine g_aload_n d_Pile_shareNames_22 rfl ?_
      refine x_get (k := 8) (j := 0) (v := .ref (a + 9)) kc_Pile fl_Pile_11 (by decide) (by decide) rfl rfl d_Pile_shareNames_23 ?_
      refine g_iload_n d_Pile_shareNames_26 rfl ?_
      refine g_taldS (j := l0.length) (x_at (k := 9) (by decide) rfl) (nI_hi (by omega)) (by omega) (hp.2.2 _ t hlt) d_Pile_shareNames_27 ?_
      refine z_get (k := 7) (j := 6) (v := .int (u.2.2.1 t 6)) kc_Term fl_Pile_40 (by decide) hzt (by decide) rfl rfl d_Pile_shareNames_28 ?_
      refine g_iand d_Pile_shareNames_31 ?_
      refine g_if_eq (tgt := 37) d_Pile_shareNames_32 (by decide) (fun c_32 => ?_) (fun c_32 => ?_)
      · exact absurd c_32 hs
      refine g_iconst (v := 1) d_Pile_shareNames_35 (by decide) ?_
      refine g_zret rfl rfl d_Pile_shareNames_36 ?_
      exact ⟨rfl, rfl⟩
set_option maxHeartbeats 400000 in
set_option maxRecDepth 100000 in
theorem m_Y_shareNames_8 (hp : pil c 1 4 (l0 ++ tp)) (hz : pilT u a (l0 ++ tp)) : GM E Y_Pile_shareNames (d + 1) [.ref (a + 8), .int (nI tp.length)] (yW E G a c u n sl) (rIs (some (.int (shF u 0 tp))) (yW E G a c u n sl)) := by
  refine g_entry (by decide) (by simp [Value.category]) (Nat.le_of_ble_eq_true rfl) ?_
  have h40 := hp.2.1
  have hl : (l0 ++ tp).length = l0.length + tp.length := List.length_append
  refine g_iconst (v := 0) d_Pile_shareNames_0 (by decide) ?_
  refine g_istore_n d_Pile_shareNames_1 (by decide) rfl ?_
  refine g_iconst (v := 0) d_Pile_shareNames_2 (by decide) ?_
  refine g_aload_n d_Pile_shareNames_3 rfl ?_
  refine x_get (k := 8) (j := 1) (v := .int (c.1 4)) kc_Pile fl_Pile_17 (by decide) (by decide) rfl rfl d_Pile_shareNames_4 ?_
  rw [hp.1, hl]
  refine g_iload_n d_Pile_shareNames_7 rfl ?_
  refine g_isub d_Pile_shareNames_8 ?_
  refine g_top (nI l0.length) (by rw [sub_nI (by omega) (by omega), Nat.add_sub_cancel]) ?_
  refine c_Sr (as := [.int (0), .int (nI l0.length)]) ks_Math_max ml_Pile_28 (m_Math_max _ _) rfl (Nat.le_of_ble_eq_true rfl) rfl d_Pile_shareNames_9 rfl ?_
  refine g_top (nI l0.length) (max_0 (by omega)) ?_
  refine g_istore_n d_Pile_shareNames_12 (by decide) rfl ?_
  exact m_Y_shareNamesL_8 hz hp tp l0 0 rfl
set_option maxHeartbeats 400000 in
set_option maxRecDepth 100000 in
theorem m_Y_top_10 (hp : pil c 2 5 l) (hz : pilT u a l) {k t : Nat} (hk : k < l.length) (ht : l[l.length - 1 - k]? = some t) : GM E Y_Pile_fromTop d [.ref (a + 10), .int (nI k)] (yW E G a c u n sl) (rIs (some (.ref t)) (yW E G a c u n sl)) := by
  refine g_entry (by decide) (by simp [Value.category]) (Nat.le_of_ble_eq_true rfl) ?_
  have h40 := hp.2.1
  refine g_iload_n d_Pile_fromTop_0 rfl ?_
  refine g_if_lt (tgt := 28) d_Pile_fromTop_1 (by decide) (fun c_1 => ?_) (fun c_1 => ?_)
  · exact absurd c_1 (nlt_hi (nI_hi (by omega)))
  refine g_iload_n d_Pile_fromTop_4 rfl ?_
  refine g_aload_n d_Pile_fromTop_5 rfl ?_
  refine x_get (k := 10) (j := 1) (v := .int (c.1 5)) kc_Pile fl_Pile_17 (by decide) (by decide) rfl rfl d_Pile_fromTop_6 ?_
  rw [hp.1]
  refine g_icmp_ge (tgt := 28) d_Pile_fromTop_9 (by decide) (fun c_9 => ?_) (fun c_9 => ?_)
  · exact absurd c_9 (ige (by omega) (by omega) hk)
  refine g_aload_n d_Pile_fromTop_12 rfl ?_
  refine x_get (k := 10) (j := 0) (v := .ref (a + 11)) kc_Pile fl_Pile_11 (by decide) (by decide) rfl rfl d_Pile_fromTop_13 ?_
  refine g_aload_n d_Pile_fromTop_16 rfl ?_
  refine x_get (k := 10) (j := 1) (v := .int (c.1 5)) kc_Pile fl_Pile_17 (by decide) (by decide) rfl rfl d_Pile_fromTop_17 ?_
  rw [hp.1]
  refine g_iconst (v := 1) d_Pile_fromTop_20 (by decide) ?_
  refine g_isub d_Pile_fromTop_21 ?_
  refine g_iload_n d_Pile_fromTop_22 rfl ?_
  refine g_isub d_Pile_fromTop_23 ?_
  refine g_taldS (j := l.length - 1 - k) (x_at (k := 11) (by decide) rfl) (by rw [show nI l.length - 1 = nI (l.length - 1) from sub_nI (y := 1) (by omega) (by omega), sub_nI (by omega) (by omega)]; exact nI_hi (by omega)) (by omega) (hp.2.2 _ t ht) d_Pile_fromTop_24 ?_
  refine g_goto (tgt := 29) d_Pile_fromTop_25 (by decide) ?_
  refine g_aret rfl (by first | exact Or.inl ⟨_, rfl⟩ | exact Or.inr ⟨_, rfl⟩) (by first | exact Or.inl rfl | exact Or.inr ⟨_, rfl⟩) d_Pile_fromTop_29 ?_
  exact ⟨rfl, rfl⟩
set_option maxHeartbeats 400000 in
set_option maxRecDepth 100000 in
theorem m_Y_topN_10 (h : c.1 5 = 0) : GM E Y_Pile_fromTop d [.ref (a + 10), .int 0] (yW E G a c u n sl) (rIs (some .null) (yW E G a c u n sl)) := by
  refine g_entry (by decide) (by simp [Value.category]) (Nat.le_of_ble_eq_true rfl) ?_
  refine g_iload_n d_Pile_fromTop_0 rfl ?_
  refine g_if_lt (tgt := 28) d_Pile_fromTop_1 (by decide) (fun c_1 => absurd c_1 (by decide)) (fun c_1 => ?_)
  refine g_iload_n d_Pile_fromTop_4 rfl ?_
  refine g_aload_n d_Pile_fromTop_5 rfl ?_
  refine x_get (k := 10) (j := 1) (v := .int (c.1 5)) kc_Pile fl_Pile_17 (by decide) (by decide) rfl rfl d_Pile_fromTop_6 ?_
  rw [h]
  refine g_icmp_ge (tgt := 28) d_Pile_fromTop_9 (by decide) (fun c_9 => ?_) (fun c_9 => ?_)
  rotate_left
  · exact absurd c_9 (fun q => q (Int32.le_refl _))
  refine g_null d_Pile_fromTop_28 ?_
  refine g_aret rfl (by first | exact Or.inl ⟨_, rfl⟩ | exact Or.inr ⟨_, rfl⟩) (by first | exact Or.inl rfl | exact Or.inr ⟨_, rfl⟩) d_Pile_fromTop_29 ?_
  exact ⟨rfl, rfl⟩
set_option maxHeartbeats 400000 in
set_option maxRecDepth 100000 in
theorem m_Y_type_10 (hp : pil c 2 5 l) (hz : pilT u a l) {k t : Nat} (hk : k < l.length) (ht : l[l.length - 1 - k]? = some t) : GM E Y_Pile_typeAt (d + 1) [.ref (a + 10), .int (nI k)] (yW E G a c u n sl) (rIs (some (.int (u.2.2.1 t 0))) (yW E G a c u n sl)) := by
  refine g_entry (by decide) (by simp [Value.category]) (Nat.le_of_ble_eq_true rfl) ?_
  have hzt := hz t (List.mem_of_getElem? ht)
  refine g_aload_n d_Pile_typeAt_0 rfl ?_
  refine g_iload_n d_Pile_typeAt_1 rfl ?_
  refine c_Vr (as := [.int (nI k)]) kv_Pile_fromTop ml_Pile_21 rfl (x_at (k := 10) (by decide) rfl) (m_Y_top_10 hp hz hk ht) rfl (Nat.le_of_ble_eq_true rfl) rfl d_Pile_typeAt_2 rfl ?_
  refine g_astore_n d_Pile_typeAt_5 (by decide) rfl ?_
  refine g_aload_n d_Pile_typeAt_6 rfl ?_
  refine g_ifnonnull (tgt := 14) d_Pile_typeAt_7 (by decide) ?_
  refine g_aload_n d_Pile_typeAt_14 rfl ?_
  refine z_get (k := 7) (j := 0) (v := .int (u.2.2.1 t 0)) kc_Term fl_Pile_25 (by decide) hzt (by decide) rfl rfl d_Pile_typeAt_15 ?_
  refine g_iret rfl d_Pile_typeAt_18 ?_
  exact ⟨rfl, rfl⟩
set_option maxHeartbeats 400000 in
set_option maxRecDepth 100000 in
theorem m_Y_full_10 (hp : pil c 2 5 l) (hz : pilT u a l) : GM E Y_Pile_isFull d [.ref (a + 10)] (yW E G a c u n sl) (rIs (some (.int (if l.length = 40 then 1 else 0))) (yW E G a c u n sl)) := by
  refine g_entry (by decide) (by simp [Value.category]) (Nat.le_of_ble_eq_true rfl) ?_
  have h40 := hp.2.1
  by_cases hf : l.length = 40
  · rw [if_pos hf]
    refine g_aload_n d_Pile_isFull_0 rfl ?_
    refine x_get (k := 10) (j := 1) (v := .int (c.1 5)) kc_Pile fl_Pile_17 (by decide) (by decide) rfl rfl d_Pile_isFull_1 ?_
    rw [hp.1]
    refine g_bipush (v := 40) d_Pile_isFull_4 (by decide) ?_
    refine g_icmp_lt (tgt := 13) d_Pile_isFull_6 (by decide) (fun c_6 => ?_) (fun c_6 => ?_)
    · exact absurd c_6 (fun q => by have := (lt_hi (nI_hi (by omega)) (show (40 : Int32).toInt = ((40 : Nat) : Int) by decide)).mp q; omega)
    refine g_iconst (v := 1) d_Pile_isFull_9 (by decide) ?_
    refine g_goto (tgt := 14) d_Pile_isFull_10 (by decide) ?_
    refine g_zret rfl rfl d_Pile_isFull_14 ?_
    exact ⟨rfl, rfl⟩
  · rw [if_neg hf]
    refine g_aload_n d_Pile_isFull_0 rfl ?_
    refine x_get (k := 10) (j := 1) (v := .int (c.1 5)) kc_Pile fl_Pile_17 (by decide) (by decide) rfl rfl d_Pile_isFull_1 ?_
    rw [hp.1]
    refine g_bipush (v := 40) d_Pile_isFull_4 (by decide) ?_
    refine g_icmp_lt (tgt := 13) d_Pile_isFull_6 (by decide) (fun c_6 => ?_) (fun c_6 => ?_)
    rotate_left
    · exact absurd c_6 (fun q => q ((lt_hi (nI_hi (by omega)) (show (40 : Int32).toInt = ((40 : Nat) : Int) by decide)).mpr (by omega)))
    refine g_iconst (v := 0) d_Pile_isFull_13 (by decide) ?_
    refine g_zret rfl rfl d_Pile_isFull_14 ?_
    exact ⟨rfl, rfl⟩
set_option maxHeartbeats 400000 in
set_option maxRecDepth 100000 in
theorem m_Y_lay_10 (hp : pil c 2 5 l) (hz : pilT u a l) {t : Nat} (hl : l.length < 40) (ht : zIs u a t 7) : GM E Y_Pile_lay d [.ref (a + 10), .ref t] (yW E G a c u n sl) (rPost (some (.int (nI (l.length + 1)))) (fun G' => ∃ c', G' = yW E G a c' u n sl ∧ pil c' 2 5 (l ++ [t]) ∧ (∀ i, i ≠ 5 → c'.1 i = c.1 i) ∧ c'.2.1 = c.2.1 ∧ (∀ i, i ≠ 2 → c'.2.2.1 i = c.2.2.1 i) ∧ c'.2.2.2 = c.2.2.2)) := by
  refine g_entry (by decide) (by simp [Value.category]) (Nat.le_of_ble_eq_true rfl) ?_
  have h40 := hp.2.1
  refine g_aload_n d_Pile_lay_0 rfl ?_
  refine x_get (k := 10) (j := 1) (v := .int (c.1 5)) kc_Pile fl_Pile_17 (by decide) (by decide) rfl rfl d_Pile_lay_1 ?_
  rw [hp.1]
  refine g_bipush (v := 40) d_Pile_lay_4 (by decide) ?_
  refine g_icmp_ge (tgt := 29) d_Pile_lay_6 (by decide) (fun c_6 => ?_) (fun c_6 => ?_)
  · exact absurd c_6 (ige (m := 40) (by omega) (by omega) hl)
  refine g_aload_n d_Pile_lay_9 rfl ?_
  refine x_get (k := 10) (j := 0) (v := .ref (a + 11)) kc_Pile fl_Pile_11 (by decide) (by decide) rfl rfl d_Pile_lay_10 ?_
  refine g_aload_n d_Pile_lay_13 rfl ?_
  refine x_get (k := 10) (j := 1) (v := .int (c.1 5)) kc_Pile fl_Pile_17 (by decide) (by decide) rfl rfl d_Pile_lay_14 ?_
  rw [hp.1]
  refine g_aload_n d_Pile_lay_17 rfl ?_
  refine x_tst (c' := (cT c 2 (l.length) (some (t)))) (k := 11) (q := l.length) (by decide) rfl (nI_hi (by omega)) (by omega) (z_at ht (by decide)) rfl xf_T2 d_Pile_lay_18 ?_
  refine g_aload_n d_Pile_lay_19 rfl ?_
  refine g_dup d_Pile_lay_20 rfl ?_
  refine x_get (k := 10) (j := 1) (v := .int (c.1 5)) kc_Pile fl_Pile_17 (by decide) (by decide) rfl rfl d_Pile_lay_21 ?_
  rw [hp.1]
  refine g_iconst (v := 1) d_Pile_lay_24 (by decide) ?_
  refine g_iadd d_Pile_lay_25 ?_
  refine g_top (nI (l.length + 1)) (nI_1 _) ?_
  refine x_put (c' := (cF (cT c 2 (l.length) (some (t))) 5 (nI (l.length + 1)))) (k := 10) (j := 1) kc_Pile fl_Pile_17 (by decide) (by decide) rfl rfl rfl rfl (Nat.le_of_ble_eq_true rfl) rfl rfl xf_F5 d_Pile_lay_26 ?_
  refine g_aload_n d_Pile_lay_29 rfl ?_
  refine x_get (k := 10) (j := 1) (v := .int (nI (l.length + 1))) kc_Pile fl_Pile_17 (by decide) (by decide) rfl rfl d_Pile_lay_30 ?_
  refine g_iret rfl d_Pile_lay_33 ?_
  refine ⟨rfl, _, rfl, ⟨by rw [List.length_append]; rfl, by rw [List.length_append, List.length_cons, List.length_nil]; omega, fun i s hs => ?_⟩, fun i hi => up_ne hi, rfl, fun i hi => upT_ne hi, rfl⟩
  show (cT c 2 l.length (some t)).2.2.1 2 i = some s
  rw [show (cT c 2 l.length (some t)).2.2.1 2 = va_up (c.2.2.1 2) l.length (some t) from upT_at (A := c.2.2.1) (j := 2) (f := va_up (c.2.2.1 2) l.length (some t))]
  rcases app_get hs with ⟨h1, h2⟩ | ⟨h1, h2⟩
  · exact (if_neg (by omega)).trans (hp.2.2 i s h2)
  · rw [h1, h2]
    exact if_pos rfl
set_option maxHeartbeats 400000 in
set_option maxRecDepth 100000 in
theorem m_Y_sizeOfL_10 {k : Nat} (hz : pilT u a l) (hp : pil c 2 5 l) : ∀ (tp l0 : List Nat) (s : Int32), l = l0 ++ tp → GT E Y_Pile_sizeOf d G0 13 [(0, .ref (a + 10)), (1, .int (nI k)), (2, .int s), (3, .int (nI l0.length))] [] (yW E G a c u n sl) (rIs (some (.int (szF u s tp))) (yW E G a c u n sl)) := by
  have h40 := hp.2.1
  intro tp
  induction tp with
  | nil =>
    intro l0 s e
    have hl : l.length = l0.length := by rw [e]; simp
    refine g_iload_n d_Pile_sizeOf_13 rfl ?_
    refine g_aload_n d_Pile_sizeOf_14 rfl ?_
    refine x_get (k := 10) (j := 1) (v := .int (c.1 5)) kc_Pile fl_Pile_17 (by decide) (by decide) rfl rfl d_Pile_sizeOf_15 ?_
    rw [hp.1, hl]
    refine g_icmp_ge (tgt := 39) d_Pile_sizeOf_18 (by decide) (fun c_18 => ?_) (fun c_18 => ?_)
    rotate_left
    · exact absurd c_18 (fun q => q (Int32.le_refl _))
    refine g_iload_n d_Pile_sizeOf_39 rfl ?_
    refine g_iret rfl d_Pile_sizeOf_40 ?_
    exact ⟨rfl, rfl⟩
  | cons t r ih =>
    intro l0 s e
    have hl : l.length = l0.length + (r.length + 1) := by rw [e]; simp
    have hlt : l[l0.length]? = some t := by rw [e]; exact mid_at
    have hzt := hz t (by rw [e]; simp)
    have e2 : l = (l0 ++ [t]) ++ r := by rw [e]; simp
    have hl2 : (l0 ++ [t]).length = l0.length + 1 := by simp
    simp only [szF]
    have K := ih (l0 ++ [t]) (s + u.2.2.1 t 4) e2
    rw [hl2] at K
    refine g_iload_n d_Pile_sizeOf_13 rfl ?_
    refine g_aload_n d_Pile_sizeOf_14 rfl ?_
    refine x_get (k := 10) (j := 1) (v := .int (c.1 5)) kc_Pile fl_Pile_17 (by decide) (by decide) rfl rfl d_Pile_sizeOf_15 ?_
    rw [hp.1, hl]
    refine g_icmp_ge (tgt := 39) d_Pile_sizeOf_18 (by decide) (fun c_18 => ?_) (fun c_18 => ?_)
    · exact absurd c_18 (ige (by omega) (by omega) (by omega))
    refine g_iload_n d_Pile_sizeOf_21 rfl ?_
    refine g_aload_n d_Pile_sizeOf_22 rfl ?_
    refine x_get (k := 10) (j := 0) (v := .ref (a + 11)) kc_Pile fl_Pile_11 (by decide) (by decide) rfl rfl d_Pile_sizeOf_23 ?_
    refine g_iload_n d_Pile_sizeOf_26 rfl ?_
    refine g_taldS (j := l0.length) (x_at (k := 11) (by decide) rfl) (nI_hi (by omega)) (by omega) (hp.2.2 _ t hlt) d_Pile_sizeOf_27 ?_
    refine z_get (k := 7) (j := 4) (v := .int (u.2.2.1 t 4)) kc_Term fl_Pile_37 (by decide) hzt (by decide) rfl rfl d_Pile_sizeOf_28 ?_
    refine g_iadd d_Pile_sizeOf_31 ?_
    refine g_istore_n d_Pile_sizeOf_32 (by decide) rfl ?_
    refine g_iinc (v := nI (l0.length + 1)) d_Pile_sizeOf_33 rfl (nI_1 _) (by decide) rfl ?_
    refine g_goto (tgt := 13) d_Pile_sizeOf_36 (by decide) ?_
    exact K
set_option maxHeartbeats 400000 in
set_option maxRecDepth 100000 in
theorem m_Y_sizeOf_10 (hp : pil c 2 5 (l0 ++ tp)) (hz : pilT u a (l0 ++ tp)) : GM E Y_Pile_sizeOf (d + 1) [.ref (a + 10), .int (nI tp.length)] (yW E G a c u n sl) (rIs (some (.int (szF u 0 tp))) (yW E G a c u n sl)) := by
  refine g_entry (by decide) (by simp [Value.category]) (Nat.le_of_ble_eq_true rfl) ?_
  have h40 := hp.2.1
  have hl : (l0 ++ tp).length = l0.length + tp.length := List.length_append
  refine g_iconst (v := 0) d_Pile_sizeOf_0 (by decide) ?_
  refine g_istore_n d_Pile_sizeOf_1 (by decide) rfl ?_
  refine g_iconst (v := 0) d_Pile_sizeOf_2 (by decide) ?_
  refine g_aload_n d_Pile_sizeOf_3 rfl ?_
  refine x_get (k := 10) (j := 1) (v := .int (c.1 5)) kc_Pile fl_Pile_17 (by decide) (by decide) rfl rfl d_Pile_sizeOf_4 ?_
  rw [hp.1, hl]
  refine g_iload_n d_Pile_sizeOf_7 rfl ?_
  refine g_isub d_Pile_sizeOf_8 ?_
  refine g_top (nI l0.length) (by rw [sub_nI (by omega) (by omega), Nat.add_sub_cancel]) ?_
  refine c_Sr (as := [.int (0), .int (nI l0.length)]) ks_Math_max ml_Pile_28 (m_Math_max _ _) rfl (Nat.le_of_ble_eq_true rfl) rfl d_Pile_sizeOf_9 rfl ?_
  refine g_top (nI l0.length) (max_0 (by omega)) ?_
  refine g_istore_n d_Pile_sizeOf_12 (by decide) rfl ?_
  exact m_Y_sizeOfL_10 hz hp tp l0 0 rfl
set_option maxHeartbeats 400000 in
set_option maxRecDepth 100000 in
theorem m_Y_shareNamesL_10 {k : Nat} (hz : pilT u a l) (hp : pil c 2 5 l) : ∀ (tp l0 : List Nat) (s : Int32), l = l0 ++ tp → GT E Y_Pile_shareNames d G0 13 [(0, .ref (a + 10)), (1, .int (nI k)), (2, .int s), (3, .int (nI l0.length))] [] (yW E G a c u n sl) (rIs (some (.int (shF u s tp))) (yW E G a c u n sl)) := by
  have h40 := hp.2.1
  intro tp
  induction tp with
  | nil =>
    intro l0 s e
    have hl : l.length = l0.length := by rw [e]; simp
    refine g_iload_n d_Pile_shareNames_13 rfl ?_
    refine g_aload_n d_Pile_shareNames_14 rfl ?_
    refine x_get (k := 10) (j := 1) (v := .int (c.1 5)) kc_Pile fl_Pile_17 (by decide) (by decide) rfl rfl d_Pile_shareNames_15 ?_
    rw [hp.1, hl]
    refine g_icmp_ge (tgt := 55) d_Pile_shareNames_18 (by decide) (fun c_18 => ?_) (fun c_18 => ?_)
    rotate_left
    · exact absurd c_18 (fun q => q (Int32.le_refl _))
    refine g_iconst (v := 0) d_Pile_shareNames_55 (by decide) ?_
    refine g_zret rfl rfl d_Pile_shareNames_56 ?_
    exact ⟨rfl, rfl⟩
  | cons t r ih =>
    intro l0 s e
    have hl : l.length = l0.length + (r.length + 1) := by rw [e]; simp
    have hlt : l[l0.length]? = some t := by rw [e]; exact mid_at
    have hzt := hz t (by rw [e]; simp)
    have e2 : l = (l0 ++ [t]) ++ r := by rw [e]; simp
    have hl2 : (l0 ++ [t]).length = l0.length + 1 := by simp
    simp only [shF]
    have K := ih (l0 ++ [t]) (s ||| u.2.2.1 t 6) e2
    rw [hl2] at K
    by_cases hs : s &&& u.2.2.1 t 6 = 0
    · rw [if_pos hs]
      refine g_iload_n d_Pile_shareNames_13 rfl ?_
      refine g_aload_n d_Pile_shareNames_14 rfl ?_
      refine x_get (k := 10) (j := 1) (v := .int (c.1 5)) kc_Pile fl_Pile_17 (by decide) (by decide) rfl rfl d_Pile_shareNames_15 ?_
      rw [hp.1, hl]
      refine g_icmp_ge (tgt := 55) d_Pile_shareNames_18 (by decide) (fun c_18 => ?_) (fun c_18 => ?_)
      · exact absurd c_18 (ige (by omega) (by omega) (by omega))
      refine g_iload_n d_Pile_shareNames_21 rfl ?_
      refine g_aload_n d_Pile_shareNames_22 rfl ?_
      refine x_get (k := 10) (j := 0) (v := .ref (a + 11)) kc_Pile fl_Pile_11 (by decide) (by decide) rfl rfl d_Pile_shareNames_23 ?_
      refine g_iload_n d_Pile_shareNames_26 rfl ?_
      refine g_taldS (j := l0.length) (x_at (k := 11) (by decide) rfl) (nI_hi (by omega)) (by omega) (hp.2.2 _ t hlt) d_Pile_shareNames_27 ?_
      refine z_get (k := 7) (j := 6) (v := .int (u.2.2.1 t 6)) kc_Term fl_Pile_40 (by decide) hzt (by decide) rfl rfl d_Pile_shareNames_28 ?_
      refine g_iand d_Pile_shareNames_31 ?_
      refine g_if_eq (tgt := 37) d_Pile_shareNames_32 (by decide) (fun c_32 => ?_) (fun c_32 => ?_)
      rotate_left
      · exact absurd c_32 (fun q => q hs)
      refine g_iload_n d_Pile_shareNames_37 rfl ?_
      refine g_aload_n d_Pile_shareNames_38 rfl ?_
      refine x_get (k := 10) (j := 0) (v := .ref (a + 11)) kc_Pile fl_Pile_11 (by decide) (by decide) rfl rfl d_Pile_shareNames_39 ?_
      refine g_iload_n d_Pile_shareNames_42 rfl ?_
      refine g_taldS (j := l0.length) (x_at (k := 11) (by decide) rfl) (nI_hi (by omega)) (by omega) (hp.2.2 _ t hlt) d_Pile_shareNames_43 ?_
      refine z_get (k := 7) (j := 6) (v := .int (u.2.2.1 t 6)) kc_Term fl_Pile_40 (by decide) hzt (by decide) rfl rfl d_Pile_shareNames_44 ?_
      refine g_ior d_Pile_shareNames_47 ?_
      refine g_istore_n d_Pile_shareNames_48 (by decide) rfl ?_
      refine g_iinc (v := nI (l0.length + 1)) d_Pile_shareNames_49 rfl (nI_1 _) (by decide) rfl ?_
      refine g_goto (tgt := 13) d_Pile_shareNames_52 (by decide) ?_
      exact K
    · rw [if_neg hs]
      refine g_iload_n d_Pile_shareNames_13 rfl ?_
      refine g_aload_n d_Pile_shareNames_14 rfl ?_
      refine x_get (k := 10) (j := 1) (v := .int (c.1 5)) kc_Pile fl_Pile_17 (by decide) (by decide) rfl rfl d_Pile_shareNames_15 ?_
      rw [hp.1, hl]
      refine g_icmp_ge (tgt := 55) d_Pile_shareNames_18 (by decide) (fun c_18 => ?_) (fun c_18 => ?_)
      · exact absurd c_18 (ige (by omega) (by omega) (by omega))
      refine g_iload_n d_Pile_shareNames_21 rfl ?_
      refine g_aload_n d_Pile_shareNames_22 rfl ?_
      refine x_get (k := 10) (j := 0) (v := .ref (a + 11)) kc_Pile fl_Pile_11 (by decide) (by decide) rfl rfl d_Pile_shareNames_23 ?_
      refine g_iload_n d_Pile_shareNames_26 rfl ?_
      refine g_taldS (j := l0.length) (x_at (k := 11) (by decide) rfl) (nI_hi (by omega)) (by omega) (hp.2.2 _ t hlt) d_Pile_shareNames_27 ?_
      refine z_get (k := 7) (j := 6) (v := .int (u.2.2.1 t 6)) kc_Term fl_Pile_40 (by decide) hzt (by decide) rfl rfl d_Pile_shareNames_28 ?_
      refine g_iand d_Pile_shareNames_31 ?_
      refine g_if_eq (tgt := 37) d_Pile_shareNames_32 (by decide) (fun c_32 => ?_) (fun c_32 => ?_)
      · exact absurd c_32 hs
      refine g_iconst (v := 1) d_Pile_shareNames_35 (by decide) ?_
      refine g_zret rfl rfl d_Pile_shareNames_36 ?_
      exact ⟨rfl, rfl⟩
set_option maxHeartbeats 400000 in
set_option maxRecDepth 100000 in
theorem m_Y_shareNames_10 (hp : pil c 2 5 (l0 ++ tp)) (hz : pilT u a (l0 ++ tp)) : GM E Y_Pile_shareNames (d + 1) [.ref (a + 10), .int (nI tp.length)] (yW E G a c u n sl) (rIs (some (.int (shF u 0 tp))) (yW E G a c u n sl)) := by
  refine g_entry (by decide) (by simp [Value.category]) (Nat.le_of_ble_eq_true rfl) ?_
  have h40 := hp.2.1
  have hl : (l0 ++ tp).length = l0.length + tp.length := List.length_append
  refine g_iconst (v := 0) d_Pile_shareNames_0 (by decide) ?_
  refine g_istore_n d_Pile_shareNames_1 (by decide) rfl ?_
  refine g_iconst (v := 0) d_Pile_shareNames_2 (by decide) ?_
  refine g_aload_n d_Pile_shareNames_3 rfl ?_
  refine x_get (k := 10) (j := 1) (v := .int (c.1 5)) kc_Pile fl_Pile_17 (by decide) (by decide) rfl rfl d_Pile_shareNames_4 ?_
  rw [hp.1, hl]
  refine g_iload_n d_Pile_shareNames_7 rfl ?_
  refine g_isub d_Pile_shareNames_8 ?_
  refine g_top (nI l0.length) (by rw [sub_nI (by omega) (by omega), Nat.add_sub_cancel]) ?_
  refine c_Sr (as := [.int (0), .int (nI l0.length)]) ks_Math_max ml_Pile_28 (m_Math_max _ _) rfl (Nat.le_of_ble_eq_true rfl) rfl d_Pile_shareNames_9 rfl ?_
  refine g_top (nI l0.length) (max_0 (by omega)) ?_
  refine g_istore_n d_Pile_shareNames_12 (by decide) rfl ?_
  exact m_Y_shareNamesL_10 hz hp tp l0 0 rfl
end CW
