/-! Places.tell -/
theorem d_Places_tell_0 : decode Y_Places_tell.2.1 0 = .ok (.iload_n 2, 1) := by decide +kernel
theorem d_Places_tell_1 : decode Y_Places_tell.2.1 1 = .ok (.bipush 24, 2) := by decide +kernel
theorem d_Places_tell_3 : decode Y_Places_tell.2.1 3 = .ok (.if_icmp .gt 12, 3) := by decide +kernel
theorem d_Places_tell_6 : decode Y_Places_tell.2.1 6 = .ok (.iload 4, 2) := by decide +kernel
theorem d_Places_tell_8 : decode Y_Places_tell.2.1 8 = .ok (.iconst 2, 1) := by decide +kernel
theorem d_Places_tell_9 : decode Y_Places_tell.2.1 9 = .ok (.iadd, 1) := by decide +kernel
theorem d_Places_tell_10 : decode Y_Places_tell.2.1 10 = .ok (.aload_n 3, 1) := by decide +kernel
theorem d_Places_tell_11 : decode Y_Places_tell.2.1 11 = .ok (.arraylength, 1) := by decide +kernel
theorem d_Places_tell_12 : decode Y_Places_tell.2.1 12 = .ok (.if_icmp .le 6, 3) := by decide +kernel
theorem d_Places_tell_15 : decode Y_Places_tell.2.1 15 = .ok (.iload 4, 2) := by decide +kernel
theorem d_Places_tell_17 : decode Y_Places_tell.2.1 17 = .ok (.ireturn, 1) := by decide +kernel
theorem d_Places_tell_18 : decode Y_Places_tell.2.1 18 = .ok (.aload_n 0, 1) := by decide +kernel
theorem d_Places_tell_19 : decode Y_Places_tell.2.1 19 = .ok (.getfield 12, 3) := by decide +kernel
theorem d_Places_tell_22 : decode Y_Places_tell.2.1 22 = .ok (.iload_n 1, 1) := by decide +kernel
theorem d_Places_tell_23 : decode Y_Places_tell.2.1 23 = .ok (.invokevirtual 26, 3) := by decide +kernel
theorem d_Places_tell_26 : decode Y_Places_tell.2.1 26 = .ok (.checkcast 30, 3) := by decide +kernel
theorem d_Places_tell_29 : decode Y_Places_tell.2.1 29 = .ok (.astore 5, 2) := by decide +kernel
theorem d_Places_tell_31 : decode Y_Places_tell.2.1 31 = .ok (.aload_n 3, 1) := by decide +kernel
theorem d_Places_tell_32 : decode Y_Places_tell.2.1 32 = .ok (.iload 4, 2) := by decide +kernel
theorem d_Places_tell_34 : decode Y_Places_tell.2.1 34 = .ok (.aload 5, 2) := by decide +kernel
theorem d_Places_tell_36 : decode Y_Places_tell.2.1 36 = .ok (.getfield 68, 3) := by decide +kernel
theorem d_Places_tell_39 : decode Y_Places_tell.2.1 39 = .ok (.iastore, 1) := by decide +kernel
theorem d_Places_tell_40 : decode Y_Places_tell.2.1 40 = .ok (.aload_n 3, 1) := by decide +kernel
theorem d_Places_tell_41 : decode Y_Places_tell.2.1 41 = .ok (.iload 4, 2) := by decide +kernel
theorem d_Places_tell_43 : decode Y_Places_tell.2.1 43 = .ok (.iconst 1, 1) := by decide +kernel
theorem d_Places_tell_44 : decode Y_Places_tell.2.1 44 = .ok (.iadd, 1) := by decide +kernel
theorem d_Places_tell_45 : decode Y_Places_tell.2.1 45 = .ok (.aload 5, 2) := by decide +kernel
theorem d_Places_tell_47 : decode Y_Places_tell.2.1 47 = .ok (.getfield 71, 3) := by decide +kernel
theorem d_Places_tell_50 : decode Y_Places_tell.2.1 50 = .ok (.iastore, 1) := by decide +kernel
theorem d_Places_tell_51 : decode Y_Places_tell.2.1 51 = .ok (.iload 4, 2) := by decide +kernel
theorem d_Places_tell_53 : decode Y_Places_tell.2.1 53 = .ok (.iconst 2, 1) := by decide +kernel
theorem d_Places_tell_54 : decode Y_Places_tell.2.1 54 = .ok (.iadd, 1) := by decide +kernel
theorem d_Places_tell_55 : decode Y_Places_tell.2.1 55 = .ok (.istore 6, 2) := by decide +kernel
theorem d_Places_tell_57 : decode Y_Places_tell.2.1 57 = .ok (.iconst 0, 1) := by decide +kernel
theorem d_Places_tell_58 : decode Y_Places_tell.2.1 58 = .ok (.istore 7, 2) := by decide +kernel
theorem d_Places_tell_60 : decode Y_Places_tell.2.1 60 = .ok (.iload 7, 2) := by decide +kernel
theorem d_Places_tell_62 : decode Y_Places_tell.2.1 62 = .ok (.aload 5, 2) := by decide +kernel
theorem d_Places_tell_64 : decode Y_Places_tell.2.1 64 = .ok (.getfield 74, 3) := by decide +kernel
theorem d_Places_tell_67 : decode Y_Places_tell.2.1 67 = .ok (.if_icmp .ge 29, 3) := by decide +kernel
theorem d_Places_tell_70 : decode Y_Places_tell.2.1 70 = .ok (.aload_n 0, 1) := by decide +kernel
theorem d_Places_tell_71 : decode Y_Places_tell.2.1 71 = .ok (.aload 5, 2) := by decide +kernel
theorem d_Places_tell_73 : decode Y_Places_tell.2.1 73 = .ok (.getfield 77, 3) := by decide +kernel
theorem d_Places_tell_76 : decode Y_Places_tell.2.1 76 = .ok (.iload 7, 2) := by decide +kernel
theorem d_Places_tell_78 : decode Y_Places_tell.2.1 78 = .ok (.iadd, 1) := by decide +kernel
theorem d_Places_tell_79 : decode Y_Places_tell.2.1 79 = .ok (.iload_n 2, 1) := by decide +kernel
theorem d_Places_tell_80 : decode Y_Places_tell.2.1 80 = .ok (.iconst 1, 1) := by decide +kernel
theorem d_Places_tell_81 : decode Y_Places_tell.2.1 81 = .ok (.iadd, 1) := by decide +kernel
theorem d_Places_tell_82 : decode Y_Places_tell.2.1 82 = .ok (.aload_n 3, 1) := by decide +kernel
theorem d_Places_tell_83 : decode Y_Places_tell.2.1 83 = .ok (.iload 6, 2) := by decide +kernel
theorem d_Places_tell_85 : decode Y_Places_tell.2.1 85 = .ok (.invokevirtual 64, 3) := by decide +kernel
theorem d_Places_tell_88 : decode Y_Places_tell.2.1 88 = .ok (.istore 6, 2) := by decide +kernel
theorem d_Places_tell_90 : decode Y_Places_tell.2.1 90 = .ok (.iinc 7 1, 3) := by decide +kernel
theorem d_Places_tell_93 : decode Y_Places_tell.2.1 93 = .ok (.goto (-33), 3) := by decide +kernel
theorem d_Places_tell_96 : decode Y_Places_tell.2.1 96 = .ok (.iload 6, 2) := by decide +kernel
theorem d_Places_tell_98 : decode Y_Places_tell.2.1 98 = .ok (.ireturn, 1) := by decide +kernel
theorem d_Places_tellAll_0 : decode Y_Places_tellAll.2.1 0 = .ok (.aload_n 0, 1) := by decide +kernel
theorem d_Places_tellAll_1 : decode Y_Places_tellAll.2.1 1 = .ok (.iconst 0, 1) := by decide +kernel
theorem d_Places_tellAll_2 : decode Y_Places_tellAll.2.1 2 = .ok (.iconst 0, 1) := by decide +kernel
theorem d_Places_tellAll_3 : decode Y_Places_tellAll.2.1 3 = .ok (.aload_n 1, 1) := by decide +kernel
theorem d_Places_tellAll_4 : decode Y_Places_tellAll.2.1 4 = .ok (.iconst 0, 1) := by decide +kernel
theorem d_Places_tellAll_5 : decode Y_Places_tellAll.2.1 5 = .ok (.invokevirtual 64, 3) := by decide +kernel
theorem d_Places_tellAll_8 : decode Y_Places_tellAll.2.1 8 = .ok (.ireturn, 1) := by decide +kernel
theorem d_Tree_fail_0 : decode Y_Tree_fail.2.1 0 = .ok (.aload_n 0, 1) := by decide +kernel
theorem d_Tree_fail_1 : decode Y_Tree_fail.2.1 1 = .ok (.getfield 105, 3) := by decide +kernel
theorem d_Tree_fail_4 : decode Y_Tree_fail.2.1 4 = .ok (.ifCond .ne 18, 3) := by decide +kernel
theorem d_Tree_fail_7 : decode Y_Tree_fail.2.1 7 = .ok (.aload_n 0, 1) := by decide +kernel
theorem d_Tree_fail_8 : decode Y_Tree_fail.2.1 8 = .ok (.aload_n 0, 1) := by decide +kernel
theorem d_Tree_fail_9 : decode Y_Tree_fail.2.1 9 = .ok (.getfield 21, 3) := by decide +kernel
theorem d_Tree_fail_12 : decode Y_Tree_fail.2.1 12 = .ok (.aload_n 0, 1) := by decide +kernel
theorem d_Tree_fail_13 : decode Y_Tree_fail.2.1 13 = .ok (.getfield 36, 3) := by decide +kernel
theorem d_Tree_fail_16 : decode Y_Tree_fail.2.1 16 = .ok (.invokevirtual 181, 3) := by decide +kernel
theorem d_Tree_fail_19 : decode Y_Tree_fail.2.1 19 = .ok (.putfield 96, 3) := by decide +kernel
theorem d_Tree_fail_22 : decode Y_Tree_fail.2.1 22 = .ok (.aload_n 0, 1) := by decide +kernel
theorem d_Tree_fail_23 : decode Y_Tree_fail.2.1 23 = .ok (.dup, 1) := by decide +kernel
theorem d_Tree_fail_24 : decode Y_Tree_fail.2.1 24 = .ok (.getfield 105, 3) := by decide +kernel
theorem d_Tree_fail_27 : decode Y_Tree_fail.2.1 27 = .ok (.iconst 1, 1) := by decide +kernel
theorem d_Tree_fail_28 : decode Y_Tree_fail.2.1 28 = .ok (.iadd, 1) := by decide +kernel
theorem d_Tree_fail_29 : decode Y_Tree_fail.2.1 29 = .ok (.putfield 105, 3) := by decide +kernel
theorem d_Tree_fail_32 : decode Y_Tree_fail.2.1 32 = .ok (.return_, 1) := by decide +kernel
section CG
variable {E : gE} {d : Nat} {G G0 : gS} {a : Nat} {c c' c0 : cS} {u u' u2 u0 : uS} {n n' n0 sl sl' : Nat} {Q : gO → gS → Prop} {B SS : Nat} {P : Nat → Nat → Int32} {t0 X ex : Nat} {plc : Nat → List Nat} {an : aAn} {ks sp ps qs ms : List Nat}
/-- place i is where plc says, with its answer -/
def plC (P : Nat → Nat → Int32) (t0 : Nat) (u : uS) (ps : List Nat) (X : Nat) (plc : Nat → List Nat) (an : aAn) (i : Nat) : Prop := ∃ y, ps[i]? = some y ∧ u.2.2.1 y 0 = nI (plc i).length ∧
  (((an (plc i)).1 = 0 ∧ u.2.2.1 y 1 = 2 ∧ u.2.2.1 y 2 = 0 ∧ u.2.2.1 y 4 = 0) ∨
   ((an (plc i)).1 = 1 ∧ u.2.2.1 y 1 = 0 ∧ u.2.2.1 y 2 = (an (plc i)).2 ∧ u.2.2.1 y 4 = 0) ∨
   ∃ w f ar, w < 8 ∧ (an (plc i)).1 = nI (2 + w) ∧ u.2.2.1 y 1 = 1 ∧ u.2.2.1 y 2 = nI w ∧ u.2.2.1 y 3 = nI f ∧ ar ≤ 4 ∧ u.2.2.1 y 4 = nI ar ∧ P 1 (8 * tyP P t0 (plc i) + w) = nI ar ∧ f + ar ≤ X ∧ ∀ k, k < ar → plc (f + k) = plc i ++ [4 * w + k])
/-- only what is missing has changed, from s on -/
def mtF (c c' : cS) (s : Nat) : Prop := c'.1 = c.1 ∧ (∀ j, j ≠ 5 → c'.2.1 j = c.2.1 j) ∧ c'.2.2 = c.2.2 ∧ ∀ q, q < s → c'.2.1 5 q = c.2.1 5 q
theorem mtF_rf {s : Nat} : mtF c c s := ⟨rfl, fun _ _ => rfl, rfl, fun _ _ => rfl⟩
theorem mtF_tr {s s' : Nat} {c2 : cS} (h : mtF c c' s) (h' : mtF c' c2 s') (hs : s ≤ s') : mtF c c2 s := ⟨h'.1.trans h.1, fun j hj => (h'.2.1 j hj).trans (h.2.1 j hj), h'.2.2.1.trans h.2.2.1, fun q hq => (h'.2.2.2 q (by omega)).trans (h.2.2.2 q hq)⟩
theorem cA5_at {q : Nat} {x : Int32} : (cA c 5 q x).2.1 5 = upd (c.2.1 5) q x := upA_at (A := c.2.1) (j := 5) (f := upd (c.2.1 5) q x)
theorem mtF_A {s q : Nat} {x : Int32} (h : s ≤ q) : mtF c (cA c 5 q x) s := ⟨rfl, fun j hj => upA_ne hj, rfl, fun i hi => by rw [cA5_at]; exact up_ne (by omega)⟩
def mtT (c : cS) (s : Nat) (l : List Int32) : Prop := ∀ i v, l[i]? = some v → c.2.1 5 (s + i) = v
theorem mtT_app {s : Nat} {l r : List Int32} (h : mtT c s l) (h' : mtT c' (s + l.length) r) (hf : mtF c c' (s + l.length)) : mtT c' s (l ++ r) := fun i v hv => by
  rcases Nat.lt_or_ge i l.length with hi | hi
  · rw [List.getElem?_append_left hi] at hv
    rw [hf.2.2.2 _ (by omega)]
    exact h i v hv
  · rw [List.getElem?_append_right hi] at hv
    have := h' _ v hv
    rwa [show s + l.length + (i - l.length) = s + i by omega] at this
theorem mt_hp {s : Nat} (h : hpOk E a B SS c u n sl ks sp ps qs ms) (hF : mtF c c' s) : hpOk E a B SS c' u n sl ks sp ps qs ms := (hpOk_k (c' := c') (K := fun k => k = 5) h kFr_rf (fun k z => Or.inl z) (fun _ => rfl) (fun j _ => by rw [hF.1]) (fun j => by rw [hF.2.2.1])).1
/-- what was told -/
def mtP (c c' : cS) (s : Nat) (l : List Int32) : Prop := mtT c' s l ∧ mtF c c' s
set_option maxHeartbeats 400000 in
set_option maxRecDepth 100000 in
theorem m_P_tl60 {F : List Nat → List Int32} {i dp s y w f ar D : Nat} {π : List Nat} (hz : zIs u a y 5) (e3 : u.2.2.1 y 3 = nI f) (e4 : u.2.2.1 y 4 = nI ar) (hf : f + ar < 10000) (har : ar ≤ 4) (hdp : dp < 100)
    (hM : ∀ k e (c : cS), k < ar → e + (F (π ++ [4 * w + k])).length ≤ 6402 → hpOk E a B SS c u n sl ks sp ps qs ms → GM E Y_Places_tell D [.ref (a + 15), .int (nI (f + k)), .int (nI (dp + 1)), .ref (a + 19), .int (nI e)] (yW E G a c u n sl) (rPost (some (.int (nI (e + (F (π ++ [4 * w + k])).length)))) (fun G' => ∃ c', G' = yW E G a c' u n sl ∧ mtP c c' e (F (π ++ [4 * w + k]))))) :
    ∀ (m k e : Nat) (c : cS), k + m = ar → e + (aTk F π w k m).length ≤ 6402 → hpOk E a B SS c u n sl ks sp ps qs ms → (∀ c', mtP c c' e (aTk F π w k m) → Q (.inl (some (.int (nI (e + (aTk F π w k m).length))))) (yW E G a c' u n sl)) → GT E Y_Places_tell (D + 1) G0 60 [(0, .ref (a + 15)), (1, .int (nI i)), (2, .int (nI dp)), (3, .ref (a + 19)), (4, .int (nI s)), (5, .ref y), (6, .int (nI e)), (7, .int (nI k))] [] (yW E G a c u n sl) Q := by
  intro m
  induction m with
  | zero =>
    intro k e c hk hl h kk
    obtain rfl : k = ar := by omega
    refine g_iload d_Places_tell_60 rfl ?_
    refine g_aload d_Places_tell_62 rfl ?_
    refine z_get (k := 5) (j := 4) (v := .int (u.2.2.1 y 4)) kc_Place fl_Places_74 (by decide) hz (by decide) rfl rfl d_Places_tell_64 ?_
    rw [e4]
    refine g_icmp_ge (tgt := 96) d_Places_tell_67 (by decide) (fun c_67 => ?_) (fun c_67 => ?_)
    rotate_left
    · exact absurd c_67 (fun q => q (Int32.le_refl _))
    refine g_iload d_Places_tell_96 rfl ?_
    refine g_iret rfl d_Places_tell_98 ?_
    exact kk c ⟨fun i v hv => (by cases hv), mtF_rf⟩
  | succ m ih =>
    intro k e c hk hl h kk
    simp only [aTk, List.length_append] at hl kk
    refine g_iload d_Places_tell_60 rfl ?_
    refine g_aload d_Places_tell_62 rfl ?_
    refine z_get (k := 5) (j := 4) (v := .int (u.2.2.1 y 4)) kc_Place fl_Places_74 (by decide) hz (by decide) rfl rfl d_Places_tell_64 ?_
    rw [e4]
    refine g_icmp_ge (tgt := 96) d_Places_tell_67 (by decide) (fun c_67 => ?_) (fun c_67 => ?_)
    · exact absurd c_67 (ige (by omega) (by omega) (by omega))
    refine g_aload_n d_Places_tell_70 rfl ?_
    refine g_aload d_Places_tell_71 rfl ?_
    refine z_get (k := 5) (j := 3) (v := .int (u.2.2.1 y 3)) kc_Place fl_Places_77 (by decide) hz (by decide) rfl rfl d_Places_tell_73 ?_
    rw [e3]
    refine g_iload d_Places_tell_76 rfl ?_
    refine g_iadd d_Places_tell_78 ?_
    refine g_top (nI (f + k)) (i_nI (add_hi (nI_hi (by omega)) (nI_hi (by omega)) (by omega))) ?_
    refine g_iload_n d_Places_tell_79 rfl ?_
    refine g_iconst (v := 1) d_Places_tell_80 (by decide) ?_
    refine g_iadd d_Places_tell_81 ?_
    refine g_top (nI (dp + 1)) (nI_1 dp) ?_
    refine g_aload_n d_Places_tell_82 rfl ?_
    refine g_iload d_Places_tell_83 rfl ?_
    refine c_Vx (as := [.int (nI (f + k)), .int (nI (dp + 1)), .ref (a + 19), .int (nI e)]) kv_Places_tell ml_Places_64 rfl (x_at (k := 15) (by decide) rfl) (hM k e c (by omega) (by omega) h) rfl (Nat.le_of_ble_eq_true rfl) rfl d_Places_tell_85 rfl (fun G_85 h_85 => ?_)
    obtain ⟨c1, rfl, hp1⟩ := h_85
    refine g_istore d_Places_tell_88 (by decide) rfl ?_
    refine g_iinc (v := nI (k + 1)) d_Places_tell_90 rfl (nI_1 k) (by decide) rfl ?_
    refine g_goto (tgt := 60) d_Places_tell_93 (by decide) ?_
    refine ih (k + 1) (e + (F (π ++ [4 * w + k])).length) c1 (by omega) (by omega) (mt_hp h hp1.2) (fun c' hc' => ?_)
    have K := kk c' ⟨mtT_app hp1.1 hc'.1 hc'.2, mtF_tr hp1.2 hc'.2 (by omega)⟩
    rw [← Nat.add_assoc] at K
    exact K
set_option maxHeartbeats 400000 in
set_option maxRecDepth 100000 in
theorem m_P_tell (hX : X ≤ 3300) (hpl : ∀ i, i < X → plC P t0 u ps X plc an i) (h24 : ∀ π, ¬ (an π).1 = 0 → π.length ≤ 23) : ∀ (f i s : Nat) (c : cS), i < X → dOk P t0 an f (plc i) → (plc i).length ≤ 24 → s + (aT P t0 an f (plc i)).length ≤ 6402 → hpOk E a B SS c u n sl ks sp ps qs ms → GM E Y_Places_tell (d + f + 3) [.ref (a + 15), .int (nI i), .int (nI (plc i).length), .ref (a + 19), .int (nI s)] (yW E G a c u n sl) (rPost (some (.int (nI (s + (aT P t0 an f (plc i)).length)))) (fun G' => ∃ c', G' = yW E G a c' u n sl ∧ mtP c c' s (aT P t0 an f (plc i)))) := by
  intro f
  induction f with
  | zero => intro i s c hi hd; exact hd.elim
  | succ f ih =>
    intro i s c hi hd hdp hl h
    obtain ⟨y, hy, y0, hc⟩ := hpl i hi
    have hz := (lOk_get h.2.1 hy).2.2.2.2.1
    have b2 : ∀ v1 v2 : Int32, mtP c (cA (cA c 5 s v1) 5 (s + 1) v2) s [v1, v2] := fun v1 v2 => ⟨fun j v hv => by
      rw [cA5_at]
      match j, hv with
      | 0, hv =>
        cases hv
        rw [up_ne (by omega), cA5_at]
        exact up_at
      | 1, hv =>
        cases hv
        exact up_at
      | j + 2, hv => simp at hv, mtF_tr (mtF_A (Nat.le_refl _)) (mtF_A (q := s + 1) (s := s) (by omega)) (Nat.le_refl _)⟩
    refine g_entry (by decide) (by simp [Value.category]) (Nat.le_of_ble_eq_true rfl) ?_
    simp only [aT] at hl ⊢
    rcases hc with ⟨e0, k1, k2, k4⟩ | ⟨e0, k1, k2, k4⟩ | ⟨w, fp, ar, w8, e0, k1, k2, k3, a4, k4, kP, kX, kp⟩
    · rw [if_pos e0] at hl ⊢
      simp only [List.length_cons, List.length_nil] at hl ⊢
      refine g_iload_n d_Places_tell_0 rfl ?_
      refine g_bipush (v := 24) d_Places_tell_1 (by decide) ?_
      refine g_icmp_gt (tgt := 15) d_Places_tell_3 (by decide) (fun c_3 => ?_) (fun c_3 => ?_)
      · exact absurd c_3 (fun q => by have := (lt_hi (show (24 : Int32).toInt = ((24 : Nat) : Int) by decide) (nI_hi (by omega))).mp q; omega)
      refine g_iload d_Places_tell_6 rfl ?_
      refine g_iconst (v := 2) d_Places_tell_8 (by decide) ?_
      refine g_iadd d_Places_tell_9 ?_
      refine g_aload_n d_Places_tell_10 rfl ?_
      refine g_ilen (x_at (k := 19) (by decide) rfl) rfl d_Places_tell_11 ?_
      refine g_icmp_le (tgt := 18) d_Places_tell_12 (by decide) (fun c_12 => ?_) (fun c_12 => ?_)
      rotate_left
      · exact absurd c_12 (fun q => q ((le_hi (add_hi (nI_hi (by omega)) (show (2 : Int32).toInt = ((2 : Nat) : Int) by decide) (by omega)) (show (Int32.ofNat 6402).toInt = ((6402 : Nat) : Int) by decide)).mpr (by omega)))
      refine g_aload_n d_Places_tell_18 rfl ?_
      refine x_get (k := 15) (j := 0) (v := .ref (a + 16)) kc_Places fl_Places_12 (by decide) (by decide) rfl rfl d_Places_tell_19 ?_
      refine g_iload_n d_Places_tell_22 rfl ?_
      refine c_Vr (as := [.int (nI i)]) kv_ArrayList_get ml_Places_26 rfl (x_at (k := 16) (by decide) rfl) (m_K_get lk_places h.2.1 (by omega) hy) rfl (Nat.le_of_ble_eq_true rfl) rfl d_Places_tell_23 rfl ?_
      refine z_cast (kb := 5) cl_Places_30 rfl hz (by decide) d_Places_tell_26 ?_
      refine g_astore d_Places_tell_29 (by decide) rfl ?_
      refine g_aload_n d_Places_tell_31 rfl ?_
      refine g_iload d_Places_tell_32 rfl ?_
      refine g_aload d_Places_tell_34 rfl ?_
      refine z_get (k := 5) (j := 1) (v := .int (u.2.2.1 y 1)) kc_Place fl_Places_68 (by decide) hz (by decide) rfl rfl d_Places_tell_36 ?_
      rw [k1]
      refine x_ast (c' := (cA c 5 (s) (2))) (k := 19) (q := s) (by decide) rfl (nI_hi (by omega)) (by omega) rfl xf_A5 d_Places_tell_39 ?_
      refine g_aload_n d_Places_tell_40 rfl ?_
      refine g_iload d_Places_tell_41 rfl ?_
      refine g_iconst (v := 1) d_Places_tell_43 (by decide) ?_
      refine g_iadd d_Places_tell_44 ?_
      refine g_aload d_Places_tell_45 rfl ?_
      refine z_get (k := 5) (j := 2) (v := .int (u.2.2.1 y 2)) kc_Place fl_Places_71 (by decide) hz (by decide) rfl rfl d_Places_tell_47 ?_
      rw [k2]
      refine x_ast (c' := (cA (cA c 5 (s) (2)) 5 (s + 1) (0))) (k := 19) (q := s + 1) (by decide) rfl (add_hi (nI_hi (by omega)) (show (1 : Int32).toInt = ((1 : Nat) : Int) by decide) (by omega)) (by omega) rfl xf_A5 d_Places_tell_50 ?_
      refine g_iload d_Places_tell_51 rfl ?_
      refine g_iconst (v := 2) d_Places_tell_53 (by decide) ?_
      refine g_iadd d_Places_tell_54 ?_
      refine g_top (nI (s + 2)) (i_nI (add_hi (nI_hi (by omega)) (show (2 : Int32).toInt = ((2 : Nat) : Int) by decide) (by omega))) ?_
      refine g_istore d_Places_tell_55 (by decide) rfl ?_
      refine g_iconst (v := 0) d_Places_tell_57 (by decide) ?_
      refine g_istore d_Places_tell_58 (by decide) rfl ?_
      refine g_iload d_Places_tell_60 rfl ?_
      refine g_aload d_Places_tell_62 rfl ?_
      refine z_get (k := 5) (j := 4) (v := .int (u.2.2.1 y 4)) kc_Place fl_Places_74 (by decide) hz (by decide) rfl rfl d_Places_tell_64 ?_
      rw [k4]
      refine g_icmp_ge (tgt := 96) d_Places_tell_67 (by decide) (fun c_67 => ?_) (fun c_67 => ?_)
      rotate_left
      · exact absurd c_67 (fun q => q (Int32.le_refl _))
      refine g_iload d_Places_tell_96 rfl ?_
      refine g_iret rfl d_Places_tell_98 ?_
      exact ⟨rfl, _, rfl, b2 2 0⟩
    · rw [if_neg (by rw [e0]; decide), if_pos e0] at hl ⊢
      simp only [List.length_cons, List.length_nil] at hl ⊢
      refine g_iload_n d_Places_tell_0 rfl ?_
      refine g_bipush (v := 24) d_Places_tell_1 (by decide) ?_
      refine g_icmp_gt (tgt := 15) d_Places_tell_3 (by decide) (fun c_3 => ?_) (fun c_3 => ?_)
      · exact absurd c_3 (fun q => by have := (lt_hi (show (24 : Int32).toInt = ((24 : Nat) : Int) by decide) (nI_hi (by omega))).mp q; omega)
      refine g_iload d_Places_tell_6 rfl ?_
      refine g_iconst (v := 2) d_Places_tell_8 (by decide) ?_
      refine g_iadd d_Places_tell_9 ?_
      refine g_aload_n d_Places_tell_10 rfl ?_
      refine g_ilen (x_at (k := 19) (by decide) rfl) rfl d_Places_tell_11 ?_
      refine g_icmp_le (tgt := 18) d_Places_tell_12 (by decide) (fun c_12 => ?_) (fun c_12 => ?_)
      rotate_left
      · exact absurd c_12 (fun q => q ((le_hi (add_hi (nI_hi (by omega)) (show (2 : Int32).toInt = ((2 : Nat) : Int) by decide) (by omega)) (show (Int32.ofNat 6402).toInt = ((6402 : Nat) : Int) by decide)).mpr (by omega)))
      refine g_aload_n d_Places_tell_18 rfl ?_
      refine x_get (k := 15) (j := 0) (v := .ref (a + 16)) kc_Places fl_Places_12 (by decide) (by decide) rfl rfl d_Places_tell_19 ?_
      refine g_iload_n d_Places_tell_22 rfl ?_
      refine c_Vr (as := [.int (nI i)]) kv_ArrayList_get ml_Places_26 rfl (x_at (k := 16) (by decide) rfl) (m_K_get lk_places h.2.1 (by omega) hy) rfl (Nat.le_of_ble_eq_true rfl) rfl d_Places_tell_23 rfl ?_
      refine z_cast (kb := 5) cl_Places_30 rfl hz (by decide) d_Places_tell_26 ?_
      refine g_astore d_Places_tell_29 (by decide) rfl ?_
      refine g_aload_n d_Places_tell_31 rfl ?_
      refine g_iload d_Places_tell_32 rfl ?_
      refine g_aload d_Places_tell_34 rfl ?_
      refine z_get (k := 5) (j := 1) (v := .int (u.2.2.1 y 1)) kc_Place fl_Places_68 (by decide) hz (by decide) rfl rfl d_Places_tell_36 ?_
      rw [k1]
      refine x_ast (c' := (cA c 5 (s) (0))) (k := 19) (q := s) (by decide) rfl (nI_hi (by omega)) (by omega) rfl xf_A5 d_Places_tell_39 ?_
      refine g_aload_n d_Places_tell_40 rfl ?_
      refine g_iload d_Places_tell_41 rfl ?_
      refine g_iconst (v := 1) d_Places_tell_43 (by decide) ?_
      refine g_iadd d_Places_tell_44 ?_
      refine g_aload d_Places_tell_45 rfl ?_
      refine z_get (k := 5) (j := 2) (v := .int (u.2.2.1 y 2)) kc_Place fl_Places_71 (by decide) hz (by decide) rfl rfl d_Places_tell_47 ?_
      rw [k2]
      refine x_ast (c' := (cA (cA c 5 (s) (0)) 5 (s + 1) ((an (plc i)).2))) (k := 19) (q := s + 1) (by decide) rfl (add_hi (nI_hi (by omega)) (show (1 : Int32).toInt = ((1 : Nat) : Int) by decide) (by omega)) (by omega) rfl xf_A5 d_Places_tell_50 ?_
      refine g_iload d_Places_tell_51 rfl ?_
      refine g_iconst (v := 2) d_Places_tell_53 (by decide) ?_
      refine g_iadd d_Places_tell_54 ?_
      refine g_top (nI (s + 2)) (i_nI (add_hi (nI_hi (by omega)) (show (2 : Int32).toInt = ((2 : Nat) : Int) by decide) (by omega))) ?_
      refine g_istore d_Places_tell_55 (by decide) rfl ?_
      refine g_iconst (v := 0) d_Places_tell_57 (by decide) ?_
      refine g_istore d_Places_tell_58 (by decide) rfl ?_
      refine g_iload d_Places_tell_60 rfl ?_
      refine g_aload d_Places_tell_62 rfl ?_
      refine z_get (k := 5) (j := 4) (v := .int (u.2.2.1 y 4)) kc_Place fl_Places_74 (by decide) hz (by decide) rfl rfl d_Places_tell_64 ?_
      rw [k4]
      refine g_icmp_ge (tgt := 96) d_Places_tell_67 (by decide) (fun c_67 => ?_) (fun c_67 => ?_)
      rotate_left
      · exact absurd c_67 (fun q => q (Int32.le_refl _))
      refine g_iload d_Places_tell_96 rfl ?_
      refine g_iret rfl d_Places_tell_98 ?_
      exact ⟨rfl, _, rfl, b2 0 _⟩
    · have ne0 : ¬ (an (plc i)).1 = 0 := by rw [e0]; exact nI_ne (b := 0) (by omega) (by omega) (by omega)
      have ne1 : ¬ (an (plc i)).1 = 1 := by rw [e0]; exact nI_ne (b := 1) (by omega) (by omega) (by omega)
      have etw : tn (an (plc i)).1 - 2 = w := by rw [e0, tnI (by omega)]; omega
      have h23 := h24 _ ne0
      have hd2 : ∀ k, k < ar → dOk P t0 an f (plc (fp + k)) := fun k hk => by
        rcases hd with z | z | z
        · exact absurd z ne0
        · exact absurd z ne1
        · rw [etw, kP, tnI (by omega)] at z
          rw [kp k hk]
          exact z k hk
      rw [if_neg ne0, if_neg ne1, etw, kP, tnI (by omega)] at hl ⊢
      simp only [List.length_append, List.length_cons, List.length_nil] at hl ⊢
      refine g_iload_n d_Places_tell_0 rfl ?_
      refine g_bipush (v := 24) d_Places_tell_1 (by decide) ?_
      refine g_icmp_gt (tgt := 15) d_Places_tell_3 (by decide) (fun c_3 => ?_) (fun c_3 => ?_)
      · exact absurd c_3 (fun q => by have := (lt_hi (show (24 : Int32).toInt = ((24 : Nat) : Int) by decide) (nI_hi (by omega))).mp q; omega)
      refine g_iload d_Places_tell_6 rfl ?_
      refine g_iconst (v := 2) d_Places_tell_8 (by decide) ?_
      refine g_iadd d_Places_tell_9 ?_
      refine g_aload_n d_Places_tell_10 rfl ?_
      refine g_ilen (x_at (k := 19) (by decide) rfl) rfl d_Places_tell_11 ?_
      refine g_icmp_le (tgt := 18) d_Places_tell_12 (by decide) (fun c_12 => ?_) (fun c_12 => ?_)
      rotate_left
      · exact absurd c_12 (fun q => q ((le_hi (add_hi (nI_hi (by omega)) (show (2 : Int32).toInt = ((2 : Nat) : Int) by decide) (by omega)) (show (Int32.ofNat 6402).toInt = ((6402 : Nat) : Int) by decide)).mpr (by omega)))
      refine g_aload_n d_Places_tell_18 rfl ?_
      refine x_get (k := 15) (j := 0) (v := .ref (a + 16)) kc_Places fl_Places_12 (by decide) (by decide) rfl rfl d_Places_tell_19 ?_
      refine g_iload_n d_Places_tell_22 rfl ?_
      refine c_Vr (as := [.int (nI i)]) kv_ArrayList_get ml_Places_26 rfl (x_at (k := 16) (by decide) rfl) (m_K_get lk_places h.2.1 (by omega) hy) rfl (Nat.le_of_ble_eq_true rfl) rfl d_Places_tell_23 rfl ?_
      refine z_cast (kb := 5) cl_Places_30 rfl hz (by decide) d_Places_tell_26 ?_
      refine g_astore d_Places_tell_29 (by decide) rfl ?_
      refine g_aload_n d_Places_tell_31 rfl ?_
      refine g_iload d_Places_tell_32 rfl ?_
      refine g_aload d_Places_tell_34 rfl ?_
      refine z_get (k := 5) (j := 1) (v := .int (u.2.2.1 y 1)) kc_Place fl_Places_68 (by decide) hz (by decide) rfl rfl d_Places_tell_36 ?_
      rw [k1]
      refine x_ast (c' := (cA c 5 (s) (1))) (k := 19) (q := s) (by decide) rfl (nI_hi (by omega)) (by omega) rfl xf_A5 d_Places_tell_39 ?_
      refine g_aload_n d_Places_tell_40 rfl ?_
      refine g_iload d_Places_tell_41 rfl ?_
      refine g_iconst (v := 1) d_Places_tell_43 (by decide) ?_
      refine g_iadd d_Places_tell_44 ?_
      refine g_aload d_Places_tell_45 rfl ?_
      refine z_get (k := 5) (j := 2) (v := .int (u.2.2.1 y 2)) kc_Place fl_Places_71 (by decide) hz (by decide) rfl rfl d_Places_tell_47 ?_
      rw [k2]
      refine x_ast (c' := (cA (cA c 5 (s) (1)) 5 (s + 1) (nI w))) (k := 19) (q := s + 1) (by decide) rfl (add_hi (nI_hi (by omega)) (show (1 : Int32).toInt = ((1 : Nat) : Int) by decide) (by omega)) (by omega) rfl xf_A5 d_Places_tell_50 ?_
      refine g_iload d_Places_tell_51 rfl ?_
      refine g_iconst (v := 2) d_Places_tell_53 (by decide) ?_
      refine g_iadd d_Places_tell_54 ?_
      refine g_top (nI (s + 2)) (i_nI (add_hi (nI_hi (by omega)) (show (2 : Int32).toInt = ((2 : Nat) : Int) by decide) (by omega))) ?_
      refine g_istore d_Places_tell_55 (by decide) rfl ?_
      refine g_iconst (v := 0) d_Places_tell_57 (by decide) ?_
      refine g_istore d_Places_tell_58 (by decide) rfl ?_
      refine m_P_tl60 (D := d + (f + 1) + 2) (F := aT P t0 an f) (π := plc i) (w := w) (f := fp) (ar := ar) (y := y) (dp := (plc i).length) hz k3 k4 (by omega) a4 (by omega) (fun k e c' hk he h' => ?_) ar 0 (s + 2) _ (by omega) (by omega) (mt_hp h (b2 1 (nI w)).2) (fun c' hc' => ?_)
      · have K := ih (fp + k) e c' (by omega) (hd2 k hk) (by rw [kp k hk]; simp; omega) (by rw [kp k hk]; exact he) h'
        rw [kp k hk] at K
        rw [show (plc i ++ [4 * w + k]).length = (plc i).length + 1 by simp, show d + f + 3 = d + (f + 1) + 2 by omega] at K
        exact K
      · refine ⟨?_, c', rfl, mtT_app (b2 1 (nI w)).1 hc'.1 hc'.2, mtF_tr (b2 1 (nI w)).2 hc'.2 (by omega)⟩
        rw [Nat.add_assoc]
set_option maxHeartbeats 400000 in
set_option maxRecDepth 100000 in
theorem m_P_tellAll (hX : X ≤ 3300) (hX0 : 0 < X) (hp0 : plc 0 = []) (hpl : ∀ i, i < X → plC P t0 u ps X plc an i) (h24 : ∀ π, ¬ (an π).1 = 0 → π.length ≤ 23) {f : Nat} (hd : dOk P t0 an f []) (hl : (aT P t0 an f []).length ≤ 6402) (h : hpOk E a B SS c u n sl ks sp ps qs ms) : GM E Y_Places_tellAll (d + f + 4) [.ref (a + 15), .ref (a + 19)] (yW E G a c u n sl) (rPost (some (.int (nI (aT P t0 an f []).length))) (fun G' => ∃ c', G' = yW E G a c' u n sl ∧ mtP c c' 0 (aT P t0 an f []))) := by
  refine g_entry (by decide) (by simp [Value.category]) (Nat.le_of_ble_eq_true rfl) ?_
  have KT := m_P_tell (E := E) (d := d) (G := G) hX hpl h24 f 0 0 c hX0 (by rw [hp0]; exact hd) (by rw [hp0]; decide) (by rw [hp0]; omega) h
  rw [hp0, List.length_nil, Nat.zero_add] at KT
  refine g_aload_n d_Places_tellAll_0 rfl ?_
  refine g_iconst (v := 0) d_Places_tellAll_1 (by decide) ?_
  refine g_iconst (v := 0) d_Places_tellAll_2 (by decide) ?_
  refine g_aload_n d_Places_tellAll_3 rfl ?_
  refine g_iconst (v := 0) d_Places_tellAll_4 (by decide) ?_
  refine c_Vx (as := [.int (0), .int (0), .ref (a + 19), .int (0)]) kv_Places_tell ml_Places_64 rfl (x_at (k := 15) (by decide) rfl) (KT) rfl (Nat.le_of_ble_eq_true rfl) rfl d_Places_tellAll_5 rfl (fun G_5 h_5 => ?_)
  obtain ⟨c1, rfl, hp1⟩ := h_5
  refine g_iret rfl d_Places_tellAll_8 ?_
  exact ⟨rfl, c1, rfl, hp1⟩
end CG
