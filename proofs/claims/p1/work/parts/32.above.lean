/-! The reference: above -/
theorem d_Model_above_0 : decode Y_Model_above.2.1 0 = .ok (.iconst 0, 1) := by decide +kernel
theorem d_Model_above_1 : decode Y_Model_above.2.1 1 = .ok (.istore 6, 2) := by decide +kernel
theorem d_Model_above_3 : decode Y_Model_above.2.1 3 = .ok (.aload_n 0, 1) := by decide +kernel
theorem d_Model_above_4 : decode Y_Model_above.2.1 4 = .ok (.getfield 132, 3) := by decide +kernel
theorem d_Model_above_7 : decode Y_Model_above.2.1 7 = .ok (.iconst 0, 1) := by decide +kernel
theorem d_Model_above_8 : decode Y_Model_above.2.1 8 = .ok (.iconst 0, 1) := by decide +kernel
theorem d_Model_above_9 : decode Y_Model_above.2.1 9 = .ok (.iastore, 1) := by decide +kernel
theorem d_Model_above_10 : decode Y_Model_above.2.1 10 = .ok (.iconst 0, 1) := by decide +kernel
theorem d_Model_above_11 : decode Y_Model_above.2.1 11 = .ok (.istore 7, 2) := by decide +kernel
theorem d_Model_above_13 : decode Y_Model_above.2.1 13 = .ok (.iload 7, 2) := by decide +kernel
theorem d_Model_above_15 : decode Y_Model_above.2.1 15 = .ok (.iload_n 2, 1) := by decide +kernel
theorem d_Model_above_16 : decode Y_Model_above.2.1 16 = .ok (.if_icmp .ge 89, 3) := by decide +kernel
theorem d_Model_above_19 : decode Y_Model_above.2.1 19 = .ok (.aload_n 0, 1) := by decide +kernel
theorem d_Model_above_20 : decode Y_Model_above.2.1 20 = .ok (.iload_n 1, 1) := by decide +kernel
theorem d_Model_above_21 : decode Y_Model_above.2.1 21 = .ok (.iload 7, 2) := by decide +kernel
theorem d_Model_above_23 : decode Y_Model_above.2.1 23 = .ok (.iadd, 1) := by decide +kernel
theorem d_Model_above_24 : decode Y_Model_above.2.1 24 = .ok (.iload_n 3, 1) := by decide +kernel
theorem d_Model_above_25 : decode Y_Model_above.2.1 25 = .ok (.invokevirtual 205, 3) := by decide +kernel
theorem d_Model_above_28 : decode Y_Model_above.2.1 28 = .ok (.istore 8, 2) := by decide +kernel
theorem d_Model_above_30 : decode Y_Model_above.2.1 30 = .ok (.iload 8, 2) := by decide +kernel
theorem d_Model_above_32 : decode Y_Model_above.2.1 32 = .ok (.ifCond .ge 6, 3) := by decide +kernel
theorem d_Model_above_35 : decode Y_Model_above.2.1 35 = .ok (.goto 64, 3) := by decide +kernel
theorem d_Model_above_38 : decode Y_Model_above.2.1 38 = .ok (.aload_n 0, 1) := by decide +kernel
theorem d_Model_above_39 : decode Y_Model_above.2.1 39 = .ok (.getfield 25, 3) := by decide +kernel
theorem d_Model_above_42 : decode Y_Model_above.2.1 42 = .ok (.aload_n 0, 1) := by decide +kernel
theorem d_Model_above_43 : decode Y_Model_above.2.1 43 = .ok (.getfield 101, 3) := by decide +kernel
theorem d_Model_above_46 : decode Y_Model_above.2.1 46 = .ok (.bipush 26, 2) := by decide +kernel
theorem d_Model_above_48 : decode Y_Model_above.2.1 48 = .ok (.iload_n 1, 1) := by decide +kernel
theorem d_Model_above_49 : decode Y_Model_above.2.1 49 = .ok (.iload 7, 2) := by decide +kernel
theorem d_Model_above_51 : decode Y_Model_above.2.1 51 = .ok (.iadd, 1) := by decide +kernel
theorem d_Model_above_52 : decode Y_Model_above.2.1 52 = .ok (.imul, 1) := by decide +kernel
theorem d_Model_above_53 : decode Y_Model_above.2.1 53 = .ok (.iload 8, 2) := by decide +kernel
theorem d_Model_above_55 : decode Y_Model_above.2.1 55 = .ok (.iadd, 1) := by decide +kernel
theorem d_Model_above_56 : decode Y_Model_above.2.1 56 = .ok (.iaload, 1) := by decide +kernel
theorem d_Model_above_57 : decode Y_Model_above.2.1 57 = .ok (.iaload, 1) := by decide +kernel
theorem d_Model_above_58 : decode Y_Model_above.2.1 58 = .ok (.istore 9, 2) := by decide +kernel
theorem d_Model_above_60 : decode Y_Model_above.2.1 60 = .ok (.iload 5, 2) := by decide +kernel
theorem d_Model_above_62 : decode Y_Model_above.2.1 62 = .ok (.ifCond .ne 10, 3) := by decide +kernel
theorem d_Model_above_65 : decode Y_Model_above.2.1 65 = .ok (.iload 9, 2) := by decide +kernel
theorem d_Model_above_67 : decode Y_Model_above.2.1 67 = .ok (.iload 4, 2) := by decide +kernel
theorem d_Model_above_69 : decode Y_Model_above.2.1 69 = .ok (.if_icmp .le 30, 3) := by decide +kernel
theorem d_Model_above_72 : decode Y_Model_above.2.1 72 = .ok (.aload_n 0, 1) := by decide +kernel
theorem d_Model_above_73 : decode Y_Model_above.2.1 73 = .ok (.getfield 132, 3) := by decide +kernel
theorem d_Model_above_76 : decode Y_Model_above.2.1 76 = .ok (.iconst 0, 1) := by decide +kernel
theorem d_Model_above_77 : decode Y_Model_above.2.1 77 = .ok (.iaload, 1) := by decide +kernel
theorem d_Model_above_78 : decode Y_Model_above.2.1 78 = .ok (.ifCond .eq 10, 3) := by decide +kernel
theorem d_Model_above_81 : decode Y_Model_above.2.1 81 = .ok (.iload 9, 2) := by decide +kernel
theorem d_Model_above_83 : decode Y_Model_above.2.1 83 = .ok (.iload 6, 2) := by decide +kernel
theorem d_Model_above_85 : decode Y_Model_above.2.1 85 = .ok (.if_icmp .ge 14, 3) := by decide +kernel
theorem d_Model_above_88 : decode Y_Model_above.2.1 88 = .ok (.iload 9, 2) := by decide +kernel
theorem d_Model_above_90 : decode Y_Model_above.2.1 90 = .ok (.istore 6, 2) := by decide +kernel
theorem d_Model_above_92 : decode Y_Model_above.2.1 92 = .ok (.aload_n 0, 1) := by decide +kernel
theorem d_Model_above_93 : decode Y_Model_above.2.1 93 = .ok (.getfield 132, 3) := by decide +kernel
theorem d_Model_above_96 : decode Y_Model_above.2.1 96 = .ok (.iconst 0, 1) := by decide +kernel
theorem d_Model_above_97 : decode Y_Model_above.2.1 97 = .ok (.iconst 1, 1) := by decide +kernel
theorem d_Model_above_98 : decode Y_Model_above.2.1 98 = .ok (.iastore, 1) := by decide +kernel
theorem d_Model_above_99 : decode Y_Model_above.2.1 99 = .ok (.iinc 7 1, 3) := by decide +kernel
theorem d_Model_above_102 : decode Y_Model_above.2.1 102 = .ok (.goto (-89), 3) := by decide +kernel
theorem d_Model_above_105 : decode Y_Model_above.2.1 105 = .ok (.iload 6, 2) := by decide +kernel
theorem d_Model_above_107 : decode Y_Model_above.2.1 107 = .ok (.ireturn, 1) := by decide +kernel
section MI
variable {E : gE} {d : Nat} {G G0 : gS} {m n : Nat} {s : mS} {Q : gO → gS → Prop}
theorem rWish_c {s' : mS} {R : Nat} {p : Int32} (h : s'.2 28 = s.2 28) : ∀ k, rWish s' R p k = rWish s R p k := by
  intro k
  induction k with
  | zero => rfl
  | succ k ih =>
    show (if s'.2 28 (26 * R + k) = p then nI k else rWish s' R p k) = (if s.2 28 (26 * R + k) = p then nI k else rWish s R p k)
    rw [h, ih]
theorem wA_A {j q : Nat} {x y : Int32} : wA (wA s j q x) j q y = wA s j q y := by
  simp only [wA, wR, upA_at, upA_up]
  refine Prod.ext rfl ?_
  show upA s.2 j _ = upA s.2 j _
  congr 1
  funext i
  simp only [upd]
  by_cases e : i = q
  · rw [if_pos e, if_pos e]
  · rw [if_neg e, if_neg e, if_neg e]
theorem m_W_wishA {T f p : Int32} {F : Nat} (hmn : m < n) (hf : f.toInt = (F : Int)) (bF : F < 41640) (hM : ¬ s.2 27 F < 0) (bM : tn (s.2 27 F) ≤ 26) : GM E Y_Model_wish d [.ref m, .int f, .int p] (mW E G m n (wA s 39 0 T)) (rIs (some (.int (rWs s F p))) (mW E G m n (wA s 39 0 T))) := by
  have K := m_W_wish (E := E) (d := d) (G := G) (s := wA s 39 0 T) (p := p) hmn hf bF hM bM
  rw [rWish_c (s := s) (s' := wA s 39 0 T) rfl] at K
  exact K
abbrev rWv (s : mS) (R : Nat) (p : Int32) : Int32 := s.2 5 (tn (s.2 29 (26 * R + tn (rWs s R p))))
/-- the least number above y (or any, with al) that is wished at p by the rows from A on, k of them; and whether there is one -/
def rAb (s : mS) (A : Nat) (p y al : Int32) : Nat → Int32 × Int32
  | 0 => (0, 0)
  | k + 1 => if ¬ 0 ≤ rWs s (A + k) p then rAb s A p y al k else if al = 0 ∧ rWv s (A + k) p ≤ y then rAb s A p y al k else if ¬ (rAb s A p y al k).2 = 0 ∧ (rAb s A p y al k).1 ≤ rWv s (A + k) p then rAb s A p y al k else (rWv s (A + k) p, 1)
set_option maxHeartbeats 400000 in
set_option maxRecDepth 100000 in
theorem m_W_above_l (hmn : m < n) {f q p y al : Int32} {A K : Nat} (hf : f.toInt = (A : Int)) (hq : q.toInt = (K : Int)) (hR : ∀ R, R < A + K → ¬ s.2 27 R < 0 ∧ tn (s.2 27 R) ≤ 26) (hW : ∀ R, R < A + K → ∀ j, j < tn (s.2 27 R) → ¬ s.2 29 (26 * R + j) < 0 ∧ tn (s.2 29 (26 * R + j)) < 700) (bA : A + K ≤ 41640) : ∀ (w k : Nat), K + 1 ≤ k + w → k ≤ K → GT E Y_Model_above (d + 1) G0 13 [(0, .ref m), (1, .int f), (2, .int q), (3, .int p), (4, .int y), (5, .int al), (6, .int (rAb s A p y al k).1), (7, .int (nI k))] [] (mW E G m n (wA s 39 0 (rAb s A p y al k).2)) (rIs (some (.int (rAb s A p y al K).1)) (mW E G m n (wA s 39 0 (rAb s A p y al K).2))) := by
  intro w
  induction w with
  | zero => intro k h1 h2; omega
  | succ w ih =>
    intro k hm hkN
    refine g_iload d_Model_above_13 rfl ?_
    refine g_iload_n d_Model_above_15 rfl ?_
    refine g_icmp_ge (tgt := 105) d_Model_above_16 (by decide) (fun c_16 => ?_) (fun c_16 => ?_)
    · refine g_iload d_Model_above_105 rfl ?_
      refine g_iret rfl d_Model_above_107 ?_
      have e : k = K := by have := (le_hi hq (nI_hi (n := k) (by omega))).mp c_16; omega
      subst e
      exact ⟨rfl, rfl⟩
    · have hk : k < K := Nat.not_le.mp (fun y => c_16 ((le_hi hq (nI_hi (n := k) (by omega))).mpr y))
      refine g_aload_n d_Model_above_19 rfl ?_
      refine g_iload_n d_Model_above_20 rfl ?_
      refine g_iload d_Model_above_21 rfl ?_
      refine g_iadd d_Model_above_23 ?_
      refine g_iload_n d_Model_above_24 rfl ?_
      refine c_Vr (as := [.int ((f) + (nI k)), .int (p)]) kv_Model_wish ml_Model_205 rfl mw_f (m_W_wishA (s := s) (p := p) (F := A + k) hmn (add_hi hf (nI_hi (n := k) (by omega)) (by omega)) (by omega) (hR _ (by omega)).1 (hR _ (by omega)).2) rfl (Nat.le_of_ble_eq_true rfl) rfl d_Model_above_25 rfl ?_
      refine g_istore d_Model_above_28 (by decide) rfl ?_
      refine g_iload d_Model_above_30 rfl ?_
      refine g_if_ge (tgt := 38) d_Model_above_32 (by decide) (fun c_32 => ?_) (fun c_32 => ?_)
      · have c_w := Int32.not_lt.mpr c_32
        have hw : tn (rWs s (A + k) p) < tn (s.2 27 (A + k)) := rWish_lt (s := s) (R := A + k) (p := p) (tn (s.2 27 (A + k))) (by have := (hR (A + k) (by omega)).2; omega) c_w
        have hb := (hR (A + k) (by omega)).2
        have hv := hW (A + k) (by omega) _ hw
        refine g_aload_n d_Model_above_38 rfl ?_
        refine w_get (k := 8) fl_Model_25 (by decide) rfl d_Model_above_39 ?_
        refine g_aload_n d_Model_above_42 rfl ?_
        refine w_get (k := 44) fl_Model_101 (by decide) rfl d_Model_above_43 ?_
        refine g_bipush (v := 26) d_Model_above_46 (by decide) ?_
        refine g_iload_n d_Model_above_48 rfl ?_
        refine g_iload d_Model_above_49 rfl ?_
        refine g_iadd d_Model_above_51 ?_
        refine g_imul d_Model_above_52 ?_
        refine g_iload d_Model_above_53 rfl ?_
        refine g_iadd d_Model_above_55 ?_
        refine w_ald (j := 29) (q := 26 * (A + k) + tn (rWs s (A + k) p)) (x := s.2 29 (26 * (A + k) + tn (rWs s (A + k) p))) hmn (by decide) (by decide) (add_hi (mul_hi (m := 26) (by decide) (add_hi hf (nI_hi (n := k) (by omega)) (by omega)) (by omega)) (tn_hi c_w) (by omega)) (by show _ < 1082640; omega) rfl d_Model_above_56 ?_
        refine w_ald (j := 5) (q := tn (s.2 29 (26 * (A + k) + tn (rWs s (A + k) p)))) (x := rWv s (A + k) p) hmn (by decide) (by decide) (tn_hi hv.1) hv.2 rfl d_Model_above_57 ?_
        refine g_istore d_Model_above_58 (by decide) rfl ?_
        refine g_iload d_Model_above_60 rfl ?_
        refine g_if_ne (tgt := 72) d_Model_above_62 (by decide) (fun c_62 => ?_) (fun c_62 => ?_)
        · refine g_aload_n d_Model_above_72 rfl ?_
          refine w_get (k := 57) fl_Model_132 (by decide) rfl d_Model_above_73 ?_
          refine g_iconst (v := 0) d_Model_above_76 (by decide) ?_
          refine w_ald (j := 39) (q := 0) (x := (rAb s A p y al k).2) hmn (by decide) (by decide) (by decide) (by decide) rfl d_Model_above_77 ?_
          refine g_if_eq (tgt := 88) d_Model_above_78 (by decide) (fun c_78 => ?_) (fun c_78 => ?_)
          · refine g_iload d_Model_above_88 rfl ?_
            refine g_istore d_Model_above_90 (by decide) rfl ?_
            refine g_aload_n d_Model_above_92 rfl ?_
            refine w_get (k := 57) fl_Model_132 (by decide) rfl d_Model_above_93 ?_
            refine g_iconst (v := 0) d_Model_above_96 (by decide) ?_
            refine g_iconst (v := 1) d_Model_above_97 (by decide) ?_
            refine w_ast (j := 39) (q := 0) hmn (by decide) (by decide) (by decide) (by decide) d_Model_above_98 ?_
            refine g_iinc (v := nI k + 1) d_Model_above_99 rfl (by rfl) (by decide) rfl ?_
            refine g_goto (tgt := 13) d_Model_above_102 (by decide) ?_
            have e : rAb s A p y al (k + 1) = (rWv s (A + k) p, 1) := (if_neg (fun q => q c_32)).trans ((if_neg (fun q => c_62 q.1)).trans (if_neg (fun q => q.1 c_78)))
            have K_ := ih (k + 1) (by omega) (by omega)
            rw [e] at K_
            rw [wA_A]
            dsimp only at K_
            rw [nI_1]
            exact g_weak (lv := [(0, .ref (m)), (1, .int (f)), (2, .int (q)), (3, .int (p)), (4, .int (y)), (5, .int (al)), (6, .int (rWv s (A + k) p)), (7, .int (nI (k + 1))), (8, .int (rWs s (A + k) p)), (9, .int (rWv s (A + k) p))]) (by simp) (by simp) K_
          · refine g_iload d_Model_above_81 rfl ?_
            refine g_iload d_Model_above_83 rfl ?_
            refine g_icmp_ge (tgt := 99) d_Model_above_85 (by decide) (fun c_85 => ?_) (fun c_85 => ?_)
            · refine g_iinc (v := nI k + 1) d_Model_above_99 rfl (by rfl) (by decide) rfl ?_
              refine g_goto (tgt := 13) d_Model_above_102 (by decide) ?_
              have e : rAb s A p y al (k + 1) = (rAb s A p y al k) := (if_neg (fun q => q c_32)).trans ((if_neg (fun q => c_62 q.1)).trans (if_pos ⟨c_78, c_85⟩))
              have K_ := ih (k + 1) (by omega) (by omega)
              rw [e] at K_
              rw [nI_1]
              exact g_weak (lv := [(0, .ref (m)), (1, .int (f)), (2, .int (q)), (3, .int (p)), (4, .int (y)), (5, .int (al)), (6, .int ((rAb s A p y al k).1)), (7, .int (nI (k + 1))), (8, .int (rWs s (A + k) p)), (9, .int (rWv s (A + k) p))]) (by simp) (by simp) K_
            · refine g_iload d_Model_above_88 rfl ?_
              refine g_istore d_Model_above_90 (by decide) rfl ?_
              refine g_aload_n d_Model_above_92 rfl ?_
              refine w_get (k := 57) fl_Model_132 (by decide) rfl d_Model_above_93 ?_
              refine g_iconst (v := 0) d_Model_above_96 (by decide) ?_
              refine g_iconst (v := 1) d_Model_above_97 (by decide) ?_
              refine w_ast (j := 39) (q := 0) hmn (by decide) (by decide) (by decide) (by decide) d_Model_above_98 ?_
              refine g_iinc (v := nI k + 1) d_Model_above_99 rfl (by rfl) (by decide) rfl ?_
              refine g_goto (tgt := 13) d_Model_above_102 (by decide) ?_
              have e : rAb s A p y al (k + 1) = (rWv s (A + k) p, 1) := (if_neg (fun q => q c_32)).trans ((if_neg (fun q => c_62 q.1)).trans (if_neg (fun q => c_85 q.2)))
              have K_ := ih (k + 1) (by omega) (by omega)
              rw [e] at K_
              rw [wA_A]
              dsimp only at K_
              rw [nI_1]
              exact g_weak (lv := [(0, .ref (m)), (1, .int (f)), (2, .int (q)), (3, .int (p)), (4, .int (y)), (5, .int (al)), (6, .int (rWv s (A + k) p)), (7, .int (nI (k + 1))), (8, .int (rWs s (A + k) p)), (9, .int (rWv s (A + k) p))]) (by simp) (by simp) K_
        · refine g_iload d_Model_above_65 rfl ?_
          refine g_iload d_Model_above_67 rfl ?_
          refine g_icmp_le (tgt := 99) d_Model_above_69 (by decide) (fun c_69 => ?_) (fun c_69 => ?_)
          · refine g_iinc (v := nI k + 1) d_Model_above_99 rfl (by rfl) (by decide) rfl ?_
            refine g_goto (tgt := 13) d_Model_above_102 (by decide) ?_
            have e : rAb s A p y al (k + 1) = (rAb s A p y al k) := (if_neg (fun q => q c_32)).trans (if_pos ⟨c_62, c_69⟩)
            have K_ := ih (k + 1) (by omega) (by omega)
            rw [e] at K_
            rw [nI_1]
            exact g_weak (lv := [(0, .ref (m)), (1, .int (f)), (2, .int (q)), (3, .int (p)), (4, .int (y)), (5, .int (al)), (6, .int ((rAb s A p y al k).1)), (7, .int (nI (k + 1))), (8, .int (rWs s (A + k) p)), (9, .int (rWv s (A + k) p))]) (by simp) (by simp) K_
          · refine g_aload_n d_Model_above_72 rfl ?_
            refine w_get (k := 57) fl_Model_132 (by decide) rfl d_Model_above_73 ?_
            refine g_iconst (v := 0) d_Model_above_76 (by decide) ?_
            refine w_ald (j := 39) (q := 0) (x := (rAb s A p y al k).2) hmn (by decide) (by decide) (by decide) (by decide) rfl d_Model_above_77 ?_
            refine g_if_eq (tgt := 88) d_Model_above_78 (by decide) (fun c_78 => ?_) (fun c_78 => ?_)
            · refine g_iload d_Model_above_88 rfl ?_
              refine g_istore d_Model_above_90 (by decide) rfl ?_
              refine g_aload_n d_Model_above_92 rfl ?_
              refine w_get (k := 57) fl_Model_132 (by decide) rfl d_Model_above_93 ?_
              refine g_iconst (v := 0) d_Model_above_96 (by decide) ?_
              refine g_iconst (v := 1) d_Model_above_97 (by decide) ?_
              refine w_ast (j := 39) (q := 0) hmn (by decide) (by decide) (by decide) (by decide) d_Model_above_98 ?_
              refine g_iinc (v := nI k + 1) d_Model_above_99 rfl (by rfl) (by decide) rfl ?_
              refine g_goto (tgt := 13) d_Model_above_102 (by decide) ?_
              have e : rAb s A p y al (k + 1) = (rWv s (A + k) p, 1) := (if_neg (fun q => q c_32)).trans ((if_neg (fun q => c_69 q.2)).trans (if_neg (fun q => q.1 c_78)))
              have K_ := ih (k + 1) (by omega) (by omega)
              rw [e] at K_
              rw [wA_A]
              dsimp only at K_
              rw [nI_1]
              exact g_weak (lv := [(0, .ref (m)), (1, .int (f)), (2, .int (q)), (3, .int (p)), (4, .int (y)), (5, .int (al)), (6, .int (rWv s (A + k) p)), (7, .int (nI (k + 1))), (8, .int (rWs s (A + k) p)), (9, .int (rWv s (A + k) p))]) (by simp) (by simp) K_
            · refine g_iload d_Model_above_81 rfl ?_
              refine g_iload d_Model_above_83 rfl ?_
              refine g_icmp_ge (tgt := 99) d_Model_above_85 (by decide) (fun c_85 => ?_) (fun c_85 => ?_)
              · refine g_iinc (v := nI k + 1) d_Model_above_99 rfl (by rfl) (by decide) rfl ?_
                refine g_goto (tgt := 13) d_Model_above_102 (by decide) ?_
                have e : rAb s A p y al (k + 1) = (rAb s A p y al k) := (if_neg (fun q => q c_32)).trans ((if_neg (fun q => c_69 q.2)).trans (if_pos ⟨c_78, c_85⟩))
                have K_ := ih (k + 1) (by omega) (by omega)
                rw [e] at K_
                rw [nI_1]
                exact g_weak (lv := [(0, .ref (m)), (1, .int (f)), (2, .int (q)), (3, .int (p)), (4, .int (y)), (5, .int (al)), (6, .int ((rAb s A p y al k).1)), (7, .int (nI (k + 1))), (8, .int (rWs s (A + k) p)), (9, .int (rWv s (A + k) p))]) (by simp) (by simp) K_
              · refine g_iload d_Model_above_88 rfl ?_
                refine g_istore d_Model_above_90 (by decide) rfl ?_
                refine g_aload_n d_Model_above_92 rfl ?_
                refine w_get (k := 57) fl_Model_132 (by decide) rfl d_Model_above_93 ?_
                refine g_iconst (v := 0) d_Model_above_96 (by decide) ?_
                refine g_iconst (v := 1) d_Model_above_97 (by decide) ?_
                refine w_ast (j := 39) (q := 0) hmn (by decide) (by decide) (by decide) (by decide) d_Model_above_98 ?_
                refine g_iinc (v := nI k + 1) d_Model_above_99 rfl (by rfl) (by decide) rfl ?_
                refine g_goto (tgt := 13) d_Model_above_102 (by decide) ?_
                have e : rAb s A p y al (k + 1) = (rWv s (A + k) p, 1) := (if_neg (fun q => q c_32)).trans ((if_neg (fun q => c_69 q.2)).trans (if_neg (fun q => c_85 q.2)))
                have K_ := ih (k + 1) (by omega) (by omega)
                rw [e] at K_
                rw [wA_A]
                dsimp only at K_
                rw [nI_1]
                exact g_weak (lv := [(0, .ref (m)), (1, .int (f)), (2, .int (q)), (3, .int (p)), (4, .int (y)), (5, .int (al)), (6, .int (rWv s (A + k) p)), (7, .int (nI (k + 1))), (8, .int (rWs s (A + k) p)), (9, .int (rWv s (A + k) p))]) (by simp) (by simp) K_
      · refine g_goto (tgt := 99) d_Model_above_35 (by decide) ?_
        refine g_iinc (v := nI k + 1) d_Model_above_99 rfl (by rfl) (by decide) rfl ?_
        refine g_goto (tgt := 13) d_Model_above_102 (by decide) ?_
        have e : rAb s A p y al (k + 1) = (rAb s A p y al k) := if_pos c_32
        have K_ := ih (k + 1) (by omega) (by omega)
        rw [e] at K_
        rw [nI_1]
        exact g_weak (lv := [(0, .ref (m)), (1, .int (f)), (2, .int (q)), (3, .int (p)), (4, .int (y)), (5, .int (al)), (6, .int ((rAb s A p y al k).1)), (7, .int (nI (k + 1))), (8, .int (rWs s (A + k) p))]) (by simp) (by simp) K_
set_option maxHeartbeats 400000 in
set_option maxRecDepth 100000 in
theorem m_W_above (hmn : m < n) {f q p y al : Int32} {A K : Nat} (hf : f.toInt = (A : Int)) (hq : q.toInt = (K : Int)) (hR : ∀ R, R < A + K → ¬ s.2 27 R < 0 ∧ tn (s.2 27 R) ≤ 26) (hW : ∀ R, R < A + K → ∀ j, j < tn (s.2 27 R) → ¬ s.2 29 (26 * R + j) < 0 ∧ tn (s.2 29 (26 * R + j)) < 700) (bA : A + K ≤ 41640) : GM E Y_Model_above (d + 1) [.ref m, .int f, .int q, .int p, .int y, .int al] (mW E G m n s) (rIs (some (.int (rAb s A p y al K).1)) (mW E G m n (wA s 39 0 (rAb s A p y al K).2))) := by
  refine g_entry (by decide) (by simp [Value.category]) (Nat.le_of_ble_eq_true rfl) ?_
  refine g_iconst (v := 0) d_Model_above_0 (by decide) ?_
  refine g_istore d_Model_above_1 (by decide) rfl ?_
  refine g_aload_n d_Model_above_3 rfl ?_
  refine w_get (k := 57) fl_Model_132 (by decide) rfl d_Model_above_4 ?_
  refine g_iconst (v := 0) d_Model_above_7 (by decide) ?_
  refine g_iconst (v := 0) d_Model_above_8 (by decide) ?_
  refine w_ast (j := 39) (q := 0) hmn (by decide) (by decide) (by decide) (by decide) d_Model_above_9 ?_
  refine g_iconst (v := 0) d_Model_above_10 (by decide) ?_
  refine g_istore d_Model_above_11 (by decide) rfl ?_
  exact m_W_above_l (s := s) hmn hf hq hR hW bA (K + 1) 0 (by omega) (by omega)
end MI
