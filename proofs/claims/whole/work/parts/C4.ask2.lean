/-! Tree.ask -/
section CJ
variable {E : gE} {d : Nat} {G G0 : gS} {a : Nat} {c c' c0 : cS} {u u' u2 u0 : uS} {n n' n0 sl sl' : Nat} {Q : gO → gS → Prop} {B SS : Nat} {P : Nat → Nat → Int32} {N t0 X C nk nk' : Nat} {tm cp : Nat → Nat} {ob : Nat → Int32} {T : Nat → Prop} {pos plc : Nat → List Nat} {ks bs sp ps qs qs' ms : List Nat}
set_option maxHeartbeats 1000000 in
set_option maxRecDepth 100000 in
theorem m_T_askBn {q b y p k ow dist : Nat} {up via : Int32} {ws : List (Nat × Nat)} {bd : Nat → Option Nat} (h : hpOk E a B SS c u n sl (ks ++ b :: bs) sp ps qs ms) (hz : zIs u a q 6) (hl : (ks ++ b :: bs).length ≤ 1000) (hx : rc u tm b (ow, (p, k) :: ws, bd)) (hy : ps[p]? = some y) (hp4 : p < 4000) (hyd : u.2.2.1 y 0 = nI dist) (hX : c.1 16 = nI X) (ht : zIs u a (tm k) 7) (htk : u.2.2.1 (tm k) 1 = 0) (kk : ∀ u', zqI u u' q → (∀ j, 6 ≤ j → j ≤ 10 → u'.2.2.1 q j = u.2.2.1 q j) → u'.2.2.1 q 0 = nI ks.length → u'.2.2.1 q 1 = nI (b :: bs).length → u'.2.2.1 q 2 = nI p → u'.2.2.1 q 3 = nI dist → u'.2.2.1 q 4 = nI X → u'.2.2.1 q 5 = 1 → u'.2.2.1 q 11 = 0 → GT E Y_Tree_ask (d + 8) G0 173 [(0, .ref (a + 12)), (1, .int up), (2, .int via), (3, .int (nI ks.length)), (4, .ref q), (5, .ref b)] [] (yW E G a c u' n sl) Q) : GT E Y_Tree_ask (d + 8) G0 73 [(0, .ref (a + 12)), (1, .int up), (2, .int via), (3, .int (nI ks.length)), (4, .ref q)] [] (yW E G a c u n sl) Q := by
  have h13 := h.1.2.2.2.2.2.2.1
  have hlo := h.1.2.2.2.1
  have hw := (h.1.2.2.2.2.2.1 b (by simp)).1
  have hzy := (lOk_get h.2.1 hy).2.2.2.2.1
  have hi : ((ks ++ b :: bs) ++ sp)[ks.length]? = some b := by
    rw [List.append_assoc, List.cons_append]
    exact mid_at
  have hq1 : b + 1 ≠ q := fun e => by have := hw.2.1.1; rw [e, hz.1] at this; exact absurd this (by decide)
  have hqy : y ≠ q := fun e => by have := hzy.1; rw [e, hz.1] at this; exact absurd this (by decide)
  have hqt : tm k ≠ q := fun e => by have := ht.1; rw [e, hz.1] at this; exact absurd this (by decide)
  have hp0 : u.2.2.1 (b + 1) 0 = nI p := (hx.2.2.1 0 (p, tm k) rfl).1
  have hw0 : u.2.2.2 (b + 2) 0 = some (tm k) := (hx.2.2.1 0 (p, tm k) rfl).2
  have hll : (ks ++ b :: bs).length = ks.length + (b :: bs).length := List.length_append
  have hrw : nI (ks ++ b :: bs).length - nI ks.length = nI (b :: bs).length := by
    rw [hll]
    exact i_nI (by rw [show ((b :: bs).length : Int) = ((ks.length + (b :: bs).length - ks.length : Nat) : Int) by omega]; exact sub_hi (nI_hi (by omega)) (nI_hi (by omega)) (by omega))
  refine g_aload d_Tree_ask_73 rfl ?_
  refine g_iconst (v := 0) d_Tree_ask_75 (by decide) ?_
  refine z_put (k := 6) (j := 11) (x := 0) kc_Question fl_Tree_69 (by decide) hz (by decide) (fun _ => rfl) rfl rfl rfl (Nat.le_of_ble_eq_true rfl) rfl d_Tree_ask_76 ?_
  refine g_aload d_Tree_ask_79 rfl ?_
  refine g_iload_n d_Tree_ask_81 rfl ?_
  refine z_put (k := 6) (j := 0) (x := nI ks.length) kc_Question fl_Tree_130 (by decide) hz (by decide) (fun _ => rfl) rfl rfl rfl (Nat.le_of_ble_eq_true rfl) rfl d_Tree_ask_82 ?_
  refine g_aload d_Tree_ask_85 rfl ?_
  refine g_aload_n d_Tree_ask_87 rfl ?_
  refine x_get (k := 12) (j := 2) (v := .ref (a + 13)) kc_Tree fl_Tree_12 (by decide) (by decide) rfl rfl d_Tree_ask_88 ?_
  refine c_Vr (as := []) kv_Rows_size ml_Tree_122 rfl (x_at (k := 13) (by decide) rfl) (m_S_size) rfl (Nat.le_of_ble_eq_true rfl) rfl d_Tree_ask_91 rfl ?_
  rw [h13]
  refine g_iload_n d_Tree_ask_94 rfl ?_
  refine g_isub d_Tree_ask_95 ?_
  refine g_top (nI (b :: bs).length) hrw ?_
  refine z_put (k := 6) (j := 1) (x := nI (b :: bs).length) kc_Question fl_Tree_195 (by decide) hz (by decide) (fun _ => rfl) rfl rfl rfl (Nat.le_of_ble_eq_true rfl) rfl d_Tree_ask_96 ?_
  refine g_aload_n d_Tree_ask_99 rfl ?_
  refine x_get (k := 12) (j := 2) (v := .ref (a + 13)) kc_Tree fl_Tree_12 (by decide) (by decide) rfl rfl d_Tree_ask_100 ?_
  refine g_iload_n d_Tree_ask_103 rfl ?_
  refine c_Vr (as := [.int (nI ks.length)]) kv_Rows_rowAt ml_Tree_133 rfl (x_at (k := 13) (by decide) rfl) (m_S_rowAt (u := (uI (uI (uI u q 11 (0)) q 0 (nI ks.length)) q 1 (nI (b :: bs).length))) hlo hi) rfl (Nat.le_of_ble_eq_true rfl) rfl d_Tree_ask_104 rfl ?_
  refine g_astore d_Tree_ask_107 (by decide) rfl ?_
  refine g_aload d_Tree_ask_109 rfl ?_
  refine g_aload d_Tree_ask_111 rfl ?_
  refine z_get (k := 1) (j := 0) (v := .ref (b + 1)) kc_Row fl_Tree_197 (by decide) hw.1 (by decide) rfl rfl d_Tree_ask_113 ?_
  refine g_iconst (v := 0) d_Tree_ask_116 (by decide) ?_
  refine z_ald (k := 2) (j := 0) hw.2.1 (by decide) rfl (by decide) (by decide) d_Tree_ask_117 ?_
  rw [show (uI (uI (uI u q 11 (0)) q 0 (nI ks.length)) q 1 (nI (b :: bs).length)).2.2.1 (b + 1) 0 = nI p from by simp only [uI_o hq1]; exact hp0]
  refine z_put (k := 6) (j := 2) (x := nI p) kc_Question fl_Tree_75 (by decide) hz (by decide) (fun _ => rfl) rfl rfl rfl (Nat.le_of_ble_eq_true rfl) rfl d_Tree_ask_118 ?_
  refine g_aload d_Tree_ask_121 rfl ?_
  refine g_aload_n d_Tree_ask_123 rfl ?_
  refine x_get (k := 12) (j := 3) (v := .ref (a + 15)) kc_Tree fl_Tree_21 (by decide) (by decide) rfl rfl d_Tree_ask_124 ?_
  refine g_aload d_Tree_ask_127 rfl ?_
  refine z_get (k := 6) (j := 2) (v := .int ((uI (uI (uI (uI u q 11 (0)) q 0 (nI ks.length)) q 1 (nI (b :: bs).length)) q 2 (nI p)).2.2.1 q 2)) kc_Question fl_Tree_75 (by decide) hz (by decide) rfl rfl d_Tree_ask_129 ?_
  rw [show (uI (uI (uI (uI u q 11 (0)) q 0 (nI ks.length)) q 1 (nI (b :: bs).length)) q 2 (nI p)).2.2.1 q 2 = nI p from by simp only [uI_j]; rfl]
  refine c_Vr (as := [.int (nI p)]) kv_Places_distanceOf ml_Tree_199 rfl (x_at (k := 15) (by decide) rfl) (m_P_dist (u := (uI (uI (uI (uI u q 11 (0)) q 0 (nI ks.length)) q 1 (nI (b :: bs).length)) q 2 (nI p))) (X := p) h hy) rfl (Nat.le_of_ble_eq_true rfl) rfl d_Tree_ask_132 rfl ?_
  rw [show (uI (uI (uI (uI u q 11 (0)) q 0 (nI ks.length)) q 1 (nI (b :: bs).length)) q 2 (nI p)).2.2.1 y 0 = nI dist from by simp only [uI_o hqy]; exact hyd]
  refine z_put (k := 6) (j := 3) (x := nI dist) kc_Question fl_Tree_203 (by decide) hz (by decide) (fun _ => rfl) rfl rfl rfl (Nat.le_of_ble_eq_true rfl) rfl d_Tree_ask_135 ?_
  refine g_aload d_Tree_ask_138 rfl ?_
  refine g_aload_n d_Tree_ask_140 rfl ?_
  refine x_get (k := 12) (j := 3) (v := .ref (a + 15)) kc_Tree fl_Tree_21 (by decide) (by decide) rfl rfl d_Tree_ask_141 ?_
  refine c_Vr (as := []) kv_Places_size ml_Tree_206 rfl (x_at (k := 15) (by decide) rfl) (m_P_size) rfl (Nat.le_of_ble_eq_true rfl) rfl d_Tree_ask_144 rfl ?_
  rw [hX]
  refine z_put (k := 6) (j := 4) (x := nI X) kc_Question fl_Tree_207 (by decide) hz (by decide) (fun _ => rfl) rfl rfl rfl (Nat.le_of_ble_eq_true rfl) rfl d_Tree_ask_147 ?_
  refine g_aload d_Tree_ask_150 rfl ?_
  refine g_aload d_Tree_ask_152 rfl ?_
  refine z_get (k := 1) (j := 1) (v := .ref (b + 2)) kc_Row fl_Tree_141 (by decide) hw.1 (by decide) rfl rfl d_Tree_ask_154 ?_
  refine g_iconst (v := 0) d_Tree_ask_157 (by decide) ?_
  refine z_tald (k := 3) (j := 0) hw.2.2.1 (by decide) rfl (by decide) (by decide) hw0 d_Tree_ask_158 ?_
  refine z_get (k := 7) (j := 1) (v := .int ((uI (uI (uI (uI (uI (uI u q 11 (0)) q 0 (nI ks.length)) q 1 (nI (b :: bs).length)) q 2 (nI p)) q 3 (nI dist)) q 4 (nI X)).2.2.1 (tm k) 1)) kc_Term fl_Tree_209 (by decide) ht (by decide) rfl rfl d_Tree_ask_159 ?_
  rw [show (uI (uI (uI (uI (uI (uI u q 11 (0)) q 0 (nI ks.length)) q 1 (nI (b :: bs).length)) q 2 (nI p)) q 3 (nI dist)) q 4 (nI X)).2.2.1 (tm k) 1 = 0 from by simp only [uI_o hqt]; exact htk]
  refine g_if_ne (tgt := 169) d_Tree_ask_162 (by decide) (fun c_162 => absurd c_162 (by decide)) (fun c_162 => ?_)
  refine g_iconst (v := 1) d_Tree_ask_165 (by decide) ?_
  refine g_goto (tgt := 170) d_Tree_ask_166 (by decide) ?_
  refine z_put (k := 6) (j := 5) (x := 1) kc_Question fl_Tree_137 (by decide) hz (by decide) (fun _ => rfl) rfl rfl rfl (Nat.le_of_ble_eq_true rfl) rfl d_Tree_ask_170 ?_
  refine kk _ (by repeat (first | exact zqI_rf | refine zqI_tr ?_ zqI_I)) ?_ ?_ ?_ ?_ ?_ ?_ ?_ ?_
  · intro j h1 h2
    simp only [uI_j]
    rw [if_neg (by omega), if_neg (by omega), if_neg (by omega), if_neg (by omega), if_neg (by omega), if_neg (by omega), if_neg (by omega)]
  all_goals (simp only [uI_j]; rfl)
set_option maxHeartbeats 1000000 in
set_option maxRecDepth 100000 in
theorem m_T_askBk {q b y p k ow dist : Nat} {up via : Int32} {ws : List (Nat × Nat)} {bd : Nat → Option Nat} (h : hpOk E a B SS c u n sl (ks ++ b :: bs) sp ps qs ms) (hz : zIs u a q 6) (hl : (ks ++ b :: bs).length ≤ 1000) (hx : rc u tm b (ow, (p, k) :: ws, bd)) (hy : ps[p]? = some y) (hp4 : p < 4000) (hyd : u.2.2.1 y 0 = nI dist) (hX : c.1 16 = nI X) (ht : zIs u a (tm k) 7) (htk : u.2.2.1 (tm k) 1 = 1) (kk : ∀ u', zqI u u' q → (∀ j, 6 ≤ j → j ≤ 10 → u'.2.2.1 q j = u.2.2.1 q j) → u'.2.2.1 q 0 = nI ks.length → u'.2.2.1 q 1 = nI (b :: bs).length → u'.2.2.1 q 2 = nI p → u'.2.2.1 q 3 = nI dist → u'.2.2.1 q 4 = nI X → u'.2.2.1 q 5 = 0 → u'.2.2.1 q 11 = 0 → GT E Y_Tree_ask (d + 8) G0 173 [(0, .ref (a + 12)), (1, .int up), (2, .int via), (3, .int (nI ks.length)), (4, .ref q), (5, .ref b)] [] (yW E G a c u' n sl) Q) : GT E Y_Tree_ask (d + 8) G0 73 [(0, .ref (a + 12)), (1, .int up), (2, .int via), (3, .int (nI ks.length)), (4, .ref q)] [] (yW E G a c u n sl) Q := by
  have h13 := h.1.2.2.2.2.2.2.1
  have hlo := h.1.2.2.2.1
  have hw := (h.1.2.2.2.2.2.1 b (by simp)).1
  have hzy := (lOk_get h.2.1 hy).2.2.2.2.1
  have hi : ((ks ++ b :: bs) ++ sp)[ks.length]? = some b := by
    rw [List.append_assoc, List.cons_append]
    exact mid_at
  have hq1 : b + 1 ≠ q := fun e => by have := hw.2.1.1; rw [e, hz.1] at this; exact absurd this (by decide)
  have hqy : y ≠ q := fun e => by have := hzy.1; rw [e, hz.1] at this; exact absurd this (by decide)
  have hqt : tm k ≠ q := fun e => by have := ht.1; rw [e, hz.1] at this; exact absurd this (by decide)
  have hp0 : u.2.2.1 (b + 1) 0 = nI p := (hx.2.2.1 0 (p, tm k) rfl).1
  have hw0 : u.2.2.2 (b + 2) 0 = some (tm k) := (hx.2.2.1 0 (p, tm k) rfl).2
  have hll : (ks ++ b :: bs).length = ks.length + (b :: bs).length := List.length_append
  have hrw : nI (ks ++ b :: bs).length - nI ks.length = nI (b :: bs).length := by
    rw [hll]
    exact i_nI (by rw [show ((b :: bs).length : Int) = ((ks.length + (b :: bs).length - ks.length : Nat) : Int) by omega]; exact sub_hi (nI_hi (by omega)) (nI_hi (by omega)) (by omega))
  refine g_aload d_Tree_ask_73 rfl ?_
  refine g_iconst (v := 0) d_Tree_ask_75 (by decide) ?_
  refine z_put (k := 6) (j := 11) (x := 0) kc_Question fl_Tree_69 (by decide) hz (by decide) (fun _ => rfl) rfl rfl rfl (Nat.le_of_ble_eq_true rfl) rfl d_Tree_ask_76 ?_
  refine g_aload d_Tree_ask_79 rfl ?_
  refine g_iload_n d_Tree_ask_81 rfl ?_
  refine z_put (k := 6) (j := 0) (x := nI ks.length) kc_Question fl_Tree_130 (by decide) hz (by decide) (fun _ => rfl) rfl rfl rfl (Nat.le_of_ble_eq_true rfl) rfl d_Tree_ask_82 ?_
  refine g_aload d_Tree_ask_85 rfl ?_
  refine g_aload_n d_Tree_ask_87 rfl ?_
  refine x_get (k := 12) (j := 2) (v := .ref (a + 13)) kc_Tree fl_Tree_12 (by decide) (by decide) rfl rfl d_Tree_ask_88 ?_
  refine c_Vr (as := []) kv_Rows_size ml_Tree_122 rfl (x_at (k := 13) (by decide) rfl) (m_S_size) rfl (Nat.le_of_ble_eq_true rfl) rfl d_Tree_ask_91 rfl ?_
  rw [h13]
  refine g_iload_n d_Tree_ask_94 rfl ?_
  refine g_isub d_Tree_ask_95 ?_
  refine g_top (nI (b :: bs).length) hrw ?_
  refine z_put (k := 6) (j := 1) (x := nI (b :: bs).length) kc_Question fl_Tree_195 (by decide) hz (by decide) (fun _ => rfl) rfl rfl rfl (Nat.le_of_ble_eq_true rfl) rfl d_Tree_ask_96 ?_
  refine g_aload_n d_Tree_ask_99 rfl ?_
  refine x_get (k := 12) (j := 2) (v := .ref (a + 13)) kc_Tree fl_Tree_12 (by decide) (by decide) rfl rfl d_Tree_ask_100 ?_
  refine g_iload_n d_Tree_ask_103 rfl ?_
  refine c_Vr (as := [.int (nI ks.length)]) kv_Rows_rowAt ml_Tree_133 rfl (x_at (k := 13) (by decide) rfl) (m_S_rowAt (u := (uI (uI (uI u q 11 (0)) q 0 (nI ks.length)) q 1 (nI (b :: bs).length))) hlo hi) rfl (Nat.le_of_ble_eq_true rfl) rfl d_Tree_ask_104 rfl ?_
  refine g_astore d_Tree_ask_107 (by decide) rfl ?_
  refine g_aload d_Tree_ask_109 rfl ?_
  refine g_aload d_Tree_ask_111 rfl ?_
  refine z_get (k := 1) (j := 0) (v := .ref (b + 1)) kc_Row fl_Tree_197 (by decide) hw.1 (by decide) rfl rfl d_Tree_ask_113 ?_
  refine g_iconst (v := 0) d_Tree_ask_116 (by decide) ?_
  refine z_ald (k := 2) (j := 0) hw.2.1 (by decide) rfl (by decide) (by decide) d_Tree_ask_117 ?_
  rw [show (uI (uI (uI u q 11 (0)) q 0 (nI ks.length)) q 1 (nI (b :: bs).length)).2.2.1 (b + 1) 0 = nI p from by simp only [uI_o hq1]; exact hp0]
  refine z_put (k := 6) (j := 2) (x := nI p) kc_Question fl_Tree_75 (by decide) hz (by decide) (fun _ => rfl) rfl rfl rfl (Nat.le_of_ble_eq_true rfl) rfl d_Tree_ask_118 ?_
  refine g_aload d_Tree_ask_121 rfl ?_
  refine g_aload_n d_Tree_ask_123 rfl ?_
  refine x_get (k := 12) (j := 3) (v := .ref (a + 15)) kc_Tree fl_Tree_21 (by decide) (by decide) rfl rfl d_Tree_ask_124 ?_
  refine g_aload d_Tree_ask_127 rfl ?_
  refine z_get (k := 6) (j := 2) (v := .int ((uI (uI (uI (uI u q 11 (0)) q 0 (nI ks.length)) q 1 (nI (b :: bs).length)) q 2 (nI p)).2.2.1 q 2)) kc_Question fl_Tree_75 (by decide) hz (by decide) rfl rfl d_Tree_ask_129 ?_
  rw [show (uI (uI (uI (uI u q 11 (0)) q 0 (nI ks.length)) q 1 (nI (b :: bs).length)) q 2 (nI p)).2.2.1 q 2 = nI p from by simp only [uI_j]; rfl]
  refine c_Vr (as := [.int (nI p)]) kv_Places_distanceOf ml_Tree_199 rfl (x_at (k := 15) (by decide) rfl) (m_P_dist (u := (uI (uI (uI (uI u q 11 (0)) q 0 (nI ks.length)) q 1 (nI (b :: bs).length)) q 2 (nI p))) (X := p) h hy) rfl (Nat.le_of_ble_eq_true rfl) rfl d_Tree_ask_132 rfl ?_
  rw [show (uI (uI (uI (uI u q 11 (0)) q 0 (nI ks.length)) q 1 (nI (b :: bs).length)) q 2 (nI p)).2.2.1 y 0 = nI dist from by simp only [uI_o hqy]; exact hyd]
  refine z_put (k := 6) (j := 3) (x := nI dist) kc_Question fl_Tree_203 (by decide) hz (by decide) (fun _ => rfl) rfl rfl rfl (Nat.le_of_ble_eq_true rfl) rfl d_Tree_ask_135 ?_
  refine g_aload d_Tree_ask_138 rfl ?_
  refine g_aload_n d_Tree_ask_140 rfl ?_
  refine x_get (k := 12) (j := 3) (v := .ref (a + 15)) kc_Tree fl_Tree_21 (by decide) (by decide) rfl rfl d_Tree_ask_141 ?_
  refine c_Vr (as := []) kv_Places_size ml_Tree_206 rfl (x_at (k := 15) (by decide) rfl) (m_P_size) rfl (Nat.le_of_ble_eq_true rfl) rfl d_Tree_ask_144 rfl ?_
  rw [hX]
  refine z_put (k := 6) (j := 4) (x := nI X) kc_Question fl_Tree_207 (by decide) hz (by decide) (fun _ => rfl) rfl rfl rfl (Nat.le_of_ble_eq_true rfl) rfl d_Tree_ask_147 ?_
  refine g_aload d_Tree_ask_150 rfl ?_
  refine g_aload d_Tree_ask_152 rfl ?_
  refine z_get (k := 1) (j := 1) (v := .ref (b + 2)) kc_Row fl_Tree_141 (by decide) hw.1 (by decide) rfl rfl d_Tree_ask_154 ?_
  refine g_iconst (v := 0) d_Tree_ask_157 (by decide) ?_
  refine z_tald (k := 3) (j := 0) hw.2.2.1 (by decide) rfl (by decide) (by decide) hw0 d_Tree_ask_158 ?_
  refine z_get (k := 7) (j := 1) (v := .int ((uI (uI (uI (uI (uI (uI u q 11 (0)) q 0 (nI ks.length)) q 1 (nI (b :: bs).length)) q 2 (nI p)) q 3 (nI dist)) q 4 (nI X)).2.2.1 (tm k) 1)) kc_Term fl_Tree_209 (by decide) ht (by decide) rfl rfl d_Tree_ask_159 ?_
  rw [show (uI (uI (uI (uI (uI (uI u q 11 (0)) q 0 (nI ks.length)) q 1 (nI (b :: bs).length)) q 2 (nI p)) q 3 (nI dist)) q 4 (nI X)).2.2.1 (tm k) 1 = 1 from by simp only [uI_o hqt]; exact htk]
  refine g_if_ne (tgt := 169) d_Tree_ask_162 (by decide) (fun c_162 => ?_) (fun c_162 => absurd c_162 (by decide))
  refine g_iconst (v := 0) d_Tree_ask_169 (by decide) ?_
  refine z_put (k := 6) (j := 5) (x := 0) kc_Question fl_Tree_137 (by decide) hz (by decide) (fun _ => rfl) rfl rfl rfl (Nat.le_of_ble_eq_true rfl) rfl d_Tree_ask_170 ?_
  refine kk _ (by repeat (first | exact zqI_rf | refine zqI_tr ?_ zqI_I)) ?_ ?_ ?_ ?_ ?_ ?_ ?_ ?_
  · intro j h1 h2
    simp only [uI_j]
    rw [if_neg (by omega), if_neg (by omega), if_neg (by omega), if_neg (by omega), if_neg (by omega), if_neg (by omega), if_neg (by omega)]
  all_goals (simp only [uI_j]; rfl)
/-- what ask leaves of the class -/
def akF (c c' : cS) (nk : Nat) : Prop := (∀ j, j ≠ 7 → j ≠ 12 → c'.1 j = c.1 j) ∧ (∀ j, j ≠ 4 → c'.2.1 j = c.2.1 j) ∧ c'.2.2 = c.2.2 ∧ ∀ i, i < nk → c'.2.1 4 i = c.2.1 4 i
theorem max_nI {x y : Nat} (hx : x < 2 ^ 31) (hy : y < 2 ^ 31) : (if nI x < nI y then nI y else nI x) = nI (max x y) := by
  by_cases h : x < y
  · rw [if_pos ((lt_hi (nI_hi hx) (nI_hi hy)).mpr h), Nat.max_eq_right (by omega)]
  · rw [if_neg (fun z => h ((lt_hi (nI_hi hx) (nI_hi hy)).mp z)), Nat.max_eq_left (by omega)]
set_option maxHeartbeats 1000000 in
set_option maxRecDepth 100000 in
theorem m_T_askCn (wf : wfA P N pos) (wb : wfB P N) (wk : wfK P N) (tp : tmP P N tm ob T) (tw : tmW P u a tm ob T) {q b p wy lg : Nat} {up via : Int32} (hz : zIs u a q 6) (h7 : c.1 7 = nI nk) (h12 : c.1 12 = nI lg) (hlg : lg < 10000) (hwy : u.2.2.1 q 8 = nI wy) (hwy2 : wy < 10000) {R : List rC} (h : hpOk E a B SS c u n sl (ks ++ b :: bs) sp ps qs ms) (hR : ∀ A ∈ R, tI P N ob T A.2.1 A.2.2 ∧ ∀ q ∈ A.2.1, aK P q.2 ∧ q.1 < 10000) (hp : p < 10000) (f0 : u.2.2.1 q 0 = nI ks.length) (f1 : u.2.2.1 q 1 = nI (b :: bs).length) (f2 : u.2.2.1 q 2 = nI p) (f5 : u.2.2.1 q 5 = 1) (hnk : nk + R.length ≤ 800) (hl0 : (ks ++ b :: bs).length ≤ 900) (hr : rcs u tm (b :: bs) R) (kk : ∀ c' u', zqI u u' q → (∀ j, j ≠ 6 → j ≠ 7 → u'.2.2.1 q j = u.2.2.1 q j) → u'.2.2.1 q 6 = nI nk → u'.2.2.1 q 7 = nI ((aSrt [] (nsC P p R)).length + 1) → akF c c' nk → c'.1 7 = nI (nk + (aSrt [] (nsC P p R)).length) → nuA c' nk (aSrt [] (nsC P p R)) → c'.1 12 = nI (max lg (wy + 1)) → Q (.inl (some (.int 1))) (yW E G a c' u' n sl)) : GT E Y_Tree_ask (d + 8) G0 173 [(0, .ref (a + 12)), (1, .int up), (2, .int via), (3, .int (nI ks.length)), (4, .ref q), (5, .ref b)] [] (yW E G a c u n sl) Q := by
  have hS : (aSrt [] (nsC P p R)).length ≤ R.length := by
    have h1 := aSrt_len (l := nsC P p R) (S := [])
    have h2 := nsC_len (P := P) (p := p) R
    simp only [List.length_nil] at h1
    omega
  have hz6 : zIs (uI u q 6 (nI nk)) a q 6 := hz
  have tw6 : tmW P (uI u q 6 (nI nk)) a tm ob T := tmW_to tw (fun y hy => ⟨rfl, rfl, uI_o (fun e => by rw [e, hz.1] at hy; omega), rfl⟩)
  have hk6 := zqI_k (n := n) (zqI_I (u := u) (q := q) (j := 6) (x := nI nk)) hz.1
  obtain ⟨h6, hx6⟩ := zqI_hp (u' := uI u q 6 (nI nk)) h zqI_I hz.1
  have hr6 : rcs (uI u q 6 (nI nk)) tm (b :: bs) R := rcs_fr hr (fun y hy => hx6 y (by simp only [List.mem_append]; exact Or.inl (Or.inr hy)))
  have KN := m_T_keepNumbers (E := E) (d := d + 3) (G := G) (lA := ks) (qr := b :: bs) (lB := []) (q0 := q) (p := p) (f := nk) (R := R) wf wb wk tp tw6 (by rw [List.append_nil]; exact h6) hR hp hz6 (by simp only [uI_j]; exact f0) (by simp only [uI_j]; exact f1) (by simp only [uI_j]; exact f2) (by simp only [uI_j]; rfl) hnk (by rw [List.append_nil]; exact hl0) h7 hr6
  refine g_aload d_Tree_ask_173 rfl ?_
  refine g_aload_n d_Tree_ask_175 rfl ?_
  refine x_get (k := 12) (j := 8) (v := .int (c.1 7)) kc_Tree fl_Tree_93 (by decide) (by decide) rfl rfl d_Tree_ask_176 ?_
  rw [h7]
  refine z_put (k := 6) (j := 6) (x := nI nk) kc_Question fl_Tree_212 (by decide) hz (by decide) (fun _ => rfl) rfl rfl rfl (Nat.le_of_ble_eq_true rfl) rfl d_Tree_ask_179 ?_
  refine g_aload d_Tree_ask_182 rfl ?_
  refine z_get (k := 6) (j := 5) (v := .int ((uI u q 6 (nI nk)).2.2.1 q 5)) kc_Question fl_Tree_137 (by decide) hz (by decide) rfl rfl d_Tree_ask_184 ?_
  rw [show (uI u q 6 (nI nk)).2.2.1 q 5 = 1 from by simp only [uI_j]; exact f5]
  refine g_if_eq (tgt := 216) d_Tree_ask_187 (by decide) (fun c_187 => absurd c_187 (by decide)) (fun c_187 => ?_)
  refine g_aload_n d_Tree_ask_190 rfl ?_
  refine g_aload d_Tree_ask_191 rfl ?_
  refine c_Vx (as := [.ref (q)]) kv_Tree_keepNumbers ml_Tree_215 rfl (x_at (k := 12) (by decide) rfl) (KN) rfl (Nat.le_of_ble_eq_true rfl) rfl d_Tree_ask_193 rfl (fun G_193 h_193 => ?_)
  obtain ⟨c1, rfl, hn1⟩ := h_193
  refine g_aload d_Tree_ask_196 rfl ?_
  refine g_aload_n d_Tree_ask_198 rfl ?_
  refine x_get (k := 12) (j := 8) (v := .int (c1.1 7)) kc_Tree fl_Tree_93 (by decide) (by decide) rfl rfl d_Tree_ask_199 ?_
  rw [hn1.1]
  refine g_aload d_Tree_ask_202 rfl ?_
  refine z_get (k := 6) (j := 6) (v := .int ((uI u q 6 (nI nk)).2.2.1 q 6)) kc_Question fl_Tree_212 (by decide) hz (by decide) rfl rfl d_Tree_ask_204 ?_
  rw [show (uI u q 6 (nI nk)).2.2.1 q 6 = nI nk from by simp only [uI_j]; exact rfl]
  refine g_isub d_Tree_ask_207 ?_
  refine g_iconst (v := 1) d_Tree_ask_208 (by decide) ?_
  refine g_iadd d_Tree_ask_209 ?_
  refine g_top (nI ((aSrt [] (nsC P p R)).length + 1)) (by rw [show nI (nk + (aSrt [] (nsC P p R)).length) - nI nk = nI (aSrt [] (nsC P p R)).length from i_nI (by rw [show ((aSrt [] (nsC P p R)).length : Int) = ((nk + (aSrt [] (nsC P p R)).length - nk : Nat) : Int) by omega]; exact sub_hi (nI_hi (by omega)) (nI_hi (by omega)) (by omega))]; exact nI_1 _) ?_
  refine z_put (k := 6) (j := 7) (x := nI ((aSrt [] (nsC P p R)).length + 1)) kc_Question fl_Tree_72 (by decide) hz (by decide) (fun _ => rfl) rfl rfl rfl (Nat.le_of_ble_eq_true rfl) rfl d_Tree_ask_210 ?_
  refine g_goto (tgt := 238) d_Tree_ask_213 (by decide) ?_
  refine g_aload_n d_Tree_ask_238 rfl ?_
  refine g_aload_n d_Tree_ask_239 rfl ?_
  refine x_get (k := 12) (j := 13) (v := .int (c1.1 12)) kc_Tree fl_Tree_108 (by decide) (by decide) rfl rfl d_Tree_ask_240 ?_
  rw [hn1.2.2.1 12 (by decide), h12]
  refine g_aload d_Tree_ask_243 rfl ?_
  refine z_get (k := 6) (j := 8) (v := .int ((uI (uI u q 6 (nI nk)) q 7 (nI ((aSrt [] (nsC P p R)).length + 1))).2.2.1 q 8)) kc_Question fl_Tree_192 (by decide) hz (by decide) rfl rfl d_Tree_ask_245 ?_
  rw [show (uI (uI u q 6 (nI nk)) q 7 (nI ((aSrt [] (nsC P p R)).length + 1))).2.2.1 q 8 = nI wy from by simp only [uI_j]; exact hwy]
  refine g_iconst (v := 1) d_Tree_ask_248 (by decide) ?_
  refine g_iadd d_Tree_ask_249 ?_
  refine g_top (nI (wy + 1)) (nI_1 wy) ?_
  refine c_Sr (as := [.int (nI lg), .int (nI (wy + 1))]) ks_Math_max ml_Tree_222 (m_Math_max _ _) rfl (Nat.le_of_ble_eq_true rfl) rfl d_Tree_ask_250 rfl ?_
  refine g_top (nI (max lg (wy + 1))) (max_nI (by omega) (by omega)) ?_
  refine x_put (c' := (cF c1 12 (nI (max lg (wy + 1))))) (k := 12) (j := 13) kc_Tree fl_Tree_108 (by decide) (by decide) rfl rfl rfl rfl (Nat.le_of_ble_eq_true rfl) rfl rfl xf_F12 d_Tree_ask_253 ?_
  refine g_iconst (v := 1) d_Tree_ask_256 (by decide) ?_
  refine g_zret rfl rfl d_Tree_ask_257 ?_
  refine kk _ _ (zqI_tr zqI_I zqI_I) (fun j h1 h2 => ?_) ?_ ?_ ⟨fun j h1 h2 => (up_ne h2).trans (hn1.2.2.1 j h1), hn1.2.2.2.1, hn1.2.2.2.2.1, hn1.2.2.2.2.2⟩ hn1.1 hn1.2.1 rfl
  · simp only [uI_j]
    rw [if_neg h2, if_neg h1]
  · simp only [uI_j]
    rfl
  · simp only [uI_j]
    rfl
set_option maxHeartbeats 1000000 in
set_option maxRecDepth 100000 in
theorem m_T_askCk {q b p wy lg : Nat} {up via : Int32} (hz : zIs u a q 6) (h7 : c.1 7 = nI nk) (h12 : c.1 12 = nI lg) (hlg : lg < 10000) (hwy : u.2.2.1 q 8 = nI wy) (hwy2 : wy < 10000) {k ty TT : Nat} {ow : Nat} {ws : List (Nat × Nat)} {bd : Nat → Option Nat} (h : hpOk E a B SS c u n sl (ks ++ b :: bs) sp ps qs ms) (hx : rc u tm b (ow, (p, k) :: ws, bd)) (ht : zIs u a (tm k) 7) (hty : u.2.2.1 (tm k) 0 = nI ty) (hty2 : ty < 16) (hT : c.2.1 0 ty = nI TT) (hTT : TT < 100) (f5 : u.2.2.1 q 5 = 0) (kk : ∀ c' u', zqI u u' q → (∀ j, j ≠ 6 → j ≠ 7 → u'.2.2.1 q j = u.2.2.1 q j) → u'.2.2.1 q 6 = nI nk → u'.2.2.1 q 7 = nI TT → akF c c' nk → c'.1 7 = c.1 7 → c'.2.1 = c.2.1 → c'.1 12 = nI (max lg (wy + 1)) → Q (.inl (some (.int 1))) (yW E G a c' u' n sl)) : GT E Y_Tree_ask (d + 8) G0 173 [(0, .ref (a + 12)), (1, .int up), (2, .int via), (3, .int (nI ks.length)), (4, .ref q), (5, .ref b)] [] (yW E G a c u n sl) Q := by
  have hw := (h.1.2.2.2.2.2.1 b (by simp)).1
  have hqt : tm k ≠ q := fun e => by have := ht.1; rw [e, hz.1] at this; exact absurd this (by decide)
  have hw0 : u.2.2.2 (b + 2) 0 = some (tm k) := (hx.2.2.1 0 (p, tm k) rfl).2
  have hval : (if tTold (c.2.1 0) (nI ty) then c.2.1 0 (tn (nI ty)) else 0) = nI TT := by
    rw [if_pos ⟨⟨nlt_hi (nI_hi (by omega)), ige (m := 16) (by omega) (by omega) hty2⟩, by rw [tnI (by omega), hT]; exact nI_ne1 (by omega)⟩, tnI (by omega)]
    exact hT
  refine g_aload d_Tree_ask_173 rfl ?_
  refine g_aload_n d_Tree_ask_175 rfl ?_
  refine x_get (k := 12) (j := 8) (v := .int (c.1 7)) kc_Tree fl_Tree_93 (by decide) (by decide) rfl rfl d_Tree_ask_176 ?_
  rw [h7]
  refine z_put (k := 6) (j := 6) (x := nI nk) kc_Question fl_Tree_212 (by decide) hz (by decide) (fun _ => rfl) rfl rfl rfl (Nat.le_of_ble_eq_true rfl) rfl d_Tree_ask_179 ?_
  refine g_aload d_Tree_ask_182 rfl ?_
  refine z_get (k := 6) (j := 5) (v := .int ((uI u q 6 (nI nk)).2.2.1 q 5)) kc_Question fl_Tree_137 (by decide) hz (by decide) rfl rfl d_Tree_ask_184 ?_
  rw [show (uI u q 6 (nI nk)).2.2.1 q 5 = 0 from by simp only [uI_j]; exact f5]
  refine g_if_eq (tgt := 216) d_Tree_ask_187 (by decide) (fun c_187 => ?_) (fun c_187 => absurd c_187 (by decide))
  refine g_aload d_Tree_ask_216 rfl ?_
  refine g_aload_n d_Tree_ask_218 rfl ?_
  refine x_get (k := 12) (j := 0) (v := .ref (a + 1)) kc_Tree fl_Tree_39 (by decide) (by decide) rfl rfl d_Tree_ask_219 ?_
  refine g_aload d_Tree_ask_222 rfl ?_
  refine z_get (k := 1) (j := 1) (v := .ref (b + 2)) kc_Row fl_Tree_141 (by decide) hw.1 (by decide) rfl rfl d_Tree_ask_224 ?_
  refine g_iconst (v := 0) d_Tree_ask_227 (by decide) ?_
  refine z_tald (k := 3) (j := 0) hw.2.2.1 (by decide) rfl (by decide) (by decide) hw0 d_Tree_ask_228 ?_
  refine z_get (k := 7) (j := 0) (v := .int ((uI u q 6 (nI nk)).2.2.1 (tm k) 0)) kc_Term fl_Tree_147 (by decide) ht (by decide) rfl rfl d_Tree_ask_229 ?_
  rw [show (uI u q 6 (nI nk)).2.2.1 (tm k) 0 = nI ty from by simp only [uI_o hqt]; exact hty]
  refine c_Vr (as := [.int (nI ty)]) kv_Types_constructorsOf ml_Tree_219 rfl (x_at (k := 1) (by decide) rfl) (m_Types_constructorsOf (d := d + 5) (x_at (k := 1) (by decide) rfl) (x_at (k := 2) (by decide) rfl) (nI ty)) rfl (Nat.le_of_ble_eq_true rfl) rfl d_Tree_ask_232 rfl ?_
  rw [hval]
  refine z_put (k := 6) (j := 7) (x := nI TT) kc_Question fl_Tree_72 (by decide) hz (by decide) (fun _ => rfl) rfl rfl rfl (Nat.le_of_ble_eq_true rfl) rfl d_Tree_ask_235 ?_
  refine g_aload_n d_Tree_ask_238 rfl ?_
  refine g_aload_n d_Tree_ask_239 rfl ?_
  refine x_get (k := 12) (j := 13) (v := .int (c.1 12)) kc_Tree fl_Tree_108 (by decide) (by decide) rfl rfl d_Tree_ask_240 ?_
  rw [h12]
  refine g_aload d_Tree_ask_243 rfl ?_
  refine z_get (k := 6) (j := 8) (v := .int ((uI (uI u q 6 (nI nk)) q 7 (nI TT)).2.2.1 q 8)) kc_Question fl_Tree_192 (by decide) hz (by decide) rfl rfl d_Tree_ask_245 ?_
  rw [show (uI (uI u q 6 (nI nk)) q 7 (nI TT)).2.2.1 q 8 = nI wy from by simp only [uI_j]; exact hwy]
  refine g_iconst (v := 1) d_Tree_ask_248 (by decide) ?_
  refine g_iadd d_Tree_ask_249 ?_
  refine g_top (nI (wy + 1)) (nI_1 wy) ?_
  refine c_Sr (as := [.int (nI lg), .int (nI (wy + 1))]) ks_Math_max ml_Tree_222 (m_Math_max _ _) rfl (Nat.le_of_ble_eq_true rfl) rfl d_Tree_ask_250 rfl ?_
  refine g_top (nI (max lg (wy + 1))) (max_nI (by omega) (by omega)) ?_
  refine x_put (c' := (cF c 12 (nI (max lg (wy + 1))))) (k := 12) (j := 13) kc_Tree fl_Tree_108 (by decide) (by decide) rfl rfl rfl rfl (Nat.le_of_ble_eq_true rfl) rfl rfl xf_F12 d_Tree_ask_253 ?_
  refine g_iconst (v := 1) d_Tree_ask_256 (by decide) ?_
  refine g_zret rfl rfl d_Tree_ask_257 ?_
  refine kk _ _ (zqI_tr zqI_I zqI_I) (fun j h1 h2 => ?_) ?_ ?_ ⟨fun j h1 h2 => up_ne h2, fun _ _ => rfl, rfl, fun _ _ => rfl⟩ rfl rfl rfl
  · simp only [uI_j]
    rw [if_neg h2, if_neg h1]
  · simp only [uI_j]
    rfl
  · simp only [uI_j]
    rfl
end CJ
