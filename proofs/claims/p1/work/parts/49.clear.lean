/-! clear, where the passage has met nothing -/
section XM
variable {E : gE} {d : Nat} {G : gS} {a : Nat} {c c' : cS} {Y : gY} {G0 : gS} {Q : gO → gS → Prop} {pc : Nat} {lv : List (Nat × Value)} {rest : List Value}
def kDrop (c : cS) (j : Nat) : cS := cF c j (if 0 < c.1 j - c.1 j then c.1 j - c.1 j else 0)
def kCl1 (c : cS) : cS := kDrop (kDrop (kForT c) 4) 5
def kCl2 (c : cS) : cS := kForP (cF (kCl1 c) 3 0)
def kClear (c : cS) : cS := cF (cF (cF (kCl2 c) 0 0) 1 0) 2 0
theorem kCl_23 {c : cS} (h : c.1 23 = 0) : (cF (kCl1 c) 3 0).1 23 = 0 := h
set_option maxHeartbeats 400000 in
set_option maxRecDepth 100000 in
theorem clear_tail {G0 : gS} : GT E Y_Mill_clear (d + 10) G0 49 [(0, .ref a)] [] (xW E G a c) (rIs none (xW E G a (cF (cF (cF c 0 0) 1 0) 2 0))) := by
  refine g_aload_n d_Mill_clear_49 rfl ?_
  refine g_iconst (v := 0) d_Mill_clear_50 (by decide) ?_
  refine x_put (c' := (cF c 0 (0))) (k := 0) (j := 6) kc_Mill fl_Mill_56 (by decide) (by decide) rfl rfl rfl rfl (Nat.le_of_ble_eq_true rfl) rfl rfl xf_F0 d_Mill_clear_51 ?_
  refine g_aload_n d_Mill_clear_54 rfl ?_
  refine c_Vr (as := []) kv_Mill_forgetTree ml_Mill_148 rfl (x_at (k := 0) (by decide) rfl) (m_X_forgetTree (c := (cF c 0 (0)))) rfl (Nat.le_of_ble_eq_true rfl) rfl d_Mill_clear_55 rfl ?_
  refine g_vret rfl d_Mill_clear_58 ?_
  exact ⟨rfl, rfl⟩
set_option maxHeartbeats 400000 in
set_option maxRecDepth 100000 in
theorem m_X_clear0 (h : c.1 23 = 0) : GM E Y_Mill_clear (d + 10) [.ref a] (xW E G a c) (rIs none (xW E G a (kClear c))) := by
  refine g_entry (by decide) (by simp [Value.category]) (Nat.le_of_ble_eq_true rfl) ?_
  refine g_aload_n d_Mill_clear_0 rfl ?_
  refine x_get (k := 0) (j := 0) (v := .ref (a + 1)) kc_Mill fl_Mill_15 (by decide) (by decide) rfl rfl d_Mill_clear_1 ?_
  refine c_Vr (as := []) kv_Types_forget ml_Mill_202 rfl (x_at (k := 1) (by decide) rfl) (m_X_forgetT) rfl (Nat.le_of_ble_eq_true rfl) rfl d_Mill_clear_4 rfl ?_
  refine g_aload_n d_Mill_clear_7 rfl ?_
  refine x_get (k := 0) (j := 1) (v := .ref (a + 8)) kc_Mill fl_Mill_26 (by decide) (by decide) rfl rfl d_Mill_clear_8 ?_
  refine g_aload_n d_Mill_clear_11 rfl ?_
  refine x_get (k := 0) (j := 1) (v := .ref (a + 8)) kc_Mill fl_Mill_26 (by decide) (by decide) rfl rfl d_Mill_clear_12 ?_
  refine c_Vr (as := []) kv_Pile_height ml_Mill_113 rfl (x_at (k := 8) (by decide) rfl) (m_X_height_8 (c := (kForT c))) rfl (Nat.le_of_ble_eq_true rfl) rfl d_Mill_clear_15 rfl ?_
  refine c_Vr (as := [.int ((kForT c).1 4)]) kv_Pile_drop ml_Mill_136 rfl (x_at (k := 8) (by decide) rfl) (m_X_drop_8 (c := (kForT c)) ((kForT c).1 4)) rfl (Nat.le_of_ble_eq_true rfl) rfl d_Mill_clear_18 rfl ?_
  refine g_aload_n d_Mill_clear_21 rfl ?_
  refine x_get (k := 0) (j := 2) (v := .ref (a + 10)) kc_Mill fl_Mill_30 (by decide) (by decide) rfl rfl d_Mill_clear_22 ?_
  refine g_aload_n d_Mill_clear_25 rfl ?_
  refine x_get (k := 0) (j := 2) (v := .ref (a + 10)) kc_Mill fl_Mill_30 (by decide) (by decide) rfl rfl d_Mill_clear_26 ?_
  refine c_Vr (as := []) kv_Pile_height ml_Mill_113 rfl (x_at (k := 10) (by decide) rfl) (m_X_height_10 (c := (kDrop (kForT c) 4))) rfl (Nat.le_of_ble_eq_true rfl) rfl d_Mill_clear_29 rfl ?_
  refine c_Vr (as := [.int ((kDrop (kForT c) 4).1 5)]) kv_Pile_drop ml_Mill_136 rfl (x_at (k := 10) (by decide) rfl) (m_X_drop_10 (c := (kDrop (kForT c) 4)) ((kDrop (kForT c) 4).1 5)) rfl (Nat.le_of_ble_eq_true rfl) rfl d_Mill_clear_32 rfl ?_
  refine g_aload_n d_Mill_clear_35 rfl ?_
  refine x_get (k := 0) (j := 3) (v := .ref (a + 5)) kc_Mill fl_Mill_19 (by decide) (by decide) rfl rfl d_Mill_clear_36 ?_
  refine c_Vr (as := []) kv_Cases_forget ml_Mill_205 rfl (x_at (k := 5) (by decide) rfl) (m_X_forgetC (c := kCl1 c)) rfl (Nat.le_of_ble_eq_true rfl) rfl d_Mill_clear_39 rfl ?_
  refine g_aload_n d_Mill_clear_42 rfl ?_
  refine x_get (k := 0) (j := 5) (v := .ref (a + 20)) kc_Mill fl_Mill_45 (by decide) (by decide) rfl rfl d_Mill_clear_43 ?_
  refine c_Vr (as := []) kv_Passage_forget ml_Mill_206 rfl (x_at (k := 20) (by decide) rfl) (m_X_forgetP0 (c := (cF (kCl1 c) 3 0)) (kCl_23 h)) rfl (Nat.le_of_ble_eq_true rfl) rfl d_Mill_clear_46 rfl ?_
  exact clear_tail (c := kCl2 c)
end XM
