/-! ArrayList's add, remove, add at a place -/
section AM
variable {E : gE} {d : Nat} {G G0 : gS} {a : Nat} {c c' : cS} {u u' : uS} {n sl : Nat} {Y : gY} {Q : gO → gS → Prop} {pc : Nat} {lv : List (Nat × Value)} {rest : List Value} {k im is D : Nat}
theorem zIs_G {q b kb N M : Nat} (h : zIs u a b kb) (hb : b ≠ n) : zIs (uG u n q k N M) a b kb := ⟨(upN_ne hb).trans h.1, h.2⟩
theorem zIs_Gat {q N M : Nat} (h : a + 24 ≤ n) : zIs (uG u n q k N M) a n k := ⟨upN_at, h⟩
set_option maxHeartbeats 400000 in
set_option maxRecDepth 100000 in
theorem m_L_put0 (hL : lK k im is D) {b kb : Nat} (hz : zIs u a (c.2.2.2 D) (9 + D)) {j M : Nat} (hM : u.2.1 (c.2.2.2 D) = M) (hMb : M ≤ 60000) (hj : j < M) (hv : zIs u a b kb) (hk : kb = 1 ∨ kb = 5 ∨ kb = 6 ∨ kb = 7) : GM E Y_ArrayList_add2 d [.ref (a + k), .ref b, .ref (c.2.2.2 D), .int (nI j)] (yW E G a c u n sl) (rIs none (yW E G a (cF c is (nI (j + 1))) (uT u (c.2.2.2 D) j (some b)) n sl)) := by
  refine g_entry (by decide) (by simp [Value.category]) (Nat.le_of_ble_eq_true rfl) ?_
  refine g_iload_n d_ArrayList_add2_0 rfl ?_
  refine g_aload_n d_ArrayList_add2_1 rfl ?_
  refine z_olen (v := nI M) hL.2.2.1 hz (by rw [hM]; rfl) d_ArrayList_add2_2 ?_
  refine g_icmp_ne (tgt := 11) d_ArrayList_add2_3 (by decide) (fun c_3 => ?_) (fun c_3 => ?_)
  rotate_left
  · exact absurd c_3 (nI_ne (by omega) (by omega) (by omega))
  refine g_aload_n d_ArrayList_add2_11 rfl ?_
  refine g_iload_n d_ArrayList_add2_12 rfl ?_
  refine g_aload_n d_ArrayList_add2_13 rfl ?_
  refine z_oast hL.2.2.1 hz (nI_hi (by omega)) (by omega) hv hk d_ArrayList_add2_14 ?_
  refine g_aload_n d_ArrayList_add2_15 rfl ?_
  refine g_iload_n d_ArrayList_add2_16 rfl ?_
  refine g_iconst (v := 1) d_ArrayList_add2_17 (by decide) ?_
  refine g_iadd d_ArrayList_add2_18 ?_
  refine g_top (nI (j + 1)) (nI_1 j) ?_
  refine l_is (x := nI (j + 1)) hL fl_ArrayList_48 d_ArrayList_add2_19 ?_
  refine g_vret rfl d_ArrayList_add2_22 ?_
  exact ⟨rfl, rfl⟩
set_option maxHeartbeats 400000 in
set_option maxRecDepth 100000 in
theorem m_L_put1 (hL : lK k im is D) {b kb : Nat} (hD : c.2.2.2 D = gDef E) (h0 : c.1 is = 0) (ha : a + 24 ≤ n) (hc : n + 1 ≤ E.1.heap.size + room_1.cells) (hs : sl + 10 ≤ room_1.slots) (hv : zIs u a b kb) (hb : b < n) (hk : kb = 1 ∨ kb = 5 ∨ kb = 6 ∨ kb = 7) : GM E Y_ArrayList_add2 (d + 5) [.ref (a + k), .ref b, .ref (gDef E), .int 0] (yW E G a c u n sl) (rIs none (yW E G a (cF (cD c D n) is (nI (0 + 1))) (uT (uN u n (9 + D) 10 (fun _ => 0) (fun _ => none)) n 0 (some b)) (n + 1) (sl + 10))) := by
  refine g_entry (by decide) (by simp [Value.category]) (Nat.le_of_ble_eq_true rfl) ?_
  refine g_iload_n d_ArrayList_add2_0 rfl ?_
  refine g_aload_n d_ArrayList_add2_1 rfl ?_
  refine g_defLen d_ArrayList_add2_2 ?_
  refine g_icmp_ne (tgt := 11) d_ArrayList_add2_3 (by decide) (fun c_3 => ?_) (fun c_3 => ?_)
  · exact absurd c_3 (fun e => e rfl)
  refine g_aload_n d_ArrayList_add2_6 rfl ?_
  refine c_Vr (as := []) kv_ArrayList_grow ml_ArrayList_129 rfl (l_at hL) (m_L_grow00 hL hD h0 ha hc hs) rfl (Nat.le_of_ble_eq_true rfl) rfl d_ArrayList_add2_7 rfl ?_
  refine g_astore_n d_ArrayList_add2_10 (by decide) rfl ?_
  refine g_aload_n d_ArrayList_add2_11 rfl ?_
  refine g_iload_n d_ArrayList_add2_12 rfl ?_
  refine g_aload_n d_ArrayList_add2_13 rfl ?_
  refine z_oast (u := (uN u n (9 + D) 10 (fun _ => 0) (fun _ => none))) (j := 0) hL.2.2.1 (zIs_at ha) (by decide) (by rw [show (uN u n (9 + D) 10 (fun _ => 0) (fun _ => none)).2.1 n = 10 from upN_at]; decide) (zIs_new hv (by omega)) hk d_ArrayList_add2_14 ?_
  refine g_aload_n d_ArrayList_add2_15 rfl ?_
  refine g_iload_n d_ArrayList_add2_16 rfl ?_
  refine g_iconst (v := 1) d_ArrayList_add2_17 (by decide) ?_
  refine g_iadd d_ArrayList_add2_18 ?_
  refine g_top (nI (0 + 1)) (by decide) ?_
  refine l_is (x := nI (0 + 1)) hL fl_ArrayList_48 d_ArrayList_add2_19 ?_
  refine g_vret rfl d_ArrayList_add2_22 ?_
  exact ⟨rfl, rfl⟩
set_option maxHeartbeats 400000 in
set_option maxRecDepth 100000 in
theorem m_L_put2 (hL : lK k im is D) {M : Nat} (hz : zIs u a (c.2.2.2 D) (9 + D)) (hq : c.2.2.2 D < n) (ha : a + 24 ≤ n) (hM : u.2.1 (c.2.2.2 D) = M) (hM0 : 2 ≤ M) (hMb : M ≤ 60000) {kb : Nat} (hk : kb = 1 ∨ kb = 5 ∨ kb = 6 ∨ kb = 7) (hel : ∀ i, i < M → ∀ y, u.2.2.2 (c.2.2.2 D) i = some y → zIs u a y kb ∧ y < n) (hc : n + 1 ≤ E.1.heap.size + room_1.cells) (hs : sl + (M + M / 2) ≤ room_1.slots) (h0 : c.1 is = nI M) {b : Nat} (hv : zIs u a b kb) (hb : b < n) : GM E Y_ArrayList_add2 (d + 5) [.ref (a + k), .ref b, .ref (c.2.2.2 D), .int (nI M)] (yW E G a c u n sl) (rIs none (yW E G a (cF (cD c D n) is (nI (M + 1))) (uT (uG u n (c.2.2.2 D) (9 + D) (M + M / 2) M) n M (some b)) (n + 1) (sl + (M + M / 2)))) := by
  refine g_entry (by decide) (by simp [Value.category]) (Nat.le_of_ble_eq_true rfl) ?_
  refine g_iload_n d_ArrayList_add2_0 rfl ?_
  refine g_aload_n d_ArrayList_add2_1 rfl ?_
  refine z_olen (v := nI M) hL.2.2.1 hz (by rw [hM]; rfl) d_ArrayList_add2_2 ?_
  refine g_icmp_ne (tgt := 11) d_ArrayList_add2_3 (by decide) (fun c_3 => ?_) (fun c_3 => ?_)
  · exact absurd c_3 (fun e => e rfl)
  refine g_aload_n d_ArrayList_add2_6 rfl ?_
  refine c_Vr (as := []) kv_ArrayList_grow ml_ArrayList_129 rfl (l_at hL) (m_L_grow11 hL hz hq ha hM hM0 hMb hk hel hc hs h0) rfl (Nat.le_of_ble_eq_true rfl) rfl d_ArrayList_add2_7 rfl ?_
  refine g_astore_n d_ArrayList_add2_10 (by decide) rfl ?_
  refine g_aload_n d_ArrayList_add2_11 rfl ?_
  refine g_iload_n d_ArrayList_add2_12 rfl ?_
  refine g_aload_n d_ArrayList_add2_13 rfl ?_
  refine z_oast (u := (uG u n (c.2.2.2 D) (9 + D) (M + M / 2) M)) (j := M) hL.2.2.1 (zIs_Gat ha) (nI_hi (by omega)) (by rw [show (uG u n (c.2.2.2 D) (9 + D) (M + M / 2) M).2.1 n = M + M / 2 from upN_at]; omega) (zIs_G hv (by omega)) hk d_ArrayList_add2_14 ?_
  refine g_aload_n d_ArrayList_add2_15 rfl ?_
  refine g_iload_n d_ArrayList_add2_16 rfl ?_
  refine g_iconst (v := 1) d_ArrayList_add2_17 (by decide) ?_
  refine g_iadd d_ArrayList_add2_18 ?_
  refine g_top (nI (M + 1)) (nI_1 M) ?_
  refine l_is (x := nI (M + 1)) hL fl_ArrayList_48 d_ArrayList_add2_19 ?_
  refine g_vret rfl d_ArrayList_add2_22 ?_
  exact ⟨rfl, rfl⟩
set_option maxHeartbeats 400000 in
set_option maxRecDepth 100000 in
theorem m_L_add0 (hL : lK k im is D) {b kb : Nat} (hz : zIs u a (c.2.2.2 D) (9 + D)) {j M : Nat} (hM : u.2.1 (c.2.2.2 D) = M) (hMb : M ≤ 60000) (hj : j < M) (hv : zIs u a b kb) (hk : kb = 1 ∨ kb = 5 ∨ kb = 6 ∨ kb = 7) (h0 : c.1 is = nI j) : GM E Y_ArrayList_add (d + 1) [.ref (a + k), .ref b] (yW E G a c u n sl) (rIs (some (.int 1)) (yW E G a (cF (cF c im ((c.1 im) + (1))) is (nI (j + 1))) (uT u (c.2.2.2 D) j (some b)) n sl)) := by
  refine g_entry (by decide) (by simp [Value.category]) (Nat.le_of_ble_eq_true rfl) ?_
  refine g_aload_n d_ArrayList_add_0 rfl ?_
  refine g_dup d_ArrayList_add_1 rfl ?_
  refine l_get (j := 0) (v := .int (c.1 im)) hL fl_ArrayList_63 (by decide) rfl d_ArrayList_add_2 ?_
  refine g_iconst (v := 1) d_ArrayList_add_5 (by decide) ?_
  refine g_iadd d_ArrayList_add_6 ?_
  refine l_im (x := (c.1 im) + (1)) hL fl_ArrayList_63 d_ArrayList_add_7 ?_
  refine g_aload_n d_ArrayList_add_10 rfl ?_
  refine g_aload_n d_ArrayList_add_11 rfl ?_
  refine g_aload_n d_ArrayList_add_12 rfl ?_
  refine l_get (j := 1) (v := .ref ((cF c im ((c.1 im) + (1))).2.2.2 D)) hL fl_ArrayList_9 (by decide) rfl d_ArrayList_add_13 ?_
  rw [show (cF c im ((c.1 im) + (1))).2.2.2 D = c.2.2.2 D from rfl]
  refine g_aload_n d_ArrayList_add_16 rfl ?_
  refine l_get (j := 2) (v := .int ((cF c im ((c.1 im) + (1))).1 is)) hL fl_ArrayList_48 (by decide) rfl d_ArrayList_add_17 ?_
  rw [show (cF c im ((c.1 im) + (1))).1 is = c.1 is from if_neg (Ne.symm hL.2.1), h0]
  refine c_Vr (as := [.ref (b), .ref (c.2.2.2 D), .int (nI j)]) kv_ArrayList_add2 ml_ArrayList_131 rfl (l_at hL) (m_L_put0 (c := (cF c im ((c.1 im) + (1)))) hL hz hM hMb hj hv hk) rfl (Nat.le_of_ble_eq_true rfl) rfl d_ArrayList_add_20 rfl ?_
  refine g_iconst (v := 1) d_ArrayList_add_23 (by decide) ?_
  refine g_zret rfl rfl d_ArrayList_add_24 ?_
  exact ⟨rfl, rfl⟩
set_option maxHeartbeats 400000 in
set_option maxRecDepth 100000 in
theorem m_L_add1 (hL : lK k im is D) {b kb : Nat} (hD : c.2.2.2 D = gDef E) (h0 : c.1 is = 0) (ha : a + 24 ≤ n) (hc : n + 1 ≤ E.1.heap.size + room_1.cells) (hs : sl + 10 ≤ room_1.slots) (hv : zIs u a b kb) (hb : b < n) (hk : kb = 1 ∨ kb = 5 ∨ kb = 6 ∨ kb = 7) : GM E Y_ArrayList_add (d + 6) [.ref (a + k), .ref b] (yW E G a c u n sl) (rIs (some (.int 1)) (yW E G a (cF (cD (cF c im ((c.1 im) + (1))) D n) is (nI (0 + 1))) (uT (uN u n (9 + D) 10 (fun _ => 0) (fun _ => none)) n 0 (some b)) (n + 1) (sl + 10))) := by
  refine g_entry (by decide) (by simp [Value.category]) (Nat.le_of_ble_eq_true rfl) ?_
  refine g_aload_n d_ArrayList_add_0 rfl ?_
  refine g_dup d_ArrayList_add_1 rfl ?_
  refine l_get (j := 0) (v := .int (c.1 im)) hL fl_ArrayList_63 (by decide) rfl d_ArrayList_add_2 ?_
  refine g_iconst (v := 1) d_ArrayList_add_5 (by decide) ?_
  refine g_iadd d_ArrayList_add_6 ?_
  refine l_im (x := (c.1 im) + (1)) hL fl_ArrayList_63 d_ArrayList_add_7 ?_
  refine g_aload_n d_ArrayList_add_10 rfl ?_
  refine g_aload_n d_ArrayList_add_11 rfl ?_
  refine g_aload_n d_ArrayList_add_12 rfl ?_
  refine l_get (j := 1) (v := .ref ((cF c im ((c.1 im) + (1))).2.2.2 D)) hL fl_ArrayList_9 (by decide) rfl d_ArrayList_add_13 ?_
  rw [show (cF c im ((c.1 im) + (1))).2.2.2 D = c.2.2.2 D from rfl, hD]
  refine g_aload_n d_ArrayList_add_16 rfl ?_
  refine l_get (j := 2) (v := .int ((cF c im ((c.1 im) + (1))).1 is)) hL fl_ArrayList_48 (by decide) rfl d_ArrayList_add_17 ?_
  rw [show (cF c im ((c.1 im) + (1))).1 is = c.1 is from if_neg (Ne.symm hL.2.1), h0]
  refine c_Vr (as := [.ref (b), .ref (gDef E), .int (0)]) kv_ArrayList_add2 ml_ArrayList_131 rfl (l_at hL) (m_L_put1 (c := (cF c im ((c.1 im) + (1)))) hL hD (by rw [show (cF c im ((c.1 im) + (1))).1 is = c.1 is from if_neg (Ne.symm hL.2.1)]; exact h0) ha hc hs hv hb hk) rfl (Nat.le_of_ble_eq_true rfl) rfl d_ArrayList_add_20 rfl ?_
  refine g_iconst (v := 1) d_ArrayList_add_23 (by decide) ?_
  refine g_zret rfl rfl d_ArrayList_add_24 ?_
  exact ⟨rfl, rfl⟩
set_option maxHeartbeats 400000 in
set_option maxRecDepth 100000 in
theorem m_L_add2 (hL : lK k im is D) {M : Nat} (hz : zIs u a (c.2.2.2 D) (9 + D)) (hq : c.2.2.2 D < n) (ha : a + 24 ≤ n) (hM : u.2.1 (c.2.2.2 D) = M) (hM0 : 2 ≤ M) (hMb : M ≤ 60000) {kb : Nat} (hk : kb = 1 ∨ kb = 5 ∨ kb = 6 ∨ kb = 7) (hel : ∀ i, i < M → ∀ y, u.2.2.2 (c.2.2.2 D) i = some y → zIs u a y kb ∧ y < n) (hc : n + 1 ≤ E.1.heap.size + room_1.cells) (hs : sl + (M + M / 2) ≤ room_1.slots) (h0 : c.1 is = nI M) {b : Nat} (hv : zIs u a b kb) (hb : b < n) : GM E Y_ArrayList_add (d + 6) [.ref (a + k), .ref b] (yW E G a c u n sl) (rIs (some (.int 1)) (yW E G a (cF (cD (cF c im ((c.1 im) + (1))) D n) is (nI (M + 1))) (uT (uG u n (c.2.2.2 D) (9 + D) (M + M / 2) M) n M (some b)) (n + 1) (sl + (M + M / 2)))) := by
  refine g_entry (by decide) (by simp [Value.category]) (Nat.le_of_ble_eq_true rfl) ?_
  refine g_aload_n d_ArrayList_add_0 rfl ?_
  refine g_dup d_ArrayList_add_1 rfl ?_
  refine l_get (j := 0) (v := .int (c.1 im)) hL fl_ArrayList_63 (by decide) rfl d_ArrayList_add_2 ?_
  refine g_iconst (v := 1) d_ArrayList_add_5 (by decide) ?_
  refine g_iadd d_ArrayList_add_6 ?_
  refine l_im (x := (c.1 im) + (1)) hL fl_ArrayList_63 d_ArrayList_add_7 ?_
  refine g_aload_n d_ArrayList_add_10 rfl ?_
  refine g_aload_n d_ArrayList_add_11 rfl ?_
  refine g_aload_n d_ArrayList_add_12 rfl ?_
  refine l_get (j := 1) (v := .ref ((cF c im ((c.1 im) + (1))).2.2.2 D)) hL fl_ArrayList_9 (by decide) rfl d_ArrayList_add_13 ?_
  rw [show (cF c im ((c.1 im) + (1))).2.2.2 D = c.2.2.2 D from rfl]
  refine g_aload_n d_ArrayList_add_16 rfl ?_
  refine l_get (j := 2) (v := .int ((cF c im ((c.1 im) + (1))).1 is)) hL fl_ArrayList_48 (by decide) rfl d_ArrayList_add_17 ?_
  rw [show (cF c im ((c.1 im) + (1))).1 is = c.1 is from if_neg (Ne.symm hL.2.1), h0]
  refine c_Vr (as := [.ref (b), .ref (c.2.2.2 D), .int (nI M)]) kv_ArrayList_add2 ml_ArrayList_131 rfl (l_at hL) (m_L_put2 (c := (cF c im ((c.1 im) + (1)))) hL hz hq ha hM hM0 hMb hk hel hc hs (by rw [show (cF c im ((c.1 im) + (1))).1 is = c.1 is from if_neg (Ne.symm hL.2.1)]; exact h0) hv hb) rfl (Nat.le_of_ble_eq_true rfl) rfl d_ArrayList_add_20 rfl ?_
  refine g_iconst (v := 1) d_ArrayList_add_23 (by decide) ?_
  refine g_zret rfl rfl d_ArrayList_add_24 ?_
  exact ⟨rfl, rfl⟩
/-- an array without its j-th, of L + 1 -/
def rmF (f : Nat → Option Nat) (j L : Nat) : Nat → Option Nat := va_up (if j < L then va_cpy f f (j + 1) j (L - j) else f) L none
/-- an array with x at j, of L -/
def inF (f : Nat → Option Nat) (j L : Nat) (x : Option Nat) : Nat → Option Nat := va_up (va_cpy f f j (j + 1) (L - j)) j x
theorem uTr_T {q j : Nat} {f : Nat → Option Nat} {x : Option Nat} : uT (uTr u q f) q j x = uTr u q (va_up f j x) := by
  unfold uT uTr
  refine Prod.ext rfl (Prod.ext rfl (Prod.ext rfl (funext fun i => ?_)))
  show upT (upT u.2.2.2 q f) q (va_up (upT u.2.2.2 q f q) j x) i = upT u.2.2.2 q (va_up f j x) i
  rw [upT_at]
  by_cases e : i = q
  · rw [e, upT_at, upT_at]
  · rw [upT_ne e, upT_ne e, upT_ne e]
theorem uT_r {q j : Nat} {x : Option Nat} : uT u q j x = uTr u q (va_up (u.2.2.2 q) j x) := rfl
theorem lm1 {L : Nat} (h0 : c.1 is = nI (L + 1)) (hne : im ≠ is) (hb : L < 2 ^ 30) {x : Int32} : (cF c im x).1 is - 1 = nI L := by
  rw [show (cF c im x).1 is = c.1 is from if_neg (Ne.symm hne), h0]
  exact i_nI (by
    have := sub_hi (nI_hi (n := L + 1) (by omega)) i1 (by omega)
    rw [Nat.add_sub_cancel] at this
    exact this)
set_option maxHeartbeats 400000 in
set_option maxRecDepth 100000 in
theorem m_L_fastRemove (hL : lK k im is D) {j M L kb : Nat} (hz : zIs u a (c.2.2.2 D) (9 + D)) (hM : u.2.1 (c.2.2.2 D) = M) (hMb : M ≤ 60000) (h0 : c.1 is = nI (L + 1)) (hj : j ≤ L) (hL1 : L < M) (hk : kb = 1 ∨ kb = 5 ∨ kb = 6 ∨ kb = 7) (hel : ∀ i, i < L + 1 → ∀ y, u.2.2.2 (c.2.2.2 D) i = some y → zIs u a y kb) : GM E Y_ArrayList_fastRemove (d + 1) [.ref (a + k), .ref (c.2.2.2 D), .int (nI j)] (yW E G a c u n sl) (rIs none (yW E G a (cF (cF c im ((c.1 im) + (1))) is (nI L)) (uTr u (c.2.2.2 D) (rmF (u.2.2.2 (c.2.2.2 D)) j L)) n sl)) := by
  refine g_entry (by decide) (by simp [Value.category]) (Nat.le_of_ble_eq_true rfl) ?_
  have hLb : L < 2 ^ 30 := by omega
  by_cases hjL : j < L
  · refine g_aload_n d_ArrayList_fastRemove_0 rfl ?_
    refine g_dup d_ArrayList_fastRemove_1 rfl ?_
    refine l_get (j := 0) (v := .int (c.1 im)) hL fl_ArrayList_63 (by decide) rfl d_ArrayList_fastRemove_2 ?_
    refine g_iconst (v := 1) d_ArrayList_fastRemove_5 (by decide) ?_
    refine g_iadd d_ArrayList_fastRemove_6 ?_
    refine l_im (x := (c.1 im) + (1)) hL fl_ArrayList_63 d_ArrayList_fastRemove_7 ?_
    refine g_aload_n d_ArrayList_fastRemove_10 rfl ?_
    refine l_get (j := 2) (v := .int ((cF c im ((c.1 im) + (1))).1 is)) hL fl_ArrayList_48 (by decide) rfl d_ArrayList_fastRemove_11 ?_
    refine g_iconst (v := 1) d_ArrayList_fastRemove_14 (by decide) ?_
    refine g_isub d_ArrayList_fastRemove_15 ?_
    refine g_top (nI L) (lm1 h0 hL.2.1 hLb) ?_
    refine g_dup d_ArrayList_fastRemove_16 rfl ?_
    refine g_istore_n d_ArrayList_fastRemove_17 (by decide) rfl ?_
    refine g_iload_n d_ArrayList_fastRemove_18 rfl ?_
    refine g_icmp_le (tgt := 34) d_ArrayList_fastRemove_19 (by decide) (fun c_19 => ?_) (fun c_19 => ?_)
    · exact absurd c_19 (fun q => by rw [Int32.le_iff_toInt_le, nI_hi (by omega), nI_hi (by omega)] at q; omega)
    refine g_aload_n d_ArrayList_fastRemove_22 rfl ?_
    refine g_iload_n d_ArrayList_fastRemove_23 rfl ?_
    refine g_iconst (v := 1) d_ArrayList_fastRemove_24 (by decide) ?_
    refine g_iadd d_ArrayList_fastRemove_25 ?_
    refine g_aload_n d_ArrayList_fastRemove_26 rfl ?_
    refine g_iload_n d_ArrayList_fastRemove_27 rfl ?_
    refine g_iload_n d_ArrayList_fastRemove_28 rfl ?_
    refine g_iload_n d_ArrayList_fastRemove_29 rfl ?_
    refine g_isub d_ArrayList_fastRemove_30 ?_
    refine z_copy (kb := kb) (N := L - j) (J := j + 1) (K := j) w_cp2 hL.2.2.1 hz hL.2.2.1 hz (add_hi (nI_hi (by omega)) i1 (by omega)) (nI_hi (by omega)) (sub_hi (nI_hi (by omega)) (nI_hi (by omega)) (by omega)) (by omega) (by omega) hk (fun i hi y hy => hel _ (by omega) y hy) (Nat.le_of_ble_eq_true rfl) d_ArrayList_fastRemove_31 ?_
    refine g_aload_n d_ArrayList_fastRemove_34 rfl ?_
    refine g_aload_n d_ArrayList_fastRemove_35 rfl ?_
    refine g_iload_n d_ArrayList_fastRemove_36 rfl ?_
    refine g_dup_x1 d_ArrayList_fastRemove_37 rfl rfl ?_
    refine l_is (x := nI L) hL fl_ArrayList_48 d_ArrayList_fastRemove_38 ?_
    refine g_null d_ArrayList_fastRemove_41 ?_
    refine z_oastN (u := (uTr u (c.2.2.2 D) (va_cpy (u.2.2.2 (c.2.2.2 D)) (u.2.2.2 (c.2.2.2 D)) (j + 1) j (L - j)))) (j := L) hL.2.2.1 hz (nI_hi (by omega)) (by show L < u.2.1 (c.2.2.2 D); omega) d_ArrayList_fastRemove_42 ?_
    refine g_vret rfl d_ArrayList_fastRemove_43 ?_
    rw [uTr_T]
    have e : rmF (u.2.2.2 (c.2.2.2 D)) j L = va_up (va_cpy (u.2.2.2 (c.2.2.2 D)) (u.2.2.2 (c.2.2.2 D)) (j + 1) j (L - j)) L none := by unfold rmF; rw [if_pos hjL]
    rw [e]
    exact ⟨rfl, rfl⟩
  · refine g_aload_n d_ArrayList_fastRemove_0 rfl ?_
    refine g_dup d_ArrayList_fastRemove_1 rfl ?_
    refine l_get (j := 0) (v := .int (c.1 im)) hL fl_ArrayList_63 (by decide) rfl d_ArrayList_fastRemove_2 ?_
    refine g_iconst (v := 1) d_ArrayList_fastRemove_5 (by decide) ?_
    refine g_iadd d_ArrayList_fastRemove_6 ?_
    refine l_im (x := (c.1 im) + (1)) hL fl_ArrayList_63 d_ArrayList_fastRemove_7 ?_
    refine g_aload_n d_ArrayList_fastRemove_10 rfl ?_
    refine l_get (j := 2) (v := .int ((cF c im ((c.1 im) + (1))).1 is)) hL fl_ArrayList_48 (by decide) rfl d_ArrayList_fastRemove_11 ?_
    refine g_iconst (v := 1) d_ArrayList_fastRemove_14 (by decide) ?_
    refine g_isub d_ArrayList_fastRemove_15 ?_
    refine g_top (nI L) (lm1 h0 hL.2.1 hLb) ?_
    refine g_dup d_ArrayList_fastRemove_16 rfl ?_
    refine g_istore_n d_ArrayList_fastRemove_17 (by decide) rfl ?_
    refine g_iload_n d_ArrayList_fastRemove_18 rfl ?_
    refine g_icmp_le (tgt := 34) d_ArrayList_fastRemove_19 (by decide) (fun c_19 => ?_) (fun c_19 => ?_)
    rotate_left
    · exact absurd c_19 (fun q => q (by rw [Int32.le_iff_toInt_le, nI_hi (by omega), nI_hi (by omega)]; omega))
    refine g_aload_n d_ArrayList_fastRemove_34 rfl ?_
    refine g_aload_n d_ArrayList_fastRemove_35 rfl ?_
    refine g_iload_n d_ArrayList_fastRemove_36 rfl ?_
    refine g_dup_x1 d_ArrayList_fastRemove_37 rfl rfl ?_
    refine l_is (x := nI L) hL fl_ArrayList_48 d_ArrayList_fastRemove_38 ?_
    refine g_null d_ArrayList_fastRemove_41 ?_
    refine z_oastN (u := u) (j := L) hL.2.2.1 hz (nI_hi (by omega)) (by show L < u.2.1 (c.2.2.2 D); omega) d_ArrayList_fastRemove_42 ?_
    refine g_vret rfl d_ArrayList_fastRemove_43 ?_
    have e : rmF (u.2.2.2 (c.2.2.2 D)) j L = va_up (u.2.2.2 (c.2.2.2 D)) L none := by unfold rmF; rw [if_neg hjL]
    rw [e]
    exact ⟨rfl, rfl⟩
set_option maxHeartbeats 400000 in
set_option maxRecDepth 100000 in
theorem m_L_remove (hL : lK k im is D) {j M L kb : Nat} (hz : zIs u a (c.2.2.2 D) (9 + D)) (hM : u.2.1 (c.2.2.2 D) = M) (hMb : M ≤ 60000) (h0 : c.1 is = nI (L + 1)) (hj : j ≤ L) (hL1 : L < M) (hk : kb = 1 ∨ kb = 5 ∨ kb = 6 ∨ kb = 7) (hel : ∀ i, i < L + 1 → ∀ y, u.2.2.2 (c.2.2.2 D) i = some y → zIs u a y kb) {b : Nat} (hb : u.2.2.2 (c.2.2.2 D) j = some b) : GM E Y_ArrayList_remove (d + 2) [.ref (a + k), .int (nI j)] (yW E G a c u n sl) (rIs (some (.ref b)) (yW E G a (cF (cF c im ((c.1 im) + (1))) is (nI L)) (uTr u (c.2.2.2 D) (rmF (u.2.2.2 (c.2.2.2 D)) j L)) n sl)) := by
  refine g_entry (by decide) (by simp [Value.category]) (Nat.le_of_ble_eq_true rfl) ?_
  refine g_iload_n d_ArrayList_remove_0 rfl ?_
  refine g_aload_n d_ArrayList_remove_1 rfl ?_
  refine l_get (j := 2) (v := .int (c.1 is)) hL fl_ArrayList_48 (by decide) rfl d_ArrayList_remove_2 ?_
  refine c_Sr (as := [.int (nI j), .int (c.1 is)]) ks_Objects_checkIndex ml_ArrayList_118 (m_check (nI_pos (by omega)) (by rw [h0, Int32.lt_iff_toInt_lt, nI_hi (by omega), nI_hi (by omega)]; omega)) rfl (Nat.le_of_ble_eq_true rfl) rfl d_ArrayList_remove_5 rfl ?_
  refine g_pop d_ArrayList_remove_8 rfl ?_
  refine g_aload_n d_ArrayList_remove_9 rfl ?_
  refine l_get (j := 1) (v := .ref (c.2.2.2 D)) hL fl_ArrayList_9 (by decide) rfl d_ArrayList_remove_10 ?_
  refine g_astore_n d_ArrayList_remove_13 (by decide) rfl ?_
  refine g_aload_n d_ArrayList_remove_14 rfl ?_
  refine g_iload_n d_ArrayList_remove_15 rfl ?_
  refine z_oald (j := j) hL.2.2.1 hz (nI_hi (by omega)) (by omega) hb d_ArrayList_remove_16 ?_
  refine g_astore_n d_ArrayList_remove_17 (by decide) rfl ?_
  refine g_aload_n d_ArrayList_remove_18 rfl ?_
  refine g_aload_n d_ArrayList_remove_19 rfl ?_
  refine g_iload_n d_ArrayList_remove_20 rfl ?_
  refine c_Vr (as := [.ref (c.2.2.2 D), .int (nI j)]) kv_ArrayList_fastRemove ml_ArrayList_144 rfl (l_at hL) (m_L_fastRemove hL hz hM hMb h0 hj hL1 hk hel) rfl (Nat.le_of_ble_eq_true rfl) rfl d_ArrayList_remove_21 rfl ?_
  refine g_aload_n d_ArrayList_remove_24 rfl ?_
  refine g_aret rfl (by first | exact Or.inl ⟨_, rfl⟩ | exact Or.inr ⟨_, rfl⟩) (by first | exact Or.inl rfl | exact Or.inr ⟨_, rfl⟩) d_ArrayList_remove_25 ?_
  exact ⟨rfl, rfl⟩
set_option maxHeartbeats 400000 in
set_option maxRecDepth 100000 in
theorem m_L_range (hL : lK k im is D) {j L : Nat} (h0 : c.1 is = nI L) (hj : j ≤ L) (hb : L < 2 ^ 30) : GM E Y_ArrayList_rangeCheckForAdd d [.ref (a + k), .int (nI j)] (yW E G a c u n sl) (rIs none (yW E G a c u n sl)) := by
  refine g_entry (by decide) (by simp [Value.category]) (Nat.le_of_ble_eq_true rfl) ?_
  refine g_iload_n d_ArrayList_rangeCheckForAdd_0 rfl ?_
  refine g_aload_n d_ArrayList_rangeCheckForAdd_1 rfl ?_
  refine l_get (j := 2) (v := .int (c.1 is)) hL fl_ArrayList_48 (by decide) rfl d_ArrayList_rangeCheckForAdd_2 ?_
  rw [h0]
  refine g_icmp_gt (tgt := 12) d_ArrayList_rangeCheckForAdd_5 (by decide) (fun c_5 => ?_) (fun c_5 => ?_)
  · exact absurd c_5 (fun q => by rw [Int32.lt_iff_toInt_lt, nI_hi (by omega), nI_hi (by omega)] at q; omega)
  refine g_iload_n d_ArrayList_rangeCheckForAdd_8 rfl ?_
  refine g_if_ge (tgt := 25) d_ArrayList_rangeCheckForAdd_9 (by decide) (fun c_9 => ?_) (fun c_9 => ?_)
  rotate_left
  · exact absurd c_9 (fun q => q (by rw [Int32.le_iff_toInt_le, nI_hi (by omega), Int32.toInt_zero]; omega))
  refine g_vret rfl d_ArrayList_rangeCheckForAdd_25 ?_
  exact ⟨rfl, rfl⟩
set_option maxHeartbeats 400000 in
set_option maxRecDepth 100000 in
theorem m_L_insert (hL : lK k im is D) {j b M L kb : Nat} (hz : zIs u a (c.2.2.2 D) (9 + D)) (hM : u.2.1 (c.2.2.2 D) = M) (hMb : M ≤ 60000) (h0 : c.1 is = nI L) (hj : j ≤ L) (hL1 : L < M) (hv : zIs u a b kb) (hk : kb = 1 ∨ kb = 5 ∨ kb = 6 ∨ kb = 7) (hel : ∀ i, i < L → ∀ y, u.2.2.2 (c.2.2.2 D) i = some y → zIs u a y kb) : GM E Y_ArrayList_add3 (d + 1) [.ref (a + k), .int (nI j), .ref b] (yW E G a c u n sl) (rIs none (yW E G a (cF (cF c im ((c.1 im) + (1))) is (nI (L + 1))) (uTr u (c.2.2.2 D) (inF (u.2.2.2 (c.2.2.2 D)) j L (some b))) n sl)) := by
  refine g_entry (by decide) (by simp [Value.category]) (Nat.le_of_ble_eq_true rfl) ?_
  refine g_aload_n d_ArrayList_add3_0 rfl ?_
  refine g_iload_n d_ArrayList_add3_1 rfl ?_
  refine c_Vr (as := [.int (nI j)]) kv_ArrayList_rangeCheckForAdd ml_ArrayList_135 rfl (l_at hL) (m_L_range hL h0 hj (by omega)) rfl (Nat.le_of_ble_eq_true rfl) rfl d_ArrayList_add3_2 rfl ?_
  refine g_aload_n d_ArrayList_add3_5 rfl ?_
  refine g_dup d_ArrayList_add3_6 rfl ?_
  refine l_get (j := 0) (v := .int (c.1 im)) hL fl_ArrayList_63 (by decide) rfl d_ArrayList_add3_7 ?_
  refine g_iconst (v := 1) d_ArrayList_add3_10 (by decide) ?_
  refine g_iadd d_ArrayList_add3_11 ?_
  refine l_im (x := (c.1 im) + (1)) hL fl_ArrayList_63 d_ArrayList_add3_12 ?_
  refine g_aload_n d_ArrayList_add3_15 rfl ?_
  refine l_get (j := 2) (v := .int ((cF c im ((c.1 im) + (1))).1 is)) hL fl_ArrayList_48 (by decide) rfl d_ArrayList_add3_16 ?_
  rw [show (cF c im ((c.1 im) + (1))).1 is = c.1 is from if_neg (Ne.symm hL.2.1), h0]
  refine g_dup d_ArrayList_add3_19 rfl ?_
  refine g_istore_n d_ArrayList_add3_20 (by decide) rfl ?_
  refine g_aload_n d_ArrayList_add3_21 rfl ?_
  refine l_get (j := 1) (v := .ref ((cF c im ((c.1 im) + (1))).2.2.2 D)) hL fl_ArrayList_9 (by decide) rfl d_ArrayList_add3_22 ?_
  rw [show (cF c im ((c.1 im) + (1))).2.2.2 D = c.2.2.2 D from rfl]
  refine g_dup d_ArrayList_add3_25 rfl ?_
  refine g_astore d_ArrayList_add3_26 (by decide) rfl ?_
  refine z_olen (v := nI M) hL.2.2.1 hz (by rw [hM]; rfl) d_ArrayList_add3_28 ?_
  refine g_icmp_ne (tgt := 38) d_ArrayList_add3_29 (by decide) (fun c_29 => ?_) (fun c_29 => ?_)
  rotate_left
  · exact absurd c_29 (nI_ne (by omega) (by omega) (by omega))
  refine g_aload d_ArrayList_add3_38 rfl ?_
  refine g_iload_n d_ArrayList_add3_40 rfl ?_
  refine g_aload d_ArrayList_add3_41 rfl ?_
  refine g_iload_n d_ArrayList_add3_43 rfl ?_
  refine g_iconst (v := 1) d_ArrayList_add3_44 (by decide) ?_
  refine g_iadd d_ArrayList_add3_45 ?_
  refine g_iload_n d_ArrayList_add3_46 rfl ?_
  refine g_iload_n d_ArrayList_add3_47 rfl ?_
  refine g_isub d_ArrayList_add3_48 ?_
  refine z_copy (kb := kb) (N := L - j) (J := j) (K := j + 1) w_cp2 hL.2.2.1 hz hL.2.2.1 hz (nI_hi (by omega)) (add_hi (nI_hi (by omega)) i1 (by omega)) (sub_hi (nI_hi (by omega)) (nI_hi (by omega)) (by omega)) (by omega) (by omega) hk (fun i hi y hy => hel _ (by omega) y hy) (Nat.le_of_ble_eq_true rfl) d_ArrayList_add3_49 ?_
  refine g_aload d_ArrayList_add3_52 rfl ?_
  refine g_iload_n d_ArrayList_add3_54 rfl ?_
  refine g_aload_n d_ArrayList_add3_55 rfl ?_
  refine z_oast (u := (uTr u (c.2.2.2 D) (va_cpy (u.2.2.2 (c.2.2.2 D)) (u.2.2.2 (c.2.2.2 D)) j (j + 1) (L - j)))) (j := j) hL.2.2.1 hz (nI_hi (by omega)) (by show j < u.2.1 (c.2.2.2 D); omega) hv hk d_ArrayList_add3_56 ?_
  refine g_aload_n d_ArrayList_add3_57 rfl ?_
  refine g_iload_n d_ArrayList_add3_58 rfl ?_
  refine g_iconst (v := 1) d_ArrayList_add3_59 (by decide) ?_
  refine g_iadd d_ArrayList_add3_60 ?_
  refine g_top (nI (L + 1)) (nI_1 L) ?_
  refine l_is (x := nI (L + 1)) hL fl_ArrayList_48 d_ArrayList_add3_61 ?_
  refine g_vret rfl d_ArrayList_add3_64 ?_
  rw [uTr_T]
  exact ⟨rfl, rfl⟩
end AM
