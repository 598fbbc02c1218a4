/-! A new term -/
section CY
variable {E : gE} {d : Nat} {G G0 G1 : gS} {a : Nat} {c c' c0 c1 : cS} {u u' u2 u0 : uS} {n n' n2 n1 sl sl' sl2 : Nat} {Q : gO → gS → Prop} {tp : List Nat} {Y : gY} {pc q k : Nat} {lv : List (Nat × Value)} {rest : List Value}
theorem z_putF {ci N index j : Nat} {C : String} {T : u_T} {ty : Nat → FieldType} {x : Int32} (hcl : gCls gCl ci C T N ty) (hf : gFld Y.1.cls index T j) (hj : j < N) (h : zIs u a q k) (h0 : k ≠ 0) (hz : ∀ w : uS, zD E w k q = .inr (ci, zF k q (w.2.2.1 q))) (hfin : (T j).2.2.2 = true) (hin : Y.1.name = "<init>") (hdecl : (T j).1 = Y.1.cls) (hn : narrow (ty j) (.int x) = .int x) (hfit : fits (ty j) (.int x) = true) (hlen : j < (zF k q (u.2.2.1 q)).length) (hs : (zF k q (u.2.2.1 q)).set j (.int x) = zF k q (upd (u.2.2.1 q) j x)) (hdg : decode Y.2.1 pc = .ok (.putfield index, 3)) (kk : GT E Y d G0 (pc + 3) lv rest (yW E G a c (uI u q j x) n sl) Q) : GT E Y d G0 pc lv (.int x :: .ref q :: rest) (yW E G a c u n sl) Q := by
  refine g_putF hcl hf hj ((z_at h h0).trans (congrArg some (hz u))) hfin hin hdecl hn hfit hlen hs hdg ?_
  have e : (.inr (ci, zF k q (upd (u.2.2.1 q) j x)) : va_E) = zD E (uI u q j x) k q := by rw [hz, at_I]
  rw [e, z_up (u' := uI u q j x) h h0 rfl (fun p hp => ⟨rfl, up_I hp, rfl⟩)]
  exact kk
/-- a term's numbers -/
def tmFd (ty kd wh sz nm : Int32) : Nat → Int32 := fun j => if j = 0 then ty else if j = 1 then kd else if j = 2 then wh else if j = 4 then sz else if j = 6 then nm else 0
def uTm (u : uS) (n : Nat) (ty kd wh sz nm : Int32) (tp : List Nat) : uS := uN (uN u n 7 0 (tmFd ty kd wh sz nm) (fun _ => none)) (n + 1) 8 tp.length (fun _ => 0) (fun j => tp[j]?)
theorem uTm_o {ty kd wh sz nm : Int32} (h : q < n ∨ n + 2 ≤ q) : (uTm u n ty kd wh sz nm tp).1 q = u.1 q ∧ (uTm u n ty kd wh sz nm tp).2.1 q = u.2.1 q ∧ (uTm u n ty kd wh sz nm tp).2.2.1 q = u.2.2.1 q ∧ (uTm u n ty kd wh sz nm tp).2.2.2 q = u.2.2.2 q := by
  have h1 : q ≠ n + 1 := by omega
  have h2 : q ≠ n := by omega
  exact ⟨(upN_ne h1).trans (upN_ne h2), (upN_ne h1).trans (upN_ne h2), (upA_ne h1).trans (upA_ne h2), (upT_ne h1).trans (upT_ne h2)⟩
theorem uTm_t {ty kd wh sz nm : Int32} : (uTm u n ty kd wh sz nm tp).1 n = 7 ∧ (uTm u n ty kd wh sz nm tp).2.2.1 n = tmFd ty kd wh sz nm ∧ (uTm u n ty kd wh sz nm tp).1 (n + 1) = 8 ∧ (uTm u n ty kd wh sz nm tp).2.1 (n + 1) = tp.length ∧ (uTm u n ty kd wh sz nm tp).2.2.2 (n + 1) = fun j => tp[j]? :=
  ⟨(upN_ne (by omega)).trans upN_at, (upA_ne (by omega)).trans upA_at, upN_at, upN_at, upT_at⟩
theorem uTm_I {ty kd wh sz nm x : Int32} : uI (uTm u n ty kd wh sz nm tp) n 6 x = uTm u n ty kd wh sz x tp ∧ uI (uTm u n ty kd wh sz nm tp) n 4 x = uTm u n ty kd wh x nm tp := by
  refine ⟨u_ext (fun _ => rfl) (fun _ => rfl) (fun q => ?_) (fun _ => rfl), u_ext (fun _ => rfl) (fun _ => rfl) (fun q => ?_) (fun _ => rfl)⟩
  · by_cases e : q = n
    · subst e
      rw [at_I, uTm_t.2.1, uTm_t.2.1]
      funext j
      unfold upd tmFd
      by_cases h : j = 6
      · subst h
        rfl
      · rw [if_neg h]
        simp only [h, if_false]
    · rw [up_I e]
      by_cases e1 : q = n + 1
      · subst e1
        exact upA_at.trans upA_at.symm
      · rw [(uTm_o (by omega)).2.2.1, (uTm_o (by omega)).2.2.1]
  · by_cases e : q = n
    · subst e
      rw [at_I, uTm_t.2.1, uTm_t.2.1]
      funext j
      unfold upd tmFd
      by_cases h : j = 4
      · subst h
        rfl
      · rw [if_neg h]
        simp only [h, if_false]
    · rw [up_I e]
      by_cases e1 : q = n + 1
      · subst e1
        exact upA_at.trans upA_at.symm
      · rw [(uTm_o (by omega)).2.2.1, (uTm_o (by omega)).2.2.1]
theorem gUp_gNew2 {x y z : va_E} {m m' : Nat} : gUp (gNew (gNew G x m) y m') G.2.1 z = gNew (gNew G z m) y m' := by
  refine Prod.ext (funext fun p => ?_) rfl
  show va_up (va_up (va_up G.1 G.2.1 (some x)) (G.2.1 + 1) (some y)) G.2.1 (some z) p = va_up (va_up G.1 G.2.1 (some z)) (G.2.1 + 1) (some y) p
  unfold va_up
  by_cases e : p = G.2.1
  · rw [if_pos e, if_neg (by omega), if_pos e]
  · rw [if_neg e]
    by_cases e2 : p = G.2.1 + 1
    · rw [if_pos e2, if_pos e2]
    · rw [if_neg e2, if_neg e2, if_neg e, if_neg e]
theorem w_term {ty kd wh : Int32} (ha : a + 24 ≤ n) : gNew (gNew (yW E G a c u n sl) (.inr (9, [.int ty, .int kd, .int wh, .ref (n + 1), .int 0, .int 0, .int 0])) 7) (gAT E tp.length (fun j => tp[j]?)) tp.length = yW E G a c (uTm u n ty kd wh 0 0 tp) (n + 2) (sl + 7 + tp.length) := by
  rw [z_new (k := 7) (l := 0) (f := tmFd ty kd wh 0 0) (g := fun _ => none) ha (by decide) (by simp only [zD, zF, uN, upA_at]; rfl), z_new (k := 8) (l := tp.length) (f := fun _ => 0) (g := fun j => tp[j]?) (by omega) (by decide) (by simp only [zD, uN, upN_at, upT_at])]
  rfl
/-- names of all of them -/
def nmF (u : uS) : Int32 → List Nat → Int32
  | s, [] => s
  | s, t :: r => nmF u (s ||| u.2.2.1 t 6) r
set_option maxHeartbeats 1000000 in
set_option maxRecDepth 100000 in
theorem m_Term_l31 {ty kd wh : Int32} (ha : a + 24 ≤ n) (h4 : tp.length < 1000) (hz : ∀ t ∈ tp, zIs u a t 7 ∧ t < n) {sl : Nat} : ∀ (r l0 : List Nat) (s nm : Int32), tp = l0 ++ r → Q (.inl none) (yW E G a c (uTm u n ty kd wh (szF u s r) (nmF u nm r) tp) (n + 2) sl) → GT E Y_Term_init (d + 1) G0 31 [(0, .ref n), (1, .int ty), (2, .int kd), (3, .int wh), (4, .ref (n + 1)), (5, .int s), (6, .int (nI l0.length))] [] (yW E G a c (uTm u n ty kd wh 0 nm tp) (n + 2) sl) Q := by
  intro r
  induction r with
  | nil =>
    intro l0 s nm e kk
    obtain ⟨t1, t2, t3, t4, t5⟩ := uTm_t (u := u) (n := n) (ty := ty) (kd := kd) (wh := wh) (sz := 0) (nm := nm) (tp := tp)
    have hzn : zIs (uTm u n ty kd wh 0 nm tp) a n 7 := ⟨t1, ha⟩
    have hzp : zIs (uTm u n ty kd wh 0 nm tp) a (n + 1) 8 := ⟨t3, by omega⟩
    have hl : tp.length = l0.length := by rw [e]; simp
    refine g_iload d_Term_init_31 rfl ?_
    refine g_aload d_Term_init_33 rfl ?_
    refine g_tlen (z_at hzp (by decide)) rfl d_Term_init_35 ?_
    refine g_icmp_ge (tgt := 75) d_Term_init_36 (by decide) (fun c_36 => ?_) (fun c_36 => ?_)
    rotate_left
    · exact absurd c_36 (fun q => q (by rw [t4, hl]; exact Int32.le_refl _))
    refine g_aload_n d_Term_init_75 rfl ?_
    refine g_iload d_Term_init_76 rfl ?_
    refine z_putF (k := 7) (j := 4) (x := s) kc_Term fl_Term_25 (by decide) hzn (by decide) (fun _ => rfl) rfl rfl rfl rfl rfl (Nat.le_of_ble_eq_true rfl) rfl d_Term_init_78 ?_
    rw [uTm_I.2]
    exact g_vret rfl d_Term_init_81 kk
  | cons t r ih =>
    intro l0 s nm e kk
    obtain ⟨t1, t2, t3, t4, t5⟩ := uTm_t (u := u) (n := n) (ty := ty) (kd := kd) (wh := wh) (sz := 0) (nm := nm) (tp := tp)
    have hzn : zIs (uTm u n ty kd wh 0 nm tp) a n 7 := ⟨t1, ha⟩
    have hzp : zIs (uTm u n ty kd wh 0 nm tp) a (n + 1) 8 := ⟨t3, by omega⟩
    have hl : tp.length = l0.length + (r.length + 1) := by rw [e]; simp
    have hti : tp[l0.length]? = some t := by rw [e]; exact mid_at
    obtain ⟨hz1, hz2⟩ := hz t (by rw [e]; simp)
    obtain ⟨o1, o2, o3, o4⟩ := uTm_o (u := u) (n := n) (ty := ty) (kd := kd) (wh := wh) (sz := 0) (nm := nm) (tp := tp) (q := t) (Or.inl hz2)
    have hzt : zIs (uTm u n ty kd wh 0 nm tp) a t 7 := ⟨o1.trans hz1.1, hz1.2⟩
    have hT : (uTm u n ty kd wh 0 nm tp).2.2.2 (n + 1) l0.length = some t := by rw [t5]; exact hti
    have f4 : (uTm u n ty kd wh 0 nm tp).2.2.1 t 4 = u.2.2.1 t 4 := by rw [o3]
    have f6 : (uTm u n ty kd wh 0 nm tp).2.2.1 t 6 = u.2.2.1 t 6 := by rw [o3]
    have fn : (uTm u n ty kd wh 0 nm tp).2.2.1 n 6 = nm := by rw [t2]; rfl
    have hl2 : (l0 ++ [t]).length = l0.length + 1 := by simp
    have K := ih (l0 ++ [t]) (s + u.2.2.1 t 4) (nm ||| u.2.2.1 t 6) (by rw [e]; simp) kk
    rw [hl2] at K
    refine g_iload d_Term_init_31 rfl ?_
    refine g_aload d_Term_init_33 rfl ?_
    refine g_tlen (z_at hzp (by decide)) rfl d_Term_init_35 ?_
    refine g_icmp_ge (tgt := 75) d_Term_init_36 (by decide) (fun c_36 => ?_) (fun c_36 => ?_)
    · exact absurd c_36 (by rw [t4, hl]; exact ige (by omega) (by omega) (by omega))
    refine g_iload d_Term_init_39 rfl ?_
    refine g_aload d_Term_init_41 rfl ?_
    refine g_iload d_Term_init_43 rfl ?_
    refine z_tald (k := 8) (j := l0.length) hzp (by decide) rfl (nI_hi (by omega)) (by rw [t4]; omega) hT d_Term_init_45 ?_
    refine z_get (k := 7) (j := 4) (v := .int ((uTm u n ty kd wh 0 nm tp).2.2.1 t 4)) kc_Term fl_Term_25 (by decide) hzt (by decide) rfl rfl d_Term_init_46 ?_
    rw [f4]
    refine g_iadd d_Term_init_49 ?_
    refine g_istore d_Term_init_50 (by decide) rfl ?_
    refine g_aload_n d_Term_init_52 rfl ?_
    refine g_dup d_Term_init_53 rfl ?_
    refine z_get (k := 7) (j := 6) (v := .int ((uTm u n ty kd wh 0 nm tp).2.2.1 n 6)) kc_Term fl_Term_28 (by decide) hzn (by decide) rfl rfl d_Term_init_54 ?_
    rw [fn]
    refine g_aload d_Term_init_57 rfl ?_
    refine g_iload d_Term_init_59 rfl ?_
    refine z_tald (k := 8) (j := l0.length) hzp (by decide) rfl (nI_hi (by omega)) (by rw [t4]; omega) hT d_Term_init_61 ?_
    refine z_get (k := 7) (j := 6) (v := .int ((uTm u n ty kd wh 0 nm tp).2.2.1 t 6)) kc_Term fl_Term_28 (by decide) hzt (by decide) rfl rfl d_Term_init_62 ?_
    rw [f6]
    refine g_ior d_Term_init_65 ?_
    refine z_put (k := 7) (j := 6) (x := (nm) ||| (u.2.2.1 t 6)) kc_Term fl_Term_28 (by decide) hzn (by decide) (fun _ => rfl) rfl rfl rfl (Nat.le_of_ble_eq_true rfl) rfl d_Term_init_66 ?_
    refine g_iinc (v := nI (l0.length + 1)) d_Term_init_69 rfl (nI_1 _) (by decide) rfl ?_
    refine g_goto (tgt := 31) d_Term_init_72 (by decide) ?_
    rw [uTm_I.1]
    exact K
set_option maxHeartbeats 1000000 in
set_option maxRecDepth 100000 in
theorem m_Term_init {ty kd wh : Int32} (ha : a + 24 ≤ n) (h4 : tp.length < 1000) (hz : ∀ t ∈ tp, zIs u a t 7 ∧ t < n) : GM E Y_Term_init (d + 1) [.ref n, .int ty, .int kd, .int wh, .ref (n + 1)] (gNew (gNew (yW E G a c u n sl) (.inr (9, [.int 0, .int 0, .int 0, .null, .int 0, .int 0, .int 0])) 7) (gAT E tp.length (fun j => tp[j]?)) tp.length) (rPost none (fun G' => G' = yW E G a c (uTm u n ty kd wh (szF u 1 tp) (nmF u 0 tp) tp) (n + 2) (sl + 7 + tp.length))) := by
  refine g_entry (by decide) (by simp [Value.category]) (Nat.le_of_ble_eq_true rfl) ?_
  have hn0 : (yW E G a c u n sl).2.1 = n := rfl
  have at0 : ∀ (x : va_E), (gNew (gNew (yW E G a c u n sl) x 7) (gAT E tp.length (fun j => tp[j]?)) tp.length).1 n = some x := fun x => by
    show va_up (va_up (yW E G a c u n sl).1 n (some x)) (n + 1) _ n = _
    unfold va_up
    rw [if_neg (by omega), if_pos rfl]
  have up0 : ∀ (x z : va_E), gUp (gNew (gNew (yW E G a c u n sl) x 7) (gAT E tp.length (fun j => tp[j]?)) tp.length) n z = gNew (gNew (yW E G a c u n sl) z 7) (gAT E tp.length (fun j => tp[j]?)) tp.length := fun x z => gUp_gNew2 (G := yW E G a c u n sl)
  refine g_aload_n d_Term_init_0 rfl ?_
  refine g_objInit ml_Term_3 w_objI w_objC (Nat.le_of_ble_eq_true rfl) d_Term_init_1 ?_
  refine g_aload_n d_Term_init_4 rfl ?_
  refine g_iload_n d_Term_init_5 rfl ?_
  refine g_putF (fs' := [.int ty, .int 0, .int 0, .null, .int 0, .int 0, .int 0]) kc_Term fl_Term_9 (by decide) (at0 _) rfl rfl rfl rfl rfl (Nat.le_of_ble_eq_true rfl) rfl d_Term_init_6 ?_
  rw [up0]
  refine g_aload_n d_Term_init_9 rfl ?_
  refine g_iload_n d_Term_init_10 rfl ?_
  refine g_putF (fs' := [.int ty, .int kd, .int 0, .null, .int 0, .int 0, .int 0]) kc_Term fl_Term_15 (by decide) (at0 _) rfl rfl rfl rfl rfl (Nat.le_of_ble_eq_true rfl) rfl d_Term_init_11 ?_
  rw [up0]
  refine g_aload_n d_Term_init_14 rfl ?_
  refine g_iload_n d_Term_init_15 rfl ?_
  refine g_putF (fs' := [.int ty, .int kd, .int wh, .null, .int 0, .int 0, .int 0]) kc_Term fl_Term_18 (by decide) (at0 _) rfl rfl rfl rfl rfl (Nat.le_of_ble_eq_true rfl) rfl d_Term_init_16 ?_
  rw [up0]
  refine g_aload_n d_Term_init_19 rfl ?_
  refine g_aload d_Term_init_20 rfl ?_
  refine g_putF (fs' := [.int ty, .int kd, .int wh, .ref (n + 1), .int 0, .int 0, .int 0]) kc_Term fl_Term_21 (by decide) (at0 _) rfl rfl rfl rfl rfl (Nat.le_of_ble_eq_true rfl) rfl d_Term_init_22 ?_
  rw [up0, w_term ha]
  refine g_iconst (v := 1) d_Term_init_25 (by decide) ?_
  refine g_istore d_Term_init_26 (by decide) rfl ?_
  refine g_iconst (v := 0) d_Term_init_28 (by decide) ?_
  refine g_istore d_Term_init_29 (by decide) rfl ?_
  exact m_Term_l31 ha h4 hz tp [] 1 0 rfl ⟨rfl, rfl⟩
end CY
