/-! The reference as one world: fields s.1, arrays s.2 -/
abbrev mS : Type := (Nat → Int32) × (Nat → Nat → Int32)
def upA (A : Nat → Nat → Int32) (j : Nat) (f : Nat → Int32) : Nat → Nat → Int32 := fun i => if i = j then f else A i
def wF (s : mS) (k : Nat) (x : Int32) : mS := (upd s.1 k x, s.2)
def wR (s : mS) (j : Nat) (f : Nat → Int32) : mS := (s.1, upA s.2 j f)
def wA (s : mS) (j q : Nat) (x : Int32) : mS := wR s j (upd (s.2 j) q x)
/-- G, with the reference at m and its arrays from n on -/
def mW (E : gE) (G : gS) (m n : Nat) (s : mS) : gS := (fun a => if a = m then some (.inr (13, mFs n s.1)) else if n ≤ a ∧ a < n + 40 then some (mArr E (a - n) (s.2 (a - n))) else G.1 a, G.2.1, G.2.2)
section MW
variable {E : gE} {G : gS} {m n : Nat} {s : mS}
theorem upA_at {A : Nat → Nat → Int32} {j : Nat} {f : Nat → Int32} : upA A j f j = f := if_pos rfl
theorem upA_ne {A : Nat → Nat → Int32} {i j : Nat} {f : Nat → Int32} (h : i ≠ j) : upA A j f i = A i := if_neg h
theorem mw_f : (mW E G m n s).1 m = some (.inr (13, mFs n s.1)) := if_pos rfl
theorem mw_a {j : Nat} (hmn : m < n) (h : j < 40) : (mW E G m n s).1 (n + j) = some (mArr E j (s.2 j)) := by
  simp only [mW]
  rw [if_neg (by omega), if_pos ⟨by omega, by omega⟩, Nat.add_sub_cancel_left]
theorem mw_o {a : Nat} (h1 : a ≠ m) (h2 : a < n ∨ n + 40 ≤ a) : (mW E G m n s).1 a = G.1 a := by
  simp only [mW]
  rw [if_neg h1, if_neg (by omega)]
theorem mw_upF {v : Nat → Int32} : gUp (mW E G m n s) m (.inr (13, mFs n v)) = mW E G m n (v, s.2) := by
  refine Prod.ext (funext fun a => ?_) rfl
  simp only [gUp, va_up, mW]
  by_cases e : a = m
  · rw [if_pos e, if_pos e]
  · rw [if_neg e, if_neg e, if_neg e]
theorem mw_upA {j : Nat} {f : Nat → Int32} (hmn : m < n) (h : j < 40) : gUp (mW E G m n s) (n + j) (mArr E j f) = mW E G m n (wR s j f) := by
  refine Prod.ext (funext fun a => ?_) rfl
  simp only [gUp, va_up, mW, wR, upA]
  by_cases e : a = n + j
  · subst e
    rw [if_pos rfl, if_neg (by omega), if_pos ⟨by omega, by omega⟩, Nat.add_sub_cancel_left, if_pos rfl]
  · rw [if_neg e]
    by_cases e1 : a = m
    · rw [if_pos e1, if_pos e1]
    · rw [if_neg e1, if_neg e1]
      by_cases e2 : n ≤ a ∧ a < n + 40
      · rw [if_pos e2, if_pos e2, if_neg (by omega)]
      · rw [if_neg e2, if_neg e2]
theorem mw_self (hmn : m < n) (h1 : G.1 m = some (.inr (13, mFs n s.1))) (h2 : ∀ j, j < 40 → G.1 (n + j) = some (mArr E j (s.2 j))) : mW E G m n s = G := by
  refine Prod.ext (funext fun a => ?_) rfl
  simp only [mW]
  by_cases e1 : a = m
  · rw [if_pos e1, e1, h1]
  · rw [if_neg e1]
    by_cases e2 : n ≤ a ∧ a < n + 40
    · have e : n + (a - n) = a := by omega
      have K := h2 (a - n) (by omega)
      rw [e] at K
      rw [if_pos e2, K]
    · rw [if_neg e2]
theorem mw_mw {s' : mS} : mW E (mW E G m n s) m n s' = mW E G m n s' := by
  refine Prod.ext (funext fun a => ?_) rfl
  simp only [mW]
  by_cases e1 : a = m
  · rw [if_pos e1, if_pos e1]
  · by_cases e2 : n ≤ a ∧ a < n + 40
    · simp only [if_neg e1, if_pos e2]
    · simp only [if_neg e1, if_neg e2]
variable {Y : gY} {d : Nat} {G0 : gS} {Q : gO → gS → Prop} {pc : Nat} {lv : List (Nat × Value)} {rest : List Value}
theorem w_get {k index : Nat} {x : Value} (hf : gFld Y.1.cls index T_Model k) (hk : k < 60) (hx : (mFs n s.1)[k]? = some x) (hdg : decode Y.2.1 pc = .ok (.getfield index, 3)) (kk : GT E Y d G0 (pc + 3) lv (x :: rest) (mW E G m n s) Q) : GT E Y d G0 pc lv (.ref m :: rest) (mW E G m n s) Q :=
  g_getf kc_Model hf hk mw_f hx hdg kk
theorem w_put {k index : Nat} {x : Int32} (hf : gFld Y.1.cls index T_Model k) (hk : k < 60) (hfin : (T_Model k).2.2.2 = false) (hn : narrow (t_Model k) (.int x) = .int x) (hfit : fits (t_Model k) (.int x) = true) (hs : (mFs n s.1).set k (.int x) = mFs n (upd s.1 k x)) (hlen : k < 60) (hdg : decode Y.2.1 pc = .ok (.putfield index, 3)) (kk : GT E Y d G0 (pc + 3) lv rest (mW E G m n (wF s k x)) Q) : GT E Y d G0 pc lv (.int x :: .ref m :: rest) (mW E G m n s) Q :=
  g_putf (fs' := mFs n (upd s.1 k x)) kc_Model hf hk mw_f hfin hn hfit hlen hs hdg (by rw [mw_upF]; exact kk)
theorem w_ald {i x : Int32} {j q : Nat} (hmn : m < n) (h40 : j < 40) (h12 : j ≠ 12) (hi : i.toInt = (q : Int)) (hq : q < mSz j) (hx : s.2 j q = x) (hdg : decode Y.2.1 pc = .ok (.iaload, 1)) (kk : GT E Y d G0 (pc + 1) lv (.int x :: rest) (mW E G m n s) Q) : GT E Y d G0 pc lv (.int i :: .ref (n + j) :: rest) (mW E G m n s) Q := by
  subst hx
  exact g_iald (n := mSz j) (f := s.2 j) ((mw_a hmn h40).trans (congrArg some (mArr_I h12 rfl))) hi hq hdg kk
theorem w_zld {i x : Int32} {j q : Nat} (hmn : m < n) (h40 : j < 40) (h12 : j = 12) (hi : i.toInt = (q : Int)) (hq : q < mSz j) (hx : s.2 j q = x) (hdg : decode Y.2.1 pc = .ok (.baload, 1)) (kk : GT E Y d G0 (pc + 1) lv (.int x :: rest) (mW E G m n s) Q) : GT E Y d G0 pc lv (.int i :: .ref (n + j) :: rest) (mW E G m n s) Q := by
  subst hx
  exact g_zald (n := mSz j) (f := s.2 j) ((mw_a hmn h40).trans (congrArg some (if_pos h12))) hi hq hdg kk
theorem w_ast {i x : Int32} {j q : Nat} (hmn : m < n) (h40 : j < 40) (h12 : j ≠ 12) (hi : i.toInt = (q : Int)) (hq : q < mSz j) (hdg : decode Y.2.1 pc = .ok (.iastore, 1)) (kk : GT E Y d G0 (pc + 1) lv rest (mW E G m n (wA s j q x)) Q) : GT E Y d G0 pc lv (.int x :: .int i :: .ref (n + j) :: rest) (mW E G m n s) Q := by
  refine g_iast (n := mSz j) (f := s.2 j) ((mw_a hmn h40).trans (congrArg some (mArr_I h12 rfl))) hi hq hdg ?_
  rw [← mArr_I h12 rfl, mw_upA hmn h40]
  exact kk
theorem w_zst {i x : Int32} {j q : Nat} (hmn : m < n) (h40 : j < 40) (h12 : j = 12) (hi : i.toInt = (q : Int)) (hq : q < mSz j) (hv : narrow .boolean (.int x) = .int x) (hdg : decode Y.2.1 pc = .ok (.bastore, 1)) (kk : GT E Y d G0 (pc + 1) lv rest (mW E G m n (wA s j q x)) Q) : GT E Y d G0 pc lv (.int x :: .int i :: .ref (n + j) :: rest) (mW E G m n s) Q := by
  refine g_zast (n := mSz j) (f := s.2 j) ((mw_a hmn h40).trans (congrArg some (if_pos h12))) hi hq hv hdg ?_
  have e : mArr E j (upd (s.2 j) q x) = gAZ E (mSz j) (upd (s.2 j) q x) := if_pos h12
  rw [← e, mw_upA hmn h40]
  exact kk
end MW
