/-! Rows over the class as one world -/
def upT (A : Nat → Nat → Option Nat) (j : Nat) (f : Nat → Option Nat) : Nat → Nat → Option Nat := fun i => if i = j then f else A i
def upN (A : Nat → Nat) (j x : Nat) : Nat → Nat := fun i => if i = j then x else A i
def cF (c : cS) (j : Nat) (x : Int32) : cS := (upd c.1 j x, c.2)
def cR (c : cS) (j : Nat) (f : Nat → Int32) : cS := (c.1, upA c.2.1 j f, c.2.2)
def cA (c : cS) (j q : Nat) (x : Int32) : cS := cR c j (upd (c.2.1 j) q x)
def cT (c : cS) (j q : Nat) (x : Option Nat) : cS := (c.1, c.2.1, upT c.2.2.1 j (va_up (c.2.2.1 j) q x), c.2.2.2)
def cD (c : cS) (j x : Nat) : cS := (c.1, c.2.1, c.2.2.1, upN c.2.2.2 j x)
section XR
variable {E : gE} {G : gS} {a : Nat} {c c' : cS} {Y : gY} {d : Nat} {G0 : gS} {Q : gO → gS → Prop} {pc : Nat} {lv : List (Nat × Value)} {rest : List Value}
set_option maxRecDepth 100000 in
theorem xf_F0 {x : Int32} : ∀ i, i < 24 → i ≠ 0 → xC E a (cF c 0 x) i = xC E a c i := by
  intro i hi hne
  match i, hi, hne with
  | 0, _, h => exact absurd rfl h
  | 1, _, _ => rfl
  | 2, _, _ => rfl
  | 3, _, _ => rfl
  | 4, _, _ => rfl
  | 5, _, _ => rfl
  | 6, _, _ => rfl
  | 7, _, _ => rfl
  | 8, _, _ => rfl
  | 9, _, _ => rfl
  | 10, _, _ => rfl
  | 11, _, _ => rfl
  | 12, _, _ => rfl
  | 13, _, _ => rfl
  | 14, _, _ => rfl
  | 15, _, _ => rfl
  | 16, _, _ => rfl
  | 17, _, _ => rfl
  | 18, _, _ => rfl
  | 19, _, _ => rfl
  | 20, _, _ => rfl
  | 21, _, _ => rfl
  | 22, _, _ => rfl
  | 23, _, _ => rfl
  | i + 24, hi, _ => omega
set_option maxRecDepth 100000 in
theorem xf_F1 {x : Int32} : ∀ i, i < 24 → i ≠ 0 → xC E a (cF c 1 x) i = xC E a c i := by
  intro i hi hne
  match i, hi, hne with
  | 0, _, h => exact absurd rfl h
  | 1, _, _ => rfl
  | 2, _, _ => rfl
  | 3, _, _ => rfl
  | 4, _, _ => rfl
  | 5, _, _ => rfl
  | 6, _, _ => rfl
  | 7, _, _ => rfl
  | 8, _, _ => rfl
  | 9, _, _ => rfl
  | 10, _, _ => rfl
  | 11, _, _ => rfl
  | 12, _, _ => rfl
  | 13, _, _ => rfl
  | 14, _, _ => rfl
  | 15, _, _ => rfl
  | 16, _, _ => rfl
  | 17, _, _ => rfl
  | 18, _, _ => rfl
  | 19, _, _ => rfl
  | 20, _, _ => rfl
  | 21, _, _ => rfl
  | 22, _, _ => rfl
  | 23, _, _ => rfl
  | i + 24, hi, _ => omega
set_option maxRecDepth 100000 in
theorem xf_F2 {x : Int32} : ∀ i, i < 24 → i ≠ 0 → xC E a (cF c 2 x) i = xC E a c i := by
  intro i hi hne
  match i, hi, hne with
  | 0, _, h => exact absurd rfl h
  | 1, _, _ => rfl
  | 2, _, _ => rfl
  | 3, _, _ => rfl
  | 4, _, _ => rfl
  | 5, _, _ => rfl
  | 6, _, _ => rfl
  | 7, _, _ => rfl
  | 8, _, _ => rfl
  | 9, _, _ => rfl
  | 10, _, _ => rfl
  | 11, _, _ => rfl
  | 12, _, _ => rfl
  | 13, _, _ => rfl
  | 14, _, _ => rfl
  | 15, _, _ => rfl
  | 16, _, _ => rfl
  | 17, _, _ => rfl
  | 18, _, _ => rfl
  | 19, _, _ => rfl
  | 20, _, _ => rfl
  | 21, _, _ => rfl
  | 22, _, _ => rfl
  | 23, _, _ => rfl
  | i + 24, hi, _ => omega
set_option maxRecDepth 100000 in
theorem xf_F3 {x : Int32} : ∀ i, i < 24 → i ≠ 5 → xC E a (cF c 3 x) i = xC E a c i := by
  intro i hi hne
  match i, hi, hne with
  | 0, _, _ => rfl
  | 1, _, _ => rfl
  | 2, _, _ => rfl
  | 3, _, _ => rfl
  | 4, _, _ => rfl
  | 5, _, h => exact absurd rfl h
  | 6, _, _ => rfl
  | 7, _, _ => rfl
  | 8, _, _ => rfl
  | 9, _, _ => rfl
  | 10, _, _ => rfl
  | 11, _, _ => rfl
  | 12, _, _ => rfl
  | 13, _, _ => rfl
  | 14, _, _ => rfl
  | 15, _, _ => rfl
  | 16, _, _ => rfl
  | 17, _, _ => rfl
  | 18, _, _ => rfl
  | 19, _, _ => rfl
  | 20, _, _ => rfl
  | 21, _, _ => rfl
  | 22, _, _ => rfl
  | 23, _, _ => rfl
  | i + 24, hi, _ => omega
set_option maxRecDepth 100000 in
theorem xf_F4 {x : Int32} : ∀ i, i < 24 → i ≠ 8 → xC E a (cF c 4 x) i = xC E a c i := by
  intro i hi hne
  match i, hi, hne with
  | 0, _, _ => rfl
  | 1, _, _ => rfl
  | 2, _, _ => rfl
  | 3, _, _ => rfl
  | 4, _, _ => rfl
  | 5, _, _ => rfl
  | 6, _, _ => rfl
  | 7, _, _ => rfl
  | 8, _, h => exact absurd rfl h
  | 9, _, _ => rfl
  | 10, _, _ => rfl
  | 11, _, _ => rfl
  | 12, _, _ => rfl
  | 13, _, _ => rfl
  | 14, _, _ => rfl
  | 15, _, _ => rfl
  | 16, _, _ => rfl
  | 17, _, _ => rfl
  | 18, _, _ => rfl
  | 19, _, _ => rfl
  | 20, _, _ => rfl
  | 21, _, _ => rfl
  | 22, _, _ => rfl
  | 23, _, _ => rfl
  | i + 24, hi, _ => omega
set_option maxRecDepth 100000 in
theorem xf_F5 {x : Int32} : ∀ i, i < 24 → i ≠ 10 → xC E a (cF c 5 x) i = xC E a c i := by
  intro i hi hne
  match i, hi, hne with
  | 0, _, _ => rfl
  | 1, _, _ => rfl
  | 2, _, _ => rfl
  | 3, _, _ => rfl
  | 4, _, _ => rfl
  | 5, _, _ => rfl
  | 6, _, _ => rfl
  | 7, _, _ => rfl
  | 8, _, _ => rfl
  | 9, _, _ => rfl
  | 10, _, h => exact absurd rfl h
  | 11, _, _ => rfl
  | 12, _, _ => rfl
  | 13, _, _ => rfl
  | 14, _, _ => rfl
  | 15, _, _ => rfl
  | 16, _, _ => rfl
  | 17, _, _ => rfl
  | 18, _, _ => rfl
  | 19, _, _ => rfl
  | 20, _, _ => rfl
  | 21, _, _ => rfl
  | 22, _, _ => rfl
  | 23, _, _ => rfl
  | i + 24, hi, _ => omega
set_option maxRecDepth 100000 in
theorem xf_F6 {x : Int32} : ∀ i, i < 24 → i ≠ 12 → xC E a (cF c 6 x) i = xC E a c i := by
  intro i hi hne
  match i, hi, hne with
  | 0, _, _ => rfl
  | 1, _, _ => rfl
  | 2, _, _ => rfl
  | 3, _, _ => rfl
  | 4, _, _ => rfl
  | 5, _, _ => rfl
  | 6, _, _ => rfl
  | 7, _, _ => rfl
  | 8, _, _ => rfl
  | 9, _, _ => rfl
  | 10, _, _ => rfl
  | 11, _, _ => rfl
  | 12, _, h => exact absurd rfl h
  | 13, _, _ => rfl
  | 14, _, _ => rfl
  | 15, _, _ => rfl
  | 16, _, _ => rfl
  | 17, _, _ => rfl
  | 18, _, _ => rfl
  | 19, _, _ => rfl
  | 20, _, _ => rfl
  | 21, _, _ => rfl
  | 22, _, _ => rfl
  | 23, _, _ => rfl
  | i + 24, hi, _ => omega
set_option maxRecDepth 100000 in
theorem xf_F7 {x : Int32} : ∀ i, i < 24 → i ≠ 12 → xC E a (cF c 7 x) i = xC E a c i := by
  intro i hi hne
  match i, hi, hne with
  | 0, _, _ => rfl
  | 1, _, _ => rfl
  | 2, _, _ => rfl
  | 3, _, _ => rfl
  | 4, _, _ => rfl
  | 5, _, _ => rfl
  | 6, _, _ => rfl
  | 7, _, _ => rfl
  | 8, _, _ => rfl
  | 9, _, _ => rfl
  | 10, _, _ => rfl
  | 11, _, _ => rfl
  | 12, _, h => exact absurd rfl h
  | 13, _, _ => rfl
  | 14, _, _ => rfl
  | 15, _, _ => rfl
  | 16, _, _ => rfl
  | 17, _, _ => rfl
  | 18, _, _ => rfl
  | 19, _, _ => rfl
  | 20, _, _ => rfl
  | 21, _, _ => rfl
  | 22, _, _ => rfl
  | 23, _, _ => rfl
  | i + 24, hi, _ => omega
set_option maxRecDepth 100000 in
theorem xf_F8 {x : Int32} : ∀ i, i < 24 → i ≠ 12 → xC E a (cF c 8 x) i = xC E a c i := by
  intro i hi hne
  match i, hi, hne with
  | 0, _, _ => rfl
  | 1, _, _ => rfl
  | 2, _, _ => rfl
  | 3, _, _ => rfl
  | 4, _, _ => rfl
  | 5, _, _ => rfl
  | 6, _, _ => rfl
  | 7, _, _ => rfl
  | 8, _, _ => rfl
  | 9, _, _ => rfl
  | 10, _, _ => rfl
  | 11, _, _ => rfl
  | 12, _, h => exact absurd rfl h
  | 13, _, _ => rfl
  | 14, _, _ => rfl
  | 15, _, _ => rfl
  | 16, _, _ => rfl
  | 17, _, _ => rfl
  | 18, _, _ => rfl
  | 19, _, _ => rfl
  | 20, _, _ => rfl
  | 21, _, _ => rfl
  | 22, _, _ => rfl
  | 23, _, _ => rfl
  | i + 24, hi, _ => omega
set_option maxRecDepth 100000 in
theorem xf_F9 {x : Int32} : ∀ i, i < 24 → i ≠ 12 → xC E a (cF c 9 x) i = xC E a c i := by
  intro i hi hne
  match i, hi, hne with
  | 0, _, _ => rfl
  | 1, _, _ => rfl
  | 2, _, _ => rfl
  | 3, _, _ => rfl
  | 4, _, _ => rfl
  | 5, _, _ => rfl
  | 6, _, _ => rfl
  | 7, _, _ => rfl
  | 8, _, _ => rfl
  | 9, _, _ => rfl
  | 10, _, _ => rfl
  | 11, _, _ => rfl
  | 12, _, h => exact absurd rfl h
  | 13, _, _ => rfl
  | 14, _, _ => rfl
  | 15, _, _ => rfl
  | 16, _, _ => rfl
  | 17, _, _ => rfl
  | 18, _, _ => rfl
  | 19, _, _ => rfl
  | 20, _, _ => rfl
  | 21, _, _ => rfl
  | 22, _, _ => rfl
  | 23, _, _ => rfl
  | i + 24, hi, _ => omega
set_option maxRecDepth 100000 in
theorem xf_F10 {x : Int32} : ∀ i, i < 24 → i ≠ 12 → xC E a (cF c 10 x) i = xC E a c i := by
  intro i hi hne
  match i, hi, hne with
  | 0, _, _ => rfl
  | 1, _, _ => rfl
  | 2, _, _ => rfl
  | 3, _, _ => rfl
  | 4, _, _ => rfl
  | 5, _, _ => rfl
  | 6, _, _ => rfl
  | 7, _, _ => rfl
  | 8, _, _ => rfl
  | 9, _, _ => rfl
  | 10, _, _ => rfl
  | 11, _, _ => rfl
  | 12, _, h => exact absurd rfl h
  | 13, _, _ => rfl
  | 14, _, _ => rfl
  | 15, _, _ => rfl
  | 16, _, _ => rfl
  | 17, _, _ => rfl
  | 18, _, _ => rfl
  | 19, _, _ => rfl
  | 20, _, _ => rfl
  | 21, _, _ => rfl
  | 22, _, _ => rfl
  | 23, _, _ => rfl
  | i + 24, hi, _ => omega
set_option maxRecDepth 100000 in
theorem xf_F11 {x : Int32} : ∀ i, i < 24 → i ≠ 12 → xC E a (cF c 11 x) i = xC E a c i := by
  intro i hi hne
  match i, hi, hne with
  | 0, _, _ => rfl
  | 1, _, _ => rfl
  | 2, _, _ => rfl
  | 3, _, _ => rfl
  | 4, _, _ => rfl
  | 5, _, _ => rfl
  | 6, _, _ => rfl
  | 7, _, _ => rfl
  | 8, _, _ => rfl
  | 9, _, _ => rfl
  | 10, _, _ => rfl
  | 11, _, _ => rfl
  | 12, _, h => exact absurd rfl h
  | 13, _, _ => rfl
  | 14, _, _ => rfl
  | 15, _, _ => rfl
  | 16, _, _ => rfl
  | 17, _, _ => rfl
  | 18, _, _ => rfl
  | 19, _, _ => rfl
  | 20, _, _ => rfl
  | 21, _, _ => rfl
  | 22, _, _ => rfl
  | 23, _, _ => rfl
  | i + 24, hi, _ => omega
set_option maxRecDepth 100000 in
theorem xf_F12 {x : Int32} : ∀ i, i < 24 → i ≠ 12 → xC E a (cF c 12 x) i = xC E a c i := by
  intro i hi hne
  match i, hi, hne with
  | 0, _, _ => rfl
  | 1, _, _ => rfl
  | 2, _, _ => rfl
  | 3, _, _ => rfl
  | 4, _, _ => rfl
  | 5, _, _ => rfl
  | 6, _, _ => rfl
  | 7, _, _ => rfl
  | 8, _, _ => rfl
  | 9, _, _ => rfl
  | 10, _, _ => rfl
  | 11, _, _ => rfl
  | 12, _, h => exact absurd rfl h
  | 13, _, _ => rfl
  | 14, _, _ => rfl
  | 15, _, _ => rfl
  | 16, _, _ => rfl
  | 17, _, _ => rfl
  | 18, _, _ => rfl
  | 19, _, _ => rfl
  | 20, _, _ => rfl
  | 21, _, _ => rfl
  | 22, _, _ => rfl
  | 23, _, _ => rfl
  | i + 24, hi, _ => omega
set_option maxRecDepth 100000 in
theorem xf_F13 {x : Int32} : ∀ i, i < 24 → i ≠ 13 → xC E a (cF c 13 x) i = xC E a c i := by
  intro i hi hne
  match i, hi, hne with
  | 0, _, _ => rfl
  | 1, _, _ => rfl
  | 2, _, _ => rfl
  | 3, _, _ => rfl
  | 4, _, _ => rfl
  | 5, _, _ => rfl
  | 6, _, _ => rfl
  | 7, _, _ => rfl
  | 8, _, _ => rfl
  | 9, _, _ => rfl
  | 10, _, _ => rfl
  | 11, _, _ => rfl
  | 12, _, _ => rfl
  | 13, _, h => exact absurd rfl h
  | 14, _, _ => rfl
  | 15, _, _ => rfl
  | 16, _, _ => rfl
  | 17, _, _ => rfl
  | 18, _, _ => rfl
  | 19, _, _ => rfl
  | 20, _, _ => rfl
  | 21, _, _ => rfl
  | 22, _, _ => rfl
  | 23, _, _ => rfl
  | i + 24, hi, _ => omega
set_option maxRecDepth 100000 in
theorem xf_F14 {x : Int32} : ∀ i, i < 24 → i ≠ 14 → xC E a (cF c 14 x) i = xC E a c i := by
  intro i hi hne
  match i, hi, hne with
  | 0, _, _ => rfl
  | 1, _, _ => rfl
  | 2, _, _ => rfl
  | 3, _, _ => rfl
  | 4, _, _ => rfl
  | 5, _, _ => rfl
  | 6, _, _ => rfl
  | 7, _, _ => rfl
  | 8, _, _ => rfl
  | 9, _, _ => rfl
  | 10, _, _ => rfl
  | 11, _, _ => rfl
  | 12, _, _ => rfl
  | 13, _, _ => rfl
  | 14, _, h => exact absurd rfl h
  | 15, _, _ => rfl
  | 16, _, _ => rfl
  | 17, _, _ => rfl
  | 18, _, _ => rfl
  | 19, _, _ => rfl
  | 20, _, _ => rfl
  | 21, _, _ => rfl
  | 22, _, _ => rfl
  | 23, _, _ => rfl
  | i + 24, hi, _ => omega
set_option maxRecDepth 100000 in
theorem xf_F15 {x : Int32} : ∀ i, i < 24 → i ≠ 14 → xC E a (cF c 15 x) i = xC E a c i := by
  intro i hi hne
  match i, hi, hne with
  | 0, _, _ => rfl
  | 1, _, _ => rfl
  | 2, _, _ => rfl
  | 3, _, _ => rfl
  | 4, _, _ => rfl
  | 5, _, _ => rfl
  | 6, _, _ => rfl
  | 7, _, _ => rfl
  | 8, _, _ => rfl
  | 9, _, _ => rfl
  | 10, _, _ => rfl
  | 11, _, _ => rfl
  | 12, _, _ => rfl
  | 13, _, _ => rfl
  | 14, _, h => exact absurd rfl h
  | 15, _, _ => rfl
  | 16, _, _ => rfl
  | 17, _, _ => rfl
  | 18, _, _ => rfl
  | 19, _, _ => rfl
  | 20, _, _ => rfl
  | 21, _, _ => rfl
  | 22, _, _ => rfl
  | 23, _, _ => rfl
  | i + 24, hi, _ => omega
set_option maxRecDepth 100000 in
theorem xf_F16 {x : Int32} : ∀ i, i < 24 → i ≠ 15 → xC E a (cF c 16 x) i = xC E a c i := by
  intro i hi hne
  match i, hi, hne with
  | 0, _, _ => rfl
  | 1, _, _ => rfl
  | 2, _, _ => rfl
  | 3, _, _ => rfl
  | 4, _, _ => rfl
  | 5, _, _ => rfl
  | 6, _, _ => rfl
  | 7, _, _ => rfl
  | 8, _, _ => rfl
  | 9, _, _ => rfl
  | 10, _, _ => rfl
  | 11, _, _ => rfl
  | 12, _, _ => rfl
  | 13, _, _ => rfl
  | 14, _, _ => rfl
  | 15, _, h => exact absurd rfl h
  | 16, _, _ => rfl
  | 17, _, _ => rfl
  | 18, _, _ => rfl
  | 19, _, _ => rfl
  | 20, _, _ => rfl
  | 21, _, _ => rfl
  | 22, _, _ => rfl
  | 23, _, _ => rfl
  | i + 24, hi, _ => omega
set_option maxRecDepth 100000 in
theorem xf_F17 {x : Int32} : ∀ i, i < 24 → i ≠ 16 → xC E a (cF c 17 x) i = xC E a c i := by
  intro i hi hne
  match i, hi, hne with
  | 0, _, _ => rfl
  | 1, _, _ => rfl
  | 2, _, _ => rfl
  | 3, _, _ => rfl
  | 4, _, _ => rfl
  | 5, _, _ => rfl
  | 6, _, _ => rfl
  | 7, _, _ => rfl
  | 8, _, _ => rfl
  | 9, _, _ => rfl
  | 10, _, _ => rfl
  | 11, _, _ => rfl
  | 12, _, _ => rfl
  | 13, _, _ => rfl
  | 14, _, _ => rfl
  | 15, _, _ => rfl
  | 16, _, h => exact absurd rfl h
  | 17, _, _ => rfl
  | 18, _, _ => rfl
  | 19, _, _ => rfl
  | 20, _, _ => rfl
  | 21, _, _ => rfl
  | 22, _, _ => rfl
  | 23, _, _ => rfl
  | i + 24, hi, _ => omega
set_option maxRecDepth 100000 in
theorem xf_F18 {x : Int32} : ∀ i, i < 24 → i ≠ 16 → xC E a (cF c 18 x) i = xC E a c i := by
  intro i hi hne
  match i, hi, hne with
  | 0, _, _ => rfl
  | 1, _, _ => rfl
  | 2, _, _ => rfl
  | 3, _, _ => rfl
  | 4, _, _ => rfl
  | 5, _, _ => rfl
  | 6, _, _ => rfl
  | 7, _, _ => rfl
  | 8, _, _ => rfl
  | 9, _, _ => rfl
  | 10, _, _ => rfl
  | 11, _, _ => rfl
  | 12, _, _ => rfl
  | 13, _, _ => rfl
  | 14, _, _ => rfl
  | 15, _, _ => rfl
  | 16, _, h => exact absurd rfl h
  | 17, _, _ => rfl
  | 18, _, _ => rfl
  | 19, _, _ => rfl
  | 20, _, _ => rfl
  | 21, _, _ => rfl
  | 22, _, _ => rfl
  | 23, _, _ => rfl
  | i + 24, hi, _ => omega
set_option maxRecDepth 100000 in
theorem xf_F19 {x : Int32} : ∀ i, i < 24 → i ≠ 17 → xC E a (cF c 19 x) i = xC E a c i := by
  intro i hi hne
  match i, hi, hne with
  | 0, _, _ => rfl
  | 1, _, _ => rfl
  | 2, _, _ => rfl
  | 3, _, _ => rfl
  | 4, _, _ => rfl
  | 5, _, _ => rfl
  | 6, _, _ => rfl
  | 7, _, _ => rfl
  | 8, _, _ => rfl
  | 9, _, _ => rfl
  | 10, _, _ => rfl
  | 11, _, _ => rfl
  | 12, _, _ => rfl
  | 13, _, _ => rfl
  | 14, _, _ => rfl
  | 15, _, _ => rfl
  | 16, _, _ => rfl
  | 17, _, h => exact absurd rfl h
  | 18, _, _ => rfl
  | 19, _, _ => rfl
  | 20, _, _ => rfl
  | 21, _, _ => rfl
  | 22, _, _ => rfl
  | 23, _, _ => rfl
  | i + 24, hi, _ => omega
set_option maxRecDepth 100000 in
theorem xf_F20 {x : Int32} : ∀ i, i < 24 → i ≠ 17 → xC E a (cF c 20 x) i = xC E a c i := by
  intro i hi hne
  match i, hi, hne with
  | 0, _, _ => rfl
  | 1, _, _ => rfl
  | 2, _, _ => rfl
  | 3, _, _ => rfl
  | 4, _, _ => rfl
  | 5, _, _ => rfl
  | 6, _, _ => rfl
  | 7, _, _ => rfl
  | 8, _, _ => rfl
  | 9, _, _ => rfl
  | 10, _, _ => rfl
  | 11, _, _ => rfl
  | 12, _, _ => rfl
  | 13, _, _ => rfl
  | 14, _, _ => rfl
  | 15, _, _ => rfl
  | 16, _, _ => rfl
  | 17, _, h => exact absurd rfl h
  | 18, _, _ => rfl
  | 19, _, _ => rfl
  | 20, _, _ => rfl
  | 21, _, _ => rfl
  | 22, _, _ => rfl
  | 23, _, _ => rfl
  | i + 24, hi, _ => omega
set_option maxRecDepth 100000 in
theorem xf_F21 {x : Int32} : ∀ i, i < 24 → i ≠ 20 → xC E a (cF c 21 x) i = xC E a c i := by
  intro i hi hne
  match i, hi, hne with
  | 0, _, _ => rfl
  | 1, _, _ => rfl
  | 2, _, _ => rfl
  | 3, _, _ => rfl
  | 4, _, _ => rfl
  | 5, _, _ => rfl
  | 6, _, _ => rfl
  | 7, _, _ => rfl
  | 8, _, _ => rfl
  | 9, _, _ => rfl
  | 10, _, _ => rfl
  | 11, _, _ => rfl
  | 12, _, _ => rfl
  | 13, _, _ => rfl
  | 14, _, _ => rfl
  | 15, _, _ => rfl
  | 16, _, _ => rfl
  | 17, _, _ => rfl
  | 18, _, _ => rfl
  | 19, _, _ => rfl
  | 20, _, h => exact absurd rfl h
  | 21, _, _ => rfl
  | 22, _, _ => rfl
  | 23, _, _ => rfl
  | i + 24, hi, _ => omega
set_option maxRecDepth 100000 in
theorem xf_F22 {x : Int32} : ∀ i, i < 24 → i ≠ 23 → xC E a (cF c 22 x) i = xC E a c i := by
  intro i hi hne
  match i, hi, hne with
  | 0, _, _ => rfl
  | 1, _, _ => rfl
  | 2, _, _ => rfl
  | 3, _, _ => rfl
  | 4, _, _ => rfl
  | 5, _, _ => rfl
  | 6, _, _ => rfl
  | 7, _, _ => rfl
  | 8, _, _ => rfl
  | 9, _, _ => rfl
  | 10, _, _ => rfl
  | 11, _, _ => rfl
  | 12, _, _ => rfl
  | 13, _, _ => rfl
  | 14, _, _ => rfl
  | 15, _, _ => rfl
  | 16, _, _ => rfl
  | 17, _, _ => rfl
  | 18, _, _ => rfl
  | 19, _, _ => rfl
  | 20, _, _ => rfl
  | 21, _, _ => rfl
  | 22, _, _ => rfl
  | 23, _, h => exact absurd rfl h
  | i + 24, hi, _ => omega
set_option maxRecDepth 100000 in
theorem xf_F23 {x : Int32} : ∀ i, i < 24 → i ≠ 23 → xC E a (cF c 23 x) i = xC E a c i := by
  intro i hi hne
  match i, hi, hne with
  | 0, _, _ => rfl
  | 1, _, _ => rfl
  | 2, _, _ => rfl
  | 3, _, _ => rfl
  | 4, _, _ => rfl
  | 5, _, _ => rfl
  | 6, _, _ => rfl
  | 7, _, _ => rfl
  | 8, _, _ => rfl
  | 9, _, _ => rfl
  | 10, _, _ => rfl
  | 11, _, _ => rfl
  | 12, _, _ => rfl
  | 13, _, _ => rfl
  | 14, _, _ => rfl
  | 15, _, _ => rfl
  | 16, _, _ => rfl
  | 17, _, _ => rfl
  | 18, _, _ => rfl
  | 19, _, _ => rfl
  | 20, _, _ => rfl
  | 21, _, _ => rfl
  | 22, _, _ => rfl
  | 23, _, h => exact absurd rfl h
  | i + 24, hi, _ => omega
set_option maxRecDepth 100000 in
theorem xf_A0 {f : Nat → Int32} : ∀ i, i < 24 → i ≠ 2 → xC E a (cR c 0 f) i = xC E a c i := by
  intro i hi hne
  match i, hi, hne with
  | 0, _, _ => rfl
  | 1, _, _ => rfl
  | 2, _, h => exact absurd rfl h
  | 3, _, _ => rfl
  | 4, _, _ => rfl
  | 5, _, _ => rfl
  | 6, _, _ => rfl
  | 7, _, _ => rfl
  | 8, _, _ => rfl
  | 9, _, _ => rfl
  | 10, _, _ => rfl
  | 11, _, _ => rfl
  | 12, _, _ => rfl
  | 13, _, _ => rfl
  | 14, _, _ => rfl
  | 15, _, _ => rfl
  | 16, _, _ => rfl
  | 17, _, _ => rfl
  | 18, _, _ => rfl
  | 19, _, _ => rfl
  | 20, _, _ => rfl
  | 21, _, _ => rfl
  | 22, _, _ => rfl
  | 23, _, _ => rfl
  | i + 24, hi, _ => omega
set_option maxRecDepth 100000 in
theorem xf_A1 {f : Nat → Int32} : ∀ i, i < 24 → i ≠ 3 → xC E a (cR c 1 f) i = xC E a c i := by
  intro i hi hne
  match i, hi, hne with
  | 0, _, _ => rfl
  | 1, _, _ => rfl
  | 2, _, _ => rfl
  | 3, _, h => exact absurd rfl h
  | 4, _, _ => rfl
  | 5, _, _ => rfl
  | 6, _, _ => rfl
  | 7, _, _ => rfl
  | 8, _, _ => rfl
  | 9, _, _ => rfl
  | 10, _, _ => rfl
  | 11, _, _ => rfl
  | 12, _, _ => rfl
  | 13, _, _ => rfl
  | 14, _, _ => rfl
  | 15, _, _ => rfl
  | 16, _, _ => rfl
  | 17, _, _ => rfl
  | 18, _, _ => rfl
  | 19, _, _ => rfl
  | 20, _, _ => rfl
  | 21, _, _ => rfl
  | 22, _, _ => rfl
  | 23, _, _ => rfl
  | i + 24, hi, _ => omega
set_option maxRecDepth 100000 in
theorem xf_A2 {f : Nat → Int32} : ∀ i, i < 24 → i ≠ 4 → xC E a (cR c 2 f) i = xC E a c i := by
  intro i hi hne
  match i, hi, hne with
  | 0, _, _ => rfl
  | 1, _, _ => rfl
  | 2, _, _ => rfl
  | 3, _, _ => rfl
  | 4, _, h => exact absurd rfl h
  | 5, _, _ => rfl
  | 6, _, _ => rfl
  | 7, _, _ => rfl
  | 8, _, _ => rfl
  | 9, _, _ => rfl
  | 10, _, _ => rfl
  | 11, _, _ => rfl
  | 12, _, _ => rfl
  | 13, _, _ => rfl
  | 14, _, _ => rfl
  | 15, _, _ => rfl
  | 16, _, _ => rfl
  | 17, _, _ => rfl
  | 18, _, _ => rfl
  | 19, _, _ => rfl
  | 20, _, _ => rfl
  | 21, _, _ => rfl
  | 22, _, _ => rfl
  | 23, _, _ => rfl
  | i + 24, hi, _ => omega
set_option maxRecDepth 100000 in
theorem xf_A3 {f : Nat → Int32} : ∀ i, i < 24 → i ≠ 7 → xC E a (cR c 3 f) i = xC E a c i := by
  intro i hi hne
  match i, hi, hne with
  | 0, _, _ => rfl
  | 1, _, _ => rfl
  | 2, _, _ => rfl
  | 3, _, _ => rfl
  | 4, _, _ => rfl
  | 5, _, _ => rfl
  | 6, _, _ => rfl
  | 7, _, h => exact absurd rfl h
  | 8, _, _ => rfl
  | 9, _, _ => rfl
  | 10, _, _ => rfl
  | 11, _, _ => rfl
  | 12, _, _ => rfl
  | 13, _, _ => rfl
  | 14, _, _ => rfl
  | 15, _, _ => rfl
  | 16, _, _ => rfl
  | 17, _, _ => rfl
  | 18, _, _ => rfl
  | 19, _, _ => rfl
  | 20, _, _ => rfl
  | 21, _, _ => rfl
  | 22, _, _ => rfl
  | 23, _, _ => rfl
  | i + 24, hi, _ => omega
set_option maxRecDepth 100000 in
theorem xf_A4 {f : Nat → Int32} : ∀ i, i < 24 → i ≠ 18 → xC E a (cR c 4 f) i = xC E a c i := by
  intro i hi hne
  match i, hi, hne with
  | 0, _, _ => rfl
  | 1, _, _ => rfl
  | 2, _, _ => rfl
  | 3, _, _ => rfl
  | 4, _, _ => rfl
  | 5, _, _ => rfl
  | 6, _, _ => rfl
  | 7, _, _ => rfl
  | 8, _, _ => rfl
  | 9, _, _ => rfl
  | 10, _, _ => rfl
  | 11, _, _ => rfl
  | 12, _, _ => rfl
  | 13, _, _ => rfl
  | 14, _, _ => rfl
  | 15, _, _ => rfl
  | 16, _, _ => rfl
  | 17, _, _ => rfl
  | 18, _, h => exact absurd rfl h
  | 19, _, _ => rfl
  | 20, _, _ => rfl
  | 21, _, _ => rfl
  | 22, _, _ => rfl
  | 23, _, _ => rfl
  | i + 24, hi, _ => omega
set_option maxRecDepth 100000 in
theorem xf_A5 {f : Nat → Int32} : ∀ i, i < 24 → i ≠ 19 → xC E a (cR c 5 f) i = xC E a c i := by
  intro i hi hne
  match i, hi, hne with
  | 0, _, _ => rfl
  | 1, _, _ => rfl
  | 2, _, _ => rfl
  | 3, _, _ => rfl
  | 4, _, _ => rfl
  | 5, _, _ => rfl
  | 6, _, _ => rfl
  | 7, _, _ => rfl
  | 8, _, _ => rfl
  | 9, _, _ => rfl
  | 10, _, _ => rfl
  | 11, _, _ => rfl
  | 12, _, _ => rfl
  | 13, _, _ => rfl
  | 14, _, _ => rfl
  | 15, _, _ => rfl
  | 16, _, _ => rfl
  | 17, _, _ => rfl
  | 18, _, _ => rfl
  | 19, _, h => exact absurd rfl h
  | 20, _, _ => rfl
  | 21, _, _ => rfl
  | 22, _, _ => rfl
  | 23, _, _ => rfl
  | i + 24, hi, _ => omega
set_option maxRecDepth 100000 in
theorem xf_A6 {f : Nat → Int32} : ∀ i, i < 24 → i ≠ 21 → xC E a (cR c 6 f) i = xC E a c i := by
  intro i hi hne
  match i, hi, hne with
  | 0, _, _ => rfl
  | 1, _, _ => rfl
  | 2, _, _ => rfl
  | 3, _, _ => rfl
  | 4, _, _ => rfl
  | 5, _, _ => rfl
  | 6, _, _ => rfl
  | 7, _, _ => rfl
  | 8, _, _ => rfl
  | 9, _, _ => rfl
  | 10, _, _ => rfl
  | 11, _, _ => rfl
  | 12, _, _ => rfl
  | 13, _, _ => rfl
  | 14, _, _ => rfl
  | 15, _, _ => rfl
  | 16, _, _ => rfl
  | 17, _, _ => rfl
  | 18, _, _ => rfl
  | 19, _, _ => rfl
  | 20, _, _ => rfl
  | 21, _, h => exact absurd rfl h
  | 22, _, _ => rfl
  | 23, _, _ => rfl
  | i + 24, hi, _ => omega
set_option maxRecDepth 100000 in
theorem xf_T0 {q : Nat} {x : Option Nat} : ∀ i, i < 24 → i ≠ 6 → xC E a (cT c 0 q x) i = xC E a c i := by
  intro i hi hne
  match i, hi, hne with
  | 0, _, _ => rfl
  | 1, _, _ => rfl
  | 2, _, _ => rfl
  | 3, _, _ => rfl
  | 4, _, _ => rfl
  | 5, _, _ => rfl
  | 6, _, h => exact absurd rfl h
  | 7, _, _ => rfl
  | 8, _, _ => rfl
  | 9, _, _ => rfl
  | 10, _, _ => rfl
  | 11, _, _ => rfl
  | 12, _, _ => rfl
  | 13, _, _ => rfl
  | 14, _, _ => rfl
  | 15, _, _ => rfl
  | 16, _, _ => rfl
  | 17, _, _ => rfl
  | 18, _, _ => rfl
  | 19, _, _ => rfl
  | 20, _, _ => rfl
  | 21, _, _ => rfl
  | 22, _, _ => rfl
  | 23, _, _ => rfl
  | i + 24, hi, _ => omega
set_option maxRecDepth 100000 in
theorem xf_T1 {q : Nat} {x : Option Nat} : ∀ i, i < 24 → i ≠ 9 → xC E a (cT c 1 q x) i = xC E a c i := by
  intro i hi hne
  match i, hi, hne with
  | 0, _, _ => rfl
  | 1, _, _ => rfl
  | 2, _, _ => rfl
  | 3, _, _ => rfl
  | 4, _, _ => rfl
  | 5, _, _ => rfl
  | 6, _, _ => rfl
  | 7, _, _ => rfl
  | 8, _, _ => rfl
  | 9, _, h => exact absurd rfl h
  | 10, _, _ => rfl
  | 11, _, _ => rfl
  | 12, _, _ => rfl
  | 13, _, _ => rfl
  | 14, _, _ => rfl
  | 15, _, _ => rfl
  | 16, _, _ => rfl
  | 17, _, _ => rfl
  | 18, _, _ => rfl
  | 19, _, _ => rfl
  | 20, _, _ => rfl
  | 21, _, _ => rfl
  | 22, _, _ => rfl
  | 23, _, _ => rfl
  | i + 24, hi, _ => omega
set_option maxRecDepth 100000 in
theorem xf_T2 {q : Nat} {x : Option Nat} : ∀ i, i < 24 → i ≠ 11 → xC E a (cT c 2 q x) i = xC E a c i := by
  intro i hi hne
  match i, hi, hne with
  | 0, _, _ => rfl
  | 1, _, _ => rfl
  | 2, _, _ => rfl
  | 3, _, _ => rfl
  | 4, _, _ => rfl
  | 5, _, _ => rfl
  | 6, _, _ => rfl
  | 7, _, _ => rfl
  | 8, _, _ => rfl
  | 9, _, _ => rfl
  | 10, _, _ => rfl
  | 11, _, h => exact absurd rfl h
  | 12, _, _ => rfl
  | 13, _, _ => rfl
  | 14, _, _ => rfl
  | 15, _, _ => rfl
  | 16, _, _ => rfl
  | 17, _, _ => rfl
  | 18, _, _ => rfl
  | 19, _, _ => rfl
  | 20, _, _ => rfl
  | 21, _, _ => rfl
  | 22, _, _ => rfl
  | 23, _, _ => rfl
  | i + 24, hi, _ => omega
set_option maxRecDepth 100000 in
theorem xf_T3 {q : Nat} {x : Option Nat} : ∀ i, i < 24 → i ≠ 22 → xC E a (cT c 3 q x) i = xC E a c i := by
  intro i hi hne
  match i, hi, hne with
  | 0, _, _ => rfl
  | 1, _, _ => rfl
  | 2, _, _ => rfl
  | 3, _, _ => rfl
  | 4, _, _ => rfl
  | 5, _, _ => rfl
  | 6, _, _ => rfl
  | 7, _, _ => rfl
  | 8, _, _ => rfl
  | 9, _, _ => rfl
  | 10, _, _ => rfl
  | 11, _, _ => rfl
  | 12, _, _ => rfl
  | 13, _, _ => rfl
  | 14, _, _ => rfl
  | 15, _, _ => rfl
  | 16, _, _ => rfl
  | 17, _, _ => rfl
  | 18, _, _ => rfl
  | 19, _, _ => rfl
  | 20, _, _ => rfl
  | 21, _, _ => rfl
  | 22, _, h => exact absurd rfl h
  | 23, _, _ => rfl
  | i + 24, hi, _ => omega
set_option maxRecDepth 100000 in
theorem xf_D0 {x : Nat} : ∀ i, i < 24 → i ≠ 14 → xC E a (cD c 0 x) i = xC E a c i := by
  intro i hi hne
  match i, hi, hne with
  | 0, _, _ => rfl
  | 1, _, _ => rfl
  | 2, _, _ => rfl
  | 3, _, _ => rfl
  | 4, _, _ => rfl
  | 5, _, _ => rfl
  | 6, _, _ => rfl
  | 7, _, _ => rfl
  | 8, _, _ => rfl
  | 9, _, _ => rfl
  | 10, _, _ => rfl
  | 11, _, _ => rfl
  | 12, _, _ => rfl
  | 13, _, _ => rfl
  | 14, _, h => exact absurd rfl h
  | 15, _, _ => rfl
  | 16, _, _ => rfl
  | 17, _, _ => rfl
  | 18, _, _ => rfl
  | 19, _, _ => rfl
  | 20, _, _ => rfl
  | 21, _, _ => rfl
  | 22, _, _ => rfl
  | 23, _, _ => rfl
  | i + 24, hi, _ => omega
set_option maxRecDepth 100000 in
theorem xf_D1 {x : Nat} : ∀ i, i < 24 → i ≠ 16 → xC E a (cD c 1 x) i = xC E a c i := by
  intro i hi hne
  match i, hi, hne with
  | 0, _, _ => rfl
  | 1, _, _ => rfl
  | 2, _, _ => rfl
  | 3, _, _ => rfl
  | 4, _, _ => rfl
  | 5, _, _ => rfl
  | 6, _, _ => rfl
  | 7, _, _ => rfl
  | 8, _, _ => rfl
  | 9, _, _ => rfl
  | 10, _, _ => rfl
  | 11, _, _ => rfl
  | 12, _, _ => rfl
  | 13, _, _ => rfl
  | 14, _, _ => rfl
  | 15, _, _ => rfl
  | 16, _, h => exact absurd rfl h
  | 17, _, _ => rfl
  | 18, _, _ => rfl
  | 19, _, _ => rfl
  | 20, _, _ => rfl
  | 21, _, _ => rfl
  | 22, _, _ => rfl
  | 23, _, _ => rfl
  | i + 24, hi, _ => omega
set_option maxRecDepth 100000 in
theorem xf_D2 {x : Nat} : ∀ i, i < 24 → i ≠ 17 → xC E a (cD c 2 x) i = xC E a c i := by
  intro i hi hne
  match i, hi, hne with
  | 0, _, _ => rfl
  | 1, _, _ => rfl
  | 2, _, _ => rfl
  | 3, _, _ => rfl
  | 4, _, _ => rfl
  | 5, _, _ => rfl
  | 6, _, _ => rfl
  | 7, _, _ => rfl
  | 8, _, _ => rfl
  | 9, _, _ => rfl
  | 10, _, _ => rfl
  | 11, _, _ => rfl
  | 12, _, _ => rfl
  | 13, _, _ => rfl
  | 14, _, _ => rfl
  | 15, _, _ => rfl
  | 16, _, _ => rfl
  | 17, _, h => exact absurd rfl h
  | 18, _, _ => rfl
  | 19, _, _ => rfl
  | 20, _, _ => rfl
  | 21, _, _ => rfl
  | 22, _, _ => rfl
  | 23, _, _ => rfl
  | i + 24, hi, _ => omega
set_option maxRecDepth 100000 in
theorem xf_D3 {x : Nat} : ∀ i, i < 24 → i ≠ 23 → xC E a (cD c 3 x) i = xC E a c i := by
  intro i hi hne
  match i, hi, hne with
  | 0, _, _ => rfl
  | 1, _, _ => rfl
  | 2, _, _ => rfl
  | 3, _, _ => rfl
  | 4, _, _ => rfl
  | 5, _, _ => rfl
  | 6, _, _ => rfl
  | 7, _, _ => rfl
  | 8, _, _ => rfl
  | 9, _, _ => rfl
  | 10, _, _ => rfl
  | 11, _, _ => rfl
  | 12, _, _ => rfl
  | 13, _, _ => rfl
  | 14, _, _ => rfl
  | 15, _, _ => rfl
  | 16, _, _ => rfl
  | 17, _, _ => rfl
  | 18, _, _ => rfl
  | 19, _, _ => rfl
  | 20, _, _ => rfl
  | 21, _, _ => rfl
  | 22, _, _ => rfl
  | 23, _, h => exact absurd rfl h
  | i + 24, hi, _ => omega
theorem x_get {ci k N index j : Nat} {C : String} {T : u_T} {ty : Nat → FieldType} {fs : List Value} {v : Value} (hcl : gCls gCl ci C T N ty) (hf : gFld Y.1.cls index T j) (hj : j < N) (hk : k < 24) (hC : xC E a c k = .inr (ci, fs)) (hv : fs[j]? = some v) (hdg : decode Y.2.1 pc = .ok (.getfield index, 3)) (kk : GT E Y d G0 (pc + 3) lv (v :: rest) (xW E G a c) Q) : GT E Y d G0 pc lv (.ref (a + k) :: rest) (xW E G a c) Q :=
  g_getf hcl hf hj ((xw_k hk).trans (congrArg some hC)) hv hdg kk
theorem x_put {ci k N index j : Nat} {C : String} {T : u_T} {ty : Nat → FieldType} {fs fs' : List Value} {v : Value} (hcl : gCls gCl ci C T N ty) (hf : gFld Y.1.cls index T j) (hj : j < N) (hk : k < 24) (hC : xC E a c k = .inr (ci, fs)) (hfin : (T j).2.2.2 = false) (hn : narrow (ty j) v = v) (hfit : fits (ty j) v = true) (hlen : j < fs.length) (hs : fs.set j v = fs') (hC' : xC E a c' k = .inr (ci, fs')) (hfr : ∀ i, i < 24 → i ≠ k → xC E a c' i = xC E a c i) (hdg : decode Y.2.1 pc = .ok (.putfield index, 3)) (kk : GT E Y d G0 (pc + 3) lv rest (xW E G a c') Q) : GT E Y d G0 pc lv (v :: .ref (a + k) :: rest) (xW E G a c) Q :=
  g_putf hcl hf hj ((xw_k hk).trans (congrArg some hC)) hfin hn hfit hlen hs hdg (by rw [← hC', xw_up hk hfr]; exact kk)
theorem x_ald {i x : Int32} {k N q : Nat} {f : Nat → Int32} (hk : k < 24) (hC : xC E a c k = gAI E N f) (hi : i.toInt = (q : Int)) (hq : q < N) (hx : f q = x) (hdg : decode Y.2.1 pc = .ok (.iaload, 1)) (kk : GT E Y d G0 (pc + 1) lv (.int x :: rest) (xW E G a c) Q) : GT E Y d G0 pc lv (.int i :: .ref (a + k) :: rest) (xW E G a c) Q := by
  subst hx
  exact g_iald ((xw_k hk).trans (congrArg some hC)) hi hq hdg kk
theorem x_ast {i x : Int32} {k N q : Nat} {f : Nat → Int32} (hk : k < 24) (hC : xC E a c k = gAI E N f) (hi : i.toInt = (q : Int)) (hq : q < N) (hC' : xC E a c' k = gAI E N (upd f q x)) (hfr : ∀ i, i < 24 → i ≠ k → xC E a c' i = xC E a c i) (hdg : decode Y.2.1 pc = .ok (.iastore, 1)) (kk : GT E Y d G0 (pc + 1) lv rest (xW E G a c') Q) : GT E Y d G0 pc lv (.int x :: .int i :: .ref (a + k) :: rest) (xW E G a c) Q :=
  g_iast ((xw_k hk).trans (congrArg some hC)) hi hq hdg (by rw [← hC', xw_up hk hfr]; exact kk)
theorem x_len {k N : Nat} {f : Nat → Int32} (hk : k < 24) (hC : xC E a c k = gAI E N f) : (xW E G a c).1 (a + k) = some (gAI E N f) := (xw_k hk).trans (congrArg some hC)
theorem x_at {k : Nat} {y : va_E} (hk : k < 24) (hC : xC E a c k = y) : (xW E G a c).1 (a + k) = some y := (xw_k hk).trans (congrArg some hC)
theorem x_up {k : Nat} {y : va_E} (hk : k < 24) (hC' : xC E a c' k = y) (hfr : ∀ i, i < 24 → i ≠ k → xC E a c' i = xC E a c i) : gUp (xW E G a c) (a + k) y = xW E G a c' := by
  rw [← hC', xw_up hk hfr]
end XR
