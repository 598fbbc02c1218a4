/-! Numbers -/
def tn (x : Int32) : Nat := x.toInt.toNat
theorem tn_hi {x : Int32} (h : ¬ x < 0) : x.toInt = (tn x : Int) := by
  rw [Int32.lt_iff_toInt_lt, Int32.toInt_zero] at h
  unfold tn
  omega
theorem tn_lt {x c : Int32} {n : Nat} (h0 : ¬ x < 0) (h : ¬ c ≤ x) (hc : c.toInt = (n : Int)) : tn x < n := by
  rw [Int32.le_iff_toInt_le, hc] at h
  have := tn_hi h0
  omega
theorem i_nI {x : Int32} {n : Nat} (h : x.toInt = (n : Int)) : x = nI n := by
  have hr := Int32.toInt_lt x
  have hn : n < 2 ^ 31 := by omega
  apply Int32.toInt_inj.mp
  rw [h, nI_toInt hn]
theorem tn_nI {x : Int32} (h : ¬ x < 0) : x = nI (tn x) := i_nI (tn_hi h)
theorem nI_hi {n : Nat} (h : n < 2 ^ 31) : (nI n).toInt = (n : Int) := nI_toInt h
theorem tn_of {n : Nat} (h : n < 2 ^ 31) : tn (nI n) = n := by
  unfold tn
  rw [nI_toInt h]
  rfl
theorem b32_t {p : Prop} [Decidable p] (h : ¬ b32 p = 0) : p := by
  unfold b32 at h
  by_cases hp : p
  · exact hp
  · rw [if_neg hp] at h
    exact absurd rfl h
theorem b32_f {p : Prop} [Decidable p] (h : b32 p = 0) : ¬ p := by
  intro hp
  unfold b32 at h
  rw [if_pos hp] at h
  exact absurd h (by decide)
theorem b32_1 {p : Prop} [Decidable p] (h : p) : b32 p = 1 := if_pos h
theorem b32_0 {p : Prop} [Decidable p] (h : ¬ p) : b32 p = 0 := if_neg h
theorem b32_n {p : Prop} [Decidable p] : narrow .boolean (.int (b32 p)) = .int (b32 p) := by
  by_cases h : p
  · rw [b32_1 h]; rfl
  · rw [b32_0 h]; rfl
theorem b32_q {p q : Prop} [Decidable p] [Decidable q] (h : p ↔ q) : b32 p = b32 q := by
  by_cases hp : p
  · rw [b32_1 hp, b32_1 (h.mp hp)]
  · rw [b32_0 hp, b32_0 (fun hq => hp (h.mpr hq))]
/-- the place of a constructor -/
theorem ix8 {x c : Int32} (hx0 : ¬ x < 0) (hx : tn x < 16) (hc0 : ¬ c < 0) (hc : tn c < 8) : (x * 8 + c).toInt = ((8 * tn x + tn c : Nat) : Int) := by
  have e : x * 8 + c = nI (8 * tn x + tn c) := by
    have e1 : x * 8 = nI (tn x * 8) := by
      rw [← pk_mul, ← tn_nI hx0]
      rfl
    rw [e1, tn_nI hc0, nI_add, tn_of (by omega), Nat.mul_comm]
  rw [e, nI_toInt (by omega)]
