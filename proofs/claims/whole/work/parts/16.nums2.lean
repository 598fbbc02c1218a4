/-! Numbers, by their integers -/
theorem sub_hi {a b : Int32} {m n : Nat} (ha : a.toInt = (m : Int)) (hb : b.toInt = (n : Int)) (h : n ≤ m) : (a - b).toInt = ((m - n : Nat) : Int) := by
  have h1 := Int32.toInt_lt a
  rw [i_nI ha, i_nI hb, pk_sub h, nI_toInt (by omega)]
theorem add_hi {a b : Int32} {m n : Nat} (ha : a.toInt = (m : Int)) (hb : b.toInt = (n : Int)) (h : m + n < 2 ^ 31) : (a + b).toInt = ((m + n : Nat) : Int) := by
  rw [i_nI ha, i_nI hb, nI_add, nI_toInt h]
theorem mul_hi {a b : Int32} {m n : Nat} (ha : a.toInt = (m : Int)) (hb : b.toInt = (n : Int)) (h : m * n < 2 ^ 31) : (a * b).toInt = ((m * n : Nat) : Int) := by
  rw [i_nI ha, i_nI hb, pk_mul, nI_toInt h]
theorem lt_hi {a b : Int32} {m n : Nat} (ha : a.toInt = (m : Int)) (hb : b.toInt = (n : Int)) : a < b ↔ m < n := by
  rw [Int32.lt_iff_toInt_lt, ha, hb]
  omega
theorem le_hi {a b : Int32} {m n : Nat} (ha : a.toInt = (m : Int)) (hb : b.toInt = (n : Int)) : a ≤ b ↔ m ≤ n := by
  rw [Int32.le_iff_toInt_le, ha, hb]
  omega
theorem eq_hi {a b : Int32} {m n : Nat} (ha : a.toInt = (m : Int)) (hb : b.toInt = (n : Int)) : a = b ↔ m = n := by
  constructor
  · intro h
    rw [h, hb] at ha
    omega
  · intro h
    rw [i_nI ha, i_nI hb, h]
theorem tn_bd {x : Int32} {n : Nat} (h0 : ¬ x < 0) (h : ¬ nI n ≤ x) (hn : n < 2 ^ 31) : tn x < n := tn_lt h0 h (nI_hi hn)
