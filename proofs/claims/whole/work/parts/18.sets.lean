/-! sets of doors as bits -/
theorem zbit_tb (n k : Nat) : zbit (n : Int) (k : Int) = 1 ↔ n.testBit k = true := by
  unfold zbit
  rw [Nat.testBit_eq_decide_div_mod_eq, decide_eq_true_eq, Int.toNat_natCast]
  have : ((n : Int) / 2 ^ k % 2) = ((n / 2 ^ k % 2 : Nat) : Int) := by simp
  rw [this]; omega
theorem set_nat {a : Int} (h : 0 ≤ a) : ∃ n : Nat, a = n := ⟨a.toNat, by omega⟩
theorem z_or_rng {a b : Int} {n : Nat} (hn : n ≤ 31) (ha : 0 ≤ a ∧ a < 2 ^ n) (hb : 0 ≤ b ∧ b < 2 ^ n) : 0 ≤ z_or a b ∧ z_or a b < 2 ^ n := by
  obtain ⟨x, rfl⟩ := set_nat ha.1
  obtain ⟨y, rfl⟩ := set_nat hb.1
  have hx : x < 2 ^ n := by exact_mod_cast ha.2
  have hy : y < 2 ^ n := by exact_mod_cast hb.2
  have h31 : 2 ^ n ≤ 2 ^ 31 := Nat.pow_le_pow_right (by decide) hn
  rw [z_or_n (by omega) (by omega)]
  have := Nat.or_lt_two_pow hx hy
  constructor
  · omega
  · exact_mod_cast this
theorem zbit_or {a b k : Int} (ha : 0 ≤ a ∧ a < 2147483648) (hb : 0 ≤ b ∧ b < 2147483648) (hk : 0 ≤ k) : zbit (z_or a b) k = 1 ↔ zbit a k = 1 ∨ zbit b k = 1 := by
  obtain ⟨x, rfl⟩ := set_nat ha.1
  obtain ⟨y, rfl⟩ := set_nat hb.1
  obtain ⟨j, rfl⟩ := set_nat hk
  rw [z_or_n (by omega) (by omega), zbit_tb, zbit_tb, zbit_tb, Nat.testBit_or]
  simp
theorem z_and_rng {a b : Int} {n : Nat} (hn : n ≤ 31) (ha : 0 ≤ a ∧ a < 2 ^ n) (hb : 0 ≤ b ∧ b < 2 ^ n) : 0 ≤ z_and a b ∧ z_and a b < 2 ^ n := by
  obtain ⟨x, rfl⟩ := set_nat ha.1
  obtain ⟨y, rfl⟩ := set_nat hb.1
  have hx : x < 2 ^ n := by exact_mod_cast ha.2
  have h31 : 2 ^ n ≤ 2 ^ 31 := Nat.pow_le_pow_right (by decide) hn
  rw [z_and_n (by omega)]
  have : x &&& y < 2 ^ n := Nat.lt_of_le_of_lt Nat.and_le_left hx
  constructor
  · omega
  · exact_mod_cast this
theorem zbit_and {a b k : Int} (ha : 0 ≤ a ∧ a < 2147483648) (hb : 0 ≤ b ∧ b < 2147483648) (hk : 0 ≤ k) : zbit (z_and a b) k = 1 ↔ zbit a k = 1 ∧ zbit b k = 1 := by
  obtain ⟨x, rfl⟩ := set_nat ha.1
  obtain ⟨y, rfl⟩ := set_nat hb.1
  obtain ⟨j, rfl⟩ := set_nat hk
  rw [z_and_n (by omega), zbit_tb, zbit_tb, zbit_tb, Nat.testBit_and]
  simp
theorem z_shl_p {d : Int} (hd : 0 ≤ d ∧ d < 31) : z_shl 1 d = 2 ^ d.toNat := by
  obtain ⟨x, rfl⟩ := set_nat hd.1
  rw [z_shl_1 x (by omega), Int.toNat_natCast]
theorem zbit_pow {d k : Int} (hd : 0 ≤ d ∧ d < 31) (hk : 0 ≤ k) : zbit (z_shl 1 d) k = 1 ↔ k = d := by
  rw [z_shl_p hd]
  obtain ⟨x, rfl⟩ := set_nat hd.1
  obtain ⟨j, rfl⟩ := set_nat hk
  rw [Int.toNat_natCast, show (2 : Int) ^ x = ((2 ^ x : Nat) : Int) by simp, zbit_tb, Nat.testBit_two_pow]
  simp; omega
theorem pow_rng {d : Int} {n : Nat} (hd : 0 ≤ d ∧ d < n) (hn : n ≤ 31) : 0 ≤ z_shl 1 d ∧ z_shl 1 d < 2 ^ n := by
  rw [z_shl_p (by omega)]
  obtain ⟨x, rfl⟩ := set_nat hd.1
  rw [Int.toNat_natCast]
  have : 2 ^ x < 2 ^ n := Nat.pow_lt_pow_right (by decide) (by omega)
  constructor
  · exact Int.le_of_lt (Int.pow_pos (by decide))
  · exact_mod_cast this
theorem zbit_0 (k : Int) : zbit 0 k = 0 := by simp [zbit]
/-- a set is what is in it -/
theorem zbit_ext {a b : Int} {n : Nat} (ha : 0 ≤ a ∧ a < 2 ^ n) (hb : 0 ≤ b ∧ b < 2 ^ n) (h : ∀ k : Int, 0 ≤ k → k < n → (zbit a k = 1 ↔ zbit b k = 1)) : a = b := by
  obtain ⟨x, rfl⟩ := set_nat ha.1
  obtain ⟨y, rfl⟩ := set_nat hb.1
  have hx : x < 2 ^ n := by exact_mod_cast ha.2
  have hy : y < 2 ^ n := by exact_mod_cast hb.2
  have : x = y := by
    apply Nat.eq_of_testBit_eq
    intro i
    by_cases hi : i < n
    · have := h (i : Int) (by omega) (by omega)
      rw [zbit_tb, zbit_tb] at this
      cases hc : x.testBit i <;> cases hd : y.testBit i <;> simp_all
    · have e : 2 ^ n ≤ 2 ^ i := Nat.pow_le_pow_right (by decide) (by omega)
      rw [Nat.testBit_lt_two_pow (by omega), Nat.testBit_lt_two_pow (by omega)]
  rw [this]
theorem zbit_hi {a k : Int} {n : Nat} (ha : 0 ≤ a ∧ a < 2 ^ n) (hk : (n : Int) ≤ k) : zbit a k = 0 := by
  obtain ⟨x, rfl⟩ := set_nat ha.1
  obtain ⟨j, rfl⟩ := set_nat (show 0 ≤ k by omega)
  have hx : x < 2 ^ n := by exact_mod_cast ha.2
  have e : 2 ^ n ≤ 2 ^ j := Nat.pow_le_pow_right (by decide) (by omega)
  have h : x.testBit j = false := Nat.testBit_lt_two_pow (by omega)
  rcases zbit_01 (x : Int) (j : Int) with q | q
  · exact q
  · rw [zbit_tb, h] at q; cases q
