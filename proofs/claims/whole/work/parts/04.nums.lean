/-! numbers of the machine as numbers -/
abbrev i32 (z : Int) : Prop := -2147483648 ≤ z ∧ z ≤ 2147483647
abbrev i64 (z : Int) : Prop := -9223372036854775808 ≤ z ∧ z ≤ 9223372036854775807
theorem o32 {z : Int} (h : i32 z) : (Int32.ofInt z).toInt = z := by
  rw [Int32.toInt_ofInt, Int.bmod_def]
  simp only [Int32.size]
  have := h.1; have := h.2
  split <;> omega
theorem o64 {z : Int} (h : i64 z) : (Int64.ofInt z).toInt = z := by
  rw [Int64.toInt_ofInt, Int.bmod_def]
  simp only [Int64.size]
  have := h.1; have := h.2
  split <;> omega
theorem r32 (x : Int32) : Int32.ofInt x.toInt = x := Int32.ofInt_toInt x
theorem r64 (x : Int64) : Int64.ofInt x.toInt = x := Int64.ofInt_toInt x
theorem t32 (x : Int32) : i32 x.toInt := by
  have h1 := Int32.le_toInt x; have h2 := Int32.toInt_lt x
  constructor <;> omega
theorem t64 (x : Int64) : i64 x.toInt := by
  have h1 := Int64.le_toInt x; have h2 := Int64.toInt_lt x
  constructor <;> omega
theorem o32_inj {a b : Int} (ha : i32 a) (hb : i32 b) : Int32.ofInt a = Int32.ofInt b ↔ a = b :=
  ⟨fun h => by rw [← o32 ha, ← o32 hb, h], fun h => by rw [h]⟩
theorem o32_lt {a b : Int} (ha : i32 a) (hb : i32 b) : Int32.ofInt a < Int32.ofInt b ↔ a < b := by
  rw [Int32.lt_iff_toInt_lt, o32 ha, o32 hb]
theorem o32_le {a b : Int} (ha : i32 a) (hb : i32 b) : Int32.ofInt a ≤ Int32.ofInt b ↔ a ≤ b := by
  rw [Int32.le_iff_toInt_le, o32 ha, o32 hb]
theorem o64_inj {a b : Int} (ha : i64 a) (hb : i64 b) : Int64.ofInt a = Int64.ofInt b ↔ a = b :=
  ⟨fun h => by rw [← o64 ha, ← o64 hb, h], fun h => by rw [h]⟩
theorem o64_lt {a b : Int} (ha : i64 a) (hb : i64 b) : Int64.ofInt a < Int64.ofInt b ↔ a < b := by
  rw [Int64.lt_iff_toInt_lt, o64 ha, o64 hb]
theorem o32_clamp {i : Int} (h0 : 0 ≤ i) (h1 : i ≤ 2147483647) : (Int32.ofInt i).toNatClampNeg = i.toNat := by
  show (Int32.ofInt i).toInt.toNat = i.toNat
  rw [o32 ⟨by omega, h1⟩]
theorem o32_in {i : Int} {n : Nat} (h0 : 0 ≤ i) (h1 : i < n) (hn : n ≤ 2147483647) : vp_in (Int32.ofInt i) n := by
  rw [vp_in_iff, o32 ⟨by omega, by omega⟩]
  exact ⟨h0, h1⟩
theorem o32_64 {a : Int} (h : i32 a) : (Int32.ofInt a).toInt64 = Int64.ofInt a := by
  rw [← Int64.toInt_inj, Int32.toInt_toInt64, o32 h, o64 ⟨by have := h.1; omega, by have := h.2; omega⟩]
theorem o64_32 (a : Int) : (Int64.ofInt a).toInt32 = Int32.ofInt a := by
  rw [← Int32.toInt_inj, Int64.toInt_toInt32, Int64.toInt_ofInt, Int32.toInt_ofInt]
  simp only [Int64.size, Int32.size]
  rw [Int.bmod_bmod_of_dvd]
  decide
theorem o32_b (a : Int) : (Int32.ofInt a).toInt8.toInt32 = Int32.ofInt (a.bmod 256) := by
  rw [← Int32.toInt_inj, Int8.toInt_toInt32, Int32.toInt_toInt8, Int32.toInt_ofInt, Int32.toInt_ofInt]
  simp only [Int32.size]
  rw [Int.bmod_bmod_of_dvd (by decide), Int.bmod_def, Int.bmod_def]
  split <;> split <;> omega
theorem o32_div {a b : Int} (ha : i32 a) (hb : i32 b) : Int32.ofInt a / Int32.ofInt b = Int32.ofInt (a.tdiv b) := by
  rw [← Int32.toInt_inj, Int32.toInt_div, o32 ha, o32 hb, Int32.toInt_ofInt]
theorem o64_div {a b : Int} (ha : i64 a) (hb : i64 b) : Int64.ofInt a / Int64.ofInt b = Int64.ofInt (a.tdiv b) := by
  rw [← Int64.toInt_inj, Int64.toInt_div, o64 ha, o64 hb, Int64.toInt_ofInt]
theorem o32_rem {a b : Int} (ha : i32 a) (hb : i32 b) : Int32.ofInt a - Int32.ofInt a / Int32.ofInt b * Int32.ofInt b = Int32.ofInt (a.tmod b) := by
  rw [o32_div ha hb, ← Int32.ofInt_mul, ← Int32.ofInt_sub]
  congr 1
  have := Int.tmod_add_mul_tdiv a b
  rw [Int.mul_comm] at this; omega
theorem o64_rem {a b : Int} (ha : i64 a) (hb : i64 b) : Int64.ofInt a - Int64.ofInt a / Int64.ofInt b * Int64.ofInt b = Int64.ofInt (a.tmod b) := by
  rw [o64_div ha hb, ← Int64.ofInt_mul, ← Int64.ofInt_sub]
  congr 1
  have := Int.tmod_add_mul_tdiv a b
  rw [Int.mul_comm] at this; omega
/-- bits, as numbers of the machine -/
def z_and (a b : Int) : Int := (Int32.ofInt a &&& Int32.ofInt b).toInt
def z_or (a b : Int) : Int := (Int32.ofInt a ||| Int32.ofInt b).toInt
def z_xor (a b : Int) : Int := (Int32.ofInt a ^^^ Int32.ofInt b).toInt
def z_shl (a b : Int) : Int := (Int32.ofInt a <<< (Int32.ofInt b &&& 31)).toInt
def z_shr (a b : Int) : Int := (Int32.ofInt a >>> (Int32.ofInt b &&& 31)).toInt
def z_ush (a b : Int) : Int := ((Int32.ofInt a).toUInt32 >>> ((Int32.ofInt b).toUInt32 &&& Int32.toUInt32 31)).toInt32.toInt
def zl_and (a b : Int) : Int := (Int64.ofInt a &&& Int64.ofInt b).toInt
def zl_or (a b : Int) : Int := (Int64.ofInt a ||| Int64.ofInt b).toInt
def zl_xor (a b : Int) : Int := (Int64.ofInt a ^^^ Int64.ofInt b).toInt
def zl_shl (a b : Int) : Int := (Int64.ofInt a <<< ((Int32.ofInt b).toInt64 &&& 63)).toInt
def zl_shr (a b : Int) : Int := (Int64.ofInt a >>> ((Int32.ofInt b).toInt64 &&& 63)).toInt
def zl_ush (a b : Int) : Int := ((Int64.ofInt a).toUInt64 >>> ((Int32.ofInt b).toInt64.toUInt64 &&& Int64.toUInt64 63)).toInt64.toInt
/-- a comparison of two numbers -/
def z_cmp (a b : Int) : Int := if a < b then -1 else if a = b then 0 else 1
theorem lg_cmp_z {a b : Int} (ha : i64 a) (hb : i64 b) : lg_cmp (Int64.ofInt a) (Int64.ofInt b) = Int32.ofInt (z_cmp a b) := by
  unfold lg_cmp z_cmp
  simp only [o64_lt ha hb, o64_lt hb ha, o64_inj ha hb]
  split <;> split <;> first | rfl | (exfalso; omega) | (split <;> first | rfl | (exfalso; omega))
