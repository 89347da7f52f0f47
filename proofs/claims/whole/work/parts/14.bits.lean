/-! bits: rows of the kit's BITS family (pasted), then mine -/
def bt (x : Int32) (i : Nat) : Bool := x.toBitVec.getLsbD i
theorem b_ext {x y : Int32} (h : ∀ i, i < 32 → bt x i = bt y i) : x = y := Int32.toBitVec_inj.mp (BitVec.eq_of_getLsbD_eq (fun i hi => h i hi))
theorem b_or (x y : Int32) (i : Nat) : bt (x ||| y) i = (bt x i || bt y i) := by unfold bt; rw [Int32.toBitVec_or, BitVec.getLsbD_or]
theorem b_and (x y : Int32) (i : Nat) : bt (x &&& y) i = (bt x i && bt y i) := by unfold bt; rw [Int32.toBitVec_and, BitVec.getLsbD_and]
theorem b_xor (x y : Int32) (i : Nat) : bt (x ^^^ y) i = (bt x i ^^ bt y i) := by unfold bt; rw [Int32.toBitVec_xor, BitVec.getLsbD_xor]
theorem b_big {x : Int32} {i : Nat} (h : 32 ≤ i) : bt x i = false := BitVec.getLsbD_of_ge _ _ h
theorem b_0 (i : Nat) : bt 0 i = false := BitVec.getLsbD_zero
theorem s_l : ∀ n, n < 32 → ((nI n &&& 31).toBitVec.smod 32).toNat = n := by decide +kernel
theorem s_u : ∀ n, n < 32 → (((nI n).toUInt32 &&& Int32.toUInt32 31).toBitVec % 32).toNat = n := by decide +kernel
theorem b_shl (n : Nat) (hn : n < 32) (x : Int32) {i : Nat} (hi : i < 32) : bt (x <<< (nI n &&& 31)) i = (decide (n ≤ i) && bt x (i - n)) := by
  unfold bt
  rw [Int32.toBitVec_shiftLeft]
  show (x.toBitVec <<< ((nI n &&& 31).toBitVec.smod 32).toNat).getLsbD i = _
  rw [s_l n hn, BitVec.getLsbD_shiftLeft]
  rcases Nat.lt_or_ge i n with h | h
  · simp [h, Nat.not_le.mpr h]
  · simp [hi, h, Nat.not_lt.mpr h]
theorem b_ushr (n : Nat) (hn : n < 32) (x : Int32) (i : Nat) : bt ((x.toUInt32 >>> ((nI n).toUInt32 &&& Int32.toUInt32 31)).toInt32) i = bt x (n + i) := by
  show (x.toUInt32 >>> ((nI n).toUInt32 &&& Int32.toUInt32 31)).toBitVec.getLsbD i = x.toUInt32.toBitVec.getLsbD (n + i)
  rw [UInt32.toBitVec_shiftRight]
  show (x.toUInt32.toBitVec >>> (((nI n).toUInt32 &&& Int32.toUInt32 31).toBitVec % 32).toNat).getLsbD i = _
  rw [s_u n hn, BitVec.getLsbD_ushiftRight]
theorem b_sshr (n : Nat) (hn : n < 32) (x : Int32) {i : Nat} (hi : i < 32) : bt (x >>> (nI n &&& 31)) i = if n + i < 32 then bt x (n + i) else bt x 31 := by
  unfold bt
  rw [Int32.toBitVec_shiftRight]
  show (x.toBitVec.sshiftRight ((nI n &&& 31).toBitVec.smod 32).toNat).getLsbD i = _
  rw [s_l n hn, BitVec.getLsbD_sshiftRight, BitVec.msb_eq_getLsbD_last]
  simp [hi]
theorem nx_and (a b : Nat) : nI a &&& nI b = nI (a &&& b) := by
  apply Int32.toBitVec_inj.1
  show BitVec.ofNat 32 a &&& BitVec.ofNat 32 b = BitVec.ofNat 32 (a &&& b)
  apply BitVec.eq_of_getLsbD_eq
  intro i hi
  simp [hi]
theorem nx_xor (a b : Nat) : nI a ^^^ nI b = nI (a ^^^ b) := by
  apply Int32.toBitVec_inj.1
  show BitVec.ofNat 32 a ^^^ BitVec.ofNat 32 b = BitVec.ofNat 32 (a ^^^ b)
  apply BitVec.eq_of_getLsbD_eq
  intro i hi
  simp [hi]
theorem wb_tb (n : Nat) : (lN n).toBitVec = BitVec.ofNat 64 n := rfl
theorem wb_inj {a b : Int64} (h : a.toBitVec = b.toBitVec) : a = b := Int64.toBitVec_inj.mp h
theorem wb_tn {n : Nat} (h : n < 2 ^ 64) : (lN n).toBitVec.toNat = n := by rw [wb_tb, BitVec.toNat_ofNat, Nat.mod_eq_of_lt h]
theorem wb_of (x : Int64) : ∃ n, n < 2 ^ 64 ∧ x = lN n := ⟨x.toBitVec.toNat, x.toBitVec.isLt, wb_inj (by rw [wb_tb]; simp)⟩
theorem wb_of32 (x : Int32) : ∃ n, n < 2 ^ 32 ∧ x = nI n := ⟨x.toBitVec.toNat, x.toBitVec.isLt, Int32.toBitVec_inj.mp (by show _ = BitVec.ofNat 32 _; simp)⟩
theorem wb_c : ∀ k, k < 64 → ((nI k).toInt64 &&& 63) = lN k := by decide +kernel
theorem wb_cu : ∀ k, k < 64 → ((nI k).toInt64.toUInt64 &&& Int64.toUInt64 63) = UInt64.ofNat k := by decide +kernel
theorem wb_sm : ∀ k, k < 64 → (BitVec.ofNat 64 k).smod 64 = BitVec.ofNat 64 k := by decide +kernel
theorem wb_pw {a b : Nat} (h : a ≤ b) : 2 ^ b = 2 ^ a * 2 ^ (b - a) := by rw [← Nat.pow_add]; congr 1; omega
theorem wb_lt2 {a b : Nat} (h : a < b) : 2 ^ a < 2 ^ b := Nat.pow_lt_pow_right (by decide) h
theorem wb_mod (n : Nat) : lN n = lN (n % 2 ^ 64) := wb_inj (by rw [wb_tb, wb_tb]; apply BitVec.eq_of_toNat_eq; rw [BitVec.toNat_ofNat, BitVec.toNat_ofNat, Nat.mod_mod])
theorem wb_shr {n k : Nat} (hn : n < 2 ^ 64) (hk : k < 64) : ((lN n).toUInt64 >>> ((nI k).toInt64.toUInt64 &&& Int64.toUInt64 63)).toInt64 = lN (n / 2 ^ k) := by
  rw [wb_cu k hk]
  apply wb_inj
  apply BitVec.eq_of_toNat_eq
  show ((lN n).toUInt64 >>> UInt64.ofNat k).toNat = (BitVec.ofNat 64 _).toNat
  have h1 : (UInt64.ofNat k).toNat = k := by
    show (BitVec.ofNat 64 k).toNat = k
    rw [BitVec.toNat_ofNat, Nat.mod_eq_of_lt (by omega)]
  have h2 : (lN n).toUInt64.toNat = n := wb_tn hn
  rw [UInt64.toNat_shiftRight, h1, h2, Nat.mod_eq_of_lt hk, Nat.shiftRight_eq_div_pow, BitVec.toNat_ofNat, Nat.mod_eq_of_lt (Nat.lt_of_le_of_lt (Nat.div_le_self _ _) hn)]
theorem wb_shl (n : Nat) {k : Nat} (hk : k < 64) : lN n <<< ((nI k).toInt64 &&& 63) = lN (n * 2 ^ k) := by
  rw [wb_c k hk]
  apply wb_inj
  rw [Int64.toBitVec_shiftLeft, wb_tb, wb_tb, wb_tb, wb_sm k hk]
  apply BitVec.eq_of_toNat_eq
  rw [BitVec.shiftLeft_eq', BitVec.toNat_shiftLeft, BitVec.toNat_ofNat, BitVec.toNat_ofNat, BitVec.toNat_ofNat, Nat.mod_eq_of_lt (show k < 2 ^ 64 by omega), Nat.shiftLeft_eq, Nat.mul_mod, Nat.mod_mod, ← Nat.mul_mod]
theorem wb_and {a b : Nat} (ha : a < 2 ^ 64) (hb : b < 2 ^ 64) : lN a &&& lN b = lN (a &&& b) := by
  apply wb_inj
  rw [Int64.toBitVec_and, wb_tb, wb_tb, wb_tb]
  apply BitVec.eq_of_toNat_eq
  rw [BitVec.toNat_and, BitVec.toNat_ofNat, BitVec.toNat_ofNat, BitVec.toNat_ofNat, Nat.mod_eq_of_lt ha, Nat.mod_eq_of_lt hb, Nat.mod_eq_of_lt (Nat.and_lt_two_pow _ hb)]
theorem wb_or {a b : Nat} (ha : a < 2 ^ 64) (hb : b < 2 ^ 64) : lN a ||| lN b = lN (a ||| b) := by
  apply wb_inj
  rw [Int64.toBitVec_or, wb_tb, wb_tb, wb_tb]
  apply BitVec.eq_of_toNat_eq
  rw [BitVec.toNat_or, BitVec.toNat_ofNat, BitVec.toNat_ofNat, BitVec.toNat_ofNat, Nat.mod_eq_of_lt ha, Nat.mod_eq_of_lt hb, Nat.mod_eq_of_lt (Nat.or_lt_two_pow ha hb)]
theorem wb_mask {n k : Nat} (hn : n < 2 ^ 64) (hk : k < 64) : lN n &&& lN (2 ^ k - 1) = lN (n % 2 ^ k) := by
  rw [wb_and hn (by have := wb_lt2 hk; omega), Nat.and_two_pow_sub_one_eq_mod]
theorem wb_a1 {n : Nat} (hn : n < 2 ^ 64) : lN n &&& 1 = lN (n % 2) := wb_mask (k := 1) hn (by decide)
theorem u_tn {n : Nat} (h : n < 2 ^ 64) : (UInt64.ofNat n).toNat = n := Nat.mod_eq_of_lt h
theorem g_and {a b c : Nat} (ha : a < 2 ^ 64) (hb : b < 2 ^ 64) (hc : a &&& b = c) : lN a &&& lN b = lN c := by
  subst hc
  have h : UInt64.ofNat a &&& UInt64.ofNat b = UInt64.ofNat (a &&& b) := UInt64.toNat_inj.mp (by rw [UInt64.toNat_and, u_tn ha, u_tn hb, u_tn (Nat.and_lt_two_pow a hb)])
  have h2 := congrArg UInt64.toInt64 h
  exact h2
theorem g_and1 {a : Nat} (ha : a < 2 ^ 64) : lN a &&& 1 = lN (a % 2) := g_and (b := 1) ha (by decide) (Nat.and_two_pow_sub_one_eq_mod a 1)
theorem g_mask {a s p : Nat} (hp : 2 ^ s = p) (hs : s < 64) (ha : a < 2 ^ 64) : lN a &&& lN (p - 1) = lN (a % p) := by
  subst hp
  have := Nat.pow_lt_pow_right (show 1 < 2 by decide) hs
  exact g_and ha (by omega) (Nat.and_two_pow_sub_one_eq_mod a s)
theorem g_or {k p a b : Nat} (hp : 2 ^ k = p) (ha : a < p) (h : b * p + a < 2 ^ 64) : lN (b * p) ||| lN a = lN (b * p + a) := by
  subst hp
  have h1 : b * 2 ^ k ||| a = b * 2 ^ k + a := by rw [← Nat.shiftLeft_eq, Nat.shiftLeft_add_eq_or_of_lt ha]
  have h3 : UInt64.ofNat (b * 2 ^ k) ||| UInt64.ofNat a = UInt64.ofNat (b * 2 ^ k + a) := UInt64.toNat_inj.mp (by rw [UInt64.toNat_or, u_tn (by omega), u_tn (by omega), u_tn h, h1])
  have h2 := congrArg UInt64.toInt64 h3
  exact h2
theorem zN32 (n : Nat) : Int32.ofInt (n : Int) = nI n := by first | rfl | exact Int32.ofInt_natCast n
theorem zN64 (n : Nat) : Int64.ofInt (n : Int) = lN n := by first | rfl | exact Int64.ofInt_natCast n
theorem nx_or (a b : Nat) : nI a ||| nI b = nI (a ||| b) := by
  apply Int32.toBitVec_inj.mp
  rw [Int32.toBitVec_or]
  show BitVec.ofNat 32 a ||| BitVec.ofNat 32 b = BitVec.ofNat 32 (a ||| b)
  apply BitVec.eq_of_toNat_eq
  rw [BitVec.toNat_or, BitVec.toNat_ofNat, BitVec.toNat_ofNat, BitVec.toNat_ofNat, Nat.or_mod_two_pow]
theorem or_lt {a b n : Nat} (ha : a < 2 ^ n) (hb : b < 2 ^ n) : a ||| b < 2 ^ n := Nat.or_lt_two_pow ha hb
theorem z_and_n {a b : Nat} (ha : a < 2147483648) : z_and a b = ((a &&& b : Nat) : Int) := by
  unfold z_and
  rw [zN32, zN32, nx_and, nI_toInt (Nat.lt_of_le_of_lt Nat.and_le_left ha)]
theorem z_or_n {a b : Nat} (ha : a < 2147483648) (hb : b < 2147483648) : z_or a b = ((a ||| b : Nat) : Int) := by
  unfold z_or
  rw [zN32, zN32, nx_or, nI_toInt (or_lt (n := 31) ha hb)]
theorem z_shl_1 : ∀ k : Nat, k < 31 → z_shl 1 (k : Int) = 2 ^ k := by
  intro k hk
  unfold z_shl
  rw [zN32]
  revert k
  decide +kernel
/-- the bit k of a set -/
def zbit (a k : Int) : Int := a / 2 ^ k.toNat % 2
theorem zbit_01 (a k : Int) : zbit a k = 0 ∨ zbit a k = 1 := by unfold zbit; omega
theorem z_shr_g {a : Int} (ha : i32 a) {k : Nat} (hk : k < 32) : z_shr a (k : Int) = a / 2 ^ k := by
  unfold z_shr
  rw [zN32]
  show ((Int32.ofInt a).toBitVec.sshiftRight' ((nI k &&& 31).toBitVec.smod 32)).toInt = _
  rw [BitVec.sshiftRight', s_l k hk, BitVec.toInt_sshiftRight]
  show (Int32.ofInt a).toInt >>> k = _
  rw [o32 ha, Int.shiftRight_eq_div_pow]
  simp
theorem z_and_1 {a : Int} (ha : i32 a) : z_and a 1 = a % 2 := by
  obtain ⟨n, hn, he⟩ := wb_of32 (Int32.ofInt a)
  have h1 : (Int32.ofInt a).toInt = (nI n).toInt := by rw [he]
  rw [o32 ha] at h1
  have h2 : (nI n).toInt = (n : Int).bmod 4294967296 := by
    rw [← zN32, Int32.toInt_ofInt]
  unfold z_and
  rw [he, show Int32.ofInt 1 = nI 1 from rfl, nx_and, nI_toInt (Nat.lt_of_le_of_lt Nat.and_le_right (by decide)), show n &&& 1 = n % 2 from Nat.and_one_is_mod n]
  rw [h1, h2, Int.bmod_def]
  split <;> omega
theorem z_bit {a k : Int} (ha : i32 a) (h0 : 0 ≤ k) (h1 : k < 32) : z_and (z_shr a k) 1 = zbit a k := by
  obtain ⟨n, rfl⟩ : ∃ n : Nat, k = n := ⟨k.toNat, by omega⟩
  rw [z_shr_g ha (by omega), z_and_1]
  · rfl
  · have hp : (0 : Int) < 2 ^ n := Int.pow_pos (by decide)
    have := Int.ediv_le_self (a := a) (b := 2 ^ n)
    constructor
    · rcases Int.lt_or_le a 0 with h | h
      · have h3 : a ≤ a / 2 ^ n := by
          rw [Int.le_ediv_iff_mul_le hp]
          have : a * 2 ^ n ≤ a * 1 := Int.mul_le_mul_of_nonpos_left (by omega) (by omega)
          omega
        have := ha.1; omega
      · have := Int.ediv_nonneg h (Int.le_of_lt hp); omega
    · rcases Int.lt_or_le a 0 with h | h
      · have : a / 2 ^ n < 0 := Int.ediv_neg_of_neg_of_pos h hp
        omega
      · have := this h; have := ha.2; omega
theorem z_ush_n {a k : Nat} (ha : a < 4294967296) (hk : k < 32) : ((nI a).toUInt32 >>> ((nI k).toUInt32 &&& Int32.toUInt32 31)).toInt32 = nI (a / 2 ^ k) := by
  apply b_ext
  intro i hi
  rw [b_ushr k hk]
  unfold bt
  show (BitVec.ofNat 32 a).getLsbD (k + i) = (BitVec.ofNat 32 (a / 2 ^ k)).getLsbD i
  rw [BitVec.getLsbD_ofNat, BitVec.getLsbD_ofNat, Nat.testBit_div_two_pow, Nat.add_comm i k]
  by_cases h : k + i < 32
  · simp [h, hi]
  · have : a.testBit (k + i) = false := Nat.testBit_lt_two_pow (Nat.lt_of_lt_of_le ha (by
      have : 2 ^ 32 ≤ 2 ^ (k + i) := Nat.pow_le_pow_right (by decide) (by omega)
      simpa using this))
    simp [h, this]
/-- the bit of a set by a logical shift: a set is not below 0 -/
theorem z_ubit {a k : Int} (ha : 0 ≤ a ∧ a ≤ 2147483647) (h0 : 0 ≤ k) (h1 : k < 32) : z_and (z_ush a k) 1 = zbit a k := by
  obtain ⟨n, rfl⟩ : ∃ n : Nat, k = n := ⟨k.toNat, by omega⟩
  obtain ⟨m, rfl⟩ : ∃ m : Nat, a = m := ⟨a.toNat, by omega⟩
  have e : z_ush (m : Int) (n : Int) = ((m / 2 ^ n : Nat) : Int) := by
    unfold z_ush
    rw [zN32, zN32, z_ush_n (by omega) (by omega), nI_toInt (Nat.lt_of_le_of_lt (Nat.div_le_self _ _) (by omega))]
  rw [e, z_and_1 ⟨Int.le_trans (by decide) (Int.natCast_nonneg _), Int.le_trans (Int.ofNat_le.mpr (Nat.div_le_self m (2 ^ n))) ha.2⟩]
  unfold zbit
  simp
theorem z_ush0 {a k : Int} (ha : 0 ≤ a ∧ a ≤ 2147483647) (h0 : 0 ≤ k) (h1 : k < 32) : z_ush a k = a / 2 ^ k.toNat := by
  obtain ⟨n, rfl⟩ : ∃ n : Nat, k = n := ⟨k.toNat, by omega⟩
  obtain ⟨m, rfl⟩ : ∃ m : Nat, a = m := ⟨a.toNat, by omega⟩
  unfold z_ush
  rw [zN32, zN32, z_ush_n (by omega) (by omega), nI_toInt (Nat.lt_of_le_of_lt (Nat.div_le_self _ _) (by omega))]
  simp
theorem z_byte {a : Int} (ha : i32 a) {k : Int} (hk : k = 0 ∨ k = 8 ∨ k = 16 ∨ k = 24) : z_and (z_ush a k) 255 = a / 2 ^ k.toNat % 256 := by
  obtain ⟨n, hn, he⟩ := wb_of32 (Int32.ofInt a)
  have h1 : (Int32.ofInt a).toInt = (nI n).toInt := by rw [he]
  rw [o32 ha] at h1
  have h2 : (nI n).toInt = (n : Int).bmod 4294967296 := by
    rw [← zN32, Int32.toInt_ofInt]
  rw [h2] at h1
  have key : ∀ j : Nat, j < 32 → z_and (z_ush a (j : Int)) 255 = ((n / 2 ^ j % 256 : Nat) : Int) := by
    intro j hj
    unfold z_and z_ush
    rw [r32, he, zN32, z_ush_n hn hj, show Int32.ofInt 255 = nI 255 from rfl, nx_and, nI_toInt (Nat.lt_of_le_of_lt Nat.and_le_right (by decide)), show n / 2 ^ j &&& 255 = n / 2 ^ j % 256 from Nat.and_two_pow_sub_one_eq_mod _ 8]
  rw [Int.bmod_def] at h1
  rcases hk with rfl | rfl | rfl | rfl
  · have := key 0 (by decide)
    rw [show ((0 : Nat) : Int) = 0 from rfl] at this
    rw [this]; simp
    split at h1 <;> omega
  · have := key 8 (by decide)
    rw [show ((8 : Nat) : Int) = 8 from rfl] at this
    rw [this]; simp
    split at h1 <;> omega
  · have := key 16 (by decide)
    rw [show ((16 : Nat) : Int) = 16 from rfl] at this
    rw [this]; simp
    split at h1 <;> omega
  · have := key 24 (by decide)
    rw [show ((24 : Nat) : Int) = 24 from rfl] at this
    rw [this]; simp
    split at h1 <;> omega
