/-! sets of joins by how many they are, and by their numbers: the two ways through them -/
def pcf : Nat → Nat → Nat
  | 0, _ => 0
  | f + 1, n => n % 2 + pcf f (n / 2)
abbrev pcn (w : Int) : Nat := pcf 17 w.toNat
theorem pcf_and : ∀ (f n : Nat), 0 < n → n < 2 ^ f → pcf f (n &&& (n - 1)) + 1 = pcf f n
  | 0, n, h0, h1 => by simp at h1; omega
  | f + 1, n, h0, h1 => by
    have hp : 2 ^ (f + 1) = 2 * 2 ^ f := by rw [Nat.pow_succ, Nat.mul_comm]
    have hz : (n &&& (n - 1)) % 2 = 0 := by
      have := Nat.and_mod_two_eq_one (a := n) (b := n - 1)
      omega
    unfold pcf
    rw [Nat.and_div_two, hz]
    by_cases e : n % 2 = 1
    · rw [show (n - 1) / 2 = n / 2 by omega, Nat.and_self]; omega
    · rw [show (n - 1) / 2 = n / 2 - 1 by omega]
      have := pcf_and f (n / 2) (by omega) (by omega)
      omega
theorem pcf_0 : ∀ (f n : Nat), n < 2 ^ f → pcf f n = 0 → n = 0
  | 0, n, h1, _ => by simp at h1; omega
  | f + 1, n, h1, h => by
    have hp : 2 ^ (f + 1) = 2 * 2 ^ f := by rw [Nat.pow_succ, Nat.mul_comm]
    unfold pcf at h
    have := pcf_0 f (n / 2) (by omega) (by omega)
    omega
theorem pcf_1 : ∀ (f n : Nat), n < 2 ^ f → pcf f n = 1 → ∃ i, i < f ∧ n = 2 ^ i
  | 0, n, h1, h => by unfold pcf at h; omega
  | f + 1, n, h1, h => by
    have hp : 2 ^ (f + 1) = 2 * 2 ^ f := by rw [Nat.pow_succ, Nat.mul_comm]
    unfold pcf at h
    by_cases e : n % 2 = 1
    · have := pcf_0 f (n / 2) (by omega) (by omega)
      exact ⟨0, by omega, by simp; omega⟩
    · obtain ⟨i, hi, hn⟩ := pcf_1 f (n / 2) (by omega) (by omega)
      exact ⟨i + 1, by omega, by rw [Nat.pow_succ]; omega⟩
theorem pcf_2 : ∀ (f n : Nat), n < 2 ^ f → pcf f n = 2 → ∃ j, j < f ∧ ∃ i, i < j ∧ n = 2 ^ i + 2 ^ j
  | 0, n, h1, h => by unfold pcf at h; omega
  | f + 1, n, h1, h => by
    have hp : 2 ^ (f + 1) = 2 * 2 ^ f := by rw [Nat.pow_succ, Nat.mul_comm]
    unfold pcf at h
    by_cases e : n % 2 = 1
    · obtain ⟨i, hi, hn⟩ := pcf_1 f (n / 2) (by omega) (by omega)
      exact ⟨i + 1, by omega, 0, by omega, by rw [Nat.pow_succ, Nat.pow_zero]; omega⟩
    · obtain ⟨j, hj, i, hi, hn⟩ := pcf_2 f (n / 2) (by omega) (by omega)
      exact ⟨j + 1, by omega, i + 1, by omega, by rw [Nat.pow_succ, Nat.pow_succ]; omega⟩
theorem pcf_3 : ∀ (f n : Nat), n < 2 ^ f → pcf f n = 3 → ∃ k, k < f ∧ ∃ j, j < k ∧ ∃ i, i < j ∧ n = 2 ^ i + 2 ^ j + 2 ^ k
  | 0, n, h1, h => by unfold pcf at h; omega
  | f + 1, n, h1, h => by
    have hp : 2 ^ (f + 1) = 2 * 2 ^ f := by rw [Nat.pow_succ, Nat.mul_comm]
    unfold pcf at h
    by_cases e : n % 2 = 1
    · obtain ⟨j, hj, i, hi, hn⟩ := pcf_2 f (n / 2) (by omega) (by omega)
      exact ⟨j + 1, by omega, i + 1, by omega, 0, by omega, by rw [Nat.pow_succ, Nat.pow_succ, Nat.pow_zero]; omega⟩
    · obtain ⟨k, hk, j, hj, i, hi, hn⟩ := pcf_3 f (n / 2) (by omega) (by omega)
      exact ⟨k + 1, by omega, j + 1, by omega, i + 1, by omega, by rw [Nat.pow_succ, Nat.pow_succ, Nat.pow_succ]; omega⟩
theorem pcf_more : ∀ (f g n : Nat), n < 2 ^ f → f ≤ g → pcf g n = pcf f n
  | 0, g, n, h, _ => by
    have : n = 0 := by simp at h; omega
    subst this
    unfold pcf
    clear h
    induction g with
    | zero => rfl
    | succ g ih => unfold pcf; simpa using ih (by omega)
  | f + 1, 0, n, h, hg => by omega
  | f + 1, g + 1, n, h, hg => by
    have hp : 2 ^ (f + 1) = 2 * 2 ^ f := by rw [Nat.pow_succ, Nat.mul_comm]
    unfold pcf
    rw [pcf_more f g (n / 2) (by omega) (by omega)]
def nxG (s : Int) : Int := z_or (s + z_and s (-s)) ((z_ush (z_xor s (s + z_and s (-s))) 2).tdiv (z_and s (-s)))
def nxL : List Int → Bool
  | [] => false
  | [a] => decide (65536 ≤ a)
  | a :: b :: t => decide (z_and a (-a) ≠ 0) && (decide (nxG a = b) && (decide (a < b) && nxL (b :: t)))
def gL1 : List Int := [1, 2, 4, 8, 16, 32, 64, 128, 256, 512, 1024, 2048, 4096, 8192, 16384, 32768, 65536]
def gL2 : List Int := [3, 5, 6, 9, 10, 12, 17, 18, 20, 24, 33, 34, 36, 40, 48, 65, 66, 68, 72, 80, 96, 129, 130, 132, 136, 144, 160, 192, 257, 258, 260, 264, 272, 288, 320, 384, 513, 514, 516, 520, 528, 544, 576, 640, 768, 1025, 1026, 1028, 1032, 1040, 1056, 1088, 1152, 1280, 1536, 2049, 2050, 2052, 2056, 2064, 2080, 2112, 2176, 2304, 2560, 3072, 4097, 4098, 4100, 4104, 4112, 4128, 4160, 4224, 4352, 4608, 5120, 6144, 8193, 8194, 8196, 8200, 8208, 8224, 8256, 8320, 8448, 8704, 9216, 10240, 12288, 16385, 16386, 16388, 16392, 16400, 16416, 16448, 16512, 16640, 16896, 17408, 18432, 20480, 24576, 32769, 32770, 32772, 32776, 32784, 32800, 32832, 32896, 33024, 33280, 33792, 34816, 36864, 40960, 49152, 65537]
def gL3 : List Int := [7, 11, 13, 14, 19, 21, 22, 25, 26, 28, 35, 37, 38, 41, 42, 44, 49, 50, 52, 56, 67, 69, 70, 73, 74, 76, 81, 82, 84, 88, 97, 98, 100, 104, 112, 131, 133, 134, 137, 138, 140, 145, 146, 148, 152, 161, 162, 164, 168, 176, 193, 194, 196, 200, 208, 224, 259, 261, 262, 265, 266, 268, 273, 274, 276, 280, 289, 290, 292, 296, 304, 321, 322, 324, 328, 336, 352, 385, 386, 388, 392, 400, 416, 448, 515, 517, 518, 521, 522, 524, 529, 530, 532, 536, 545, 546, 548, 552, 560, 577, 578, 580, 584, 592, 608, 641, 642, 644, 648, 656, 672, 704, 769, 770, 772, 776, 784, 800, 832, 896, 1027, 1029, 1030, 1033, 1034, 1036, 1041, 1042, 1044, 1048, 1057, 1058, 1060, 1064, 1072, 1089, 1090, 1092, 1096, 1104, 1120, 1153, 1154, 1156, 1160, 1168, 1184, 1216, 1281, 1282, 1284, 1288, 1296, 1312, 1344, 1408, 1537, 1538, 1540, 1544, 1552, 1568, 1600, 1664, 1792, 2051, 2053, 2054, 2057, 2058, 2060, 2065, 2066, 2068, 2072, 2081, 2082, 2084, 2088, 2096, 2113, 2114, 2116, 2120, 2128, 2144, 2177, 2178, 2180, 2184, 2192, 2208, 2240, 2305, 2306, 2308, 2312, 2320, 2336, 2368, 2432, 2561, 2562, 2564, 2568, 2576, 2592, 2624, 2688, 2816, 3073, 3074, 3076, 3080, 3088, 3104, 3136, 3200, 3328, 3584, 4099, 4101, 4102, 4105, 4106, 4108, 4113, 4114, 4116, 4120, 4129, 4130, 4132, 4136, 4144, 4161, 4162, 4164, 4168, 4176, 4192, 4225, 4226, 4228, 4232, 4240, 4256, 4288, 4353, 4354, 4356, 4360, 4368, 4384, 4416, 4480, 4609, 4610, 4612, 4616, 4624, 4640, 4672, 4736, 4864, 5121, 5122, 5124, 5128, 5136, 5152, 5184, 5248, 5376, 5632, 6145, 6146, 6148, 6152, 6160, 6176, 6208, 6272, 6400, 6656, 7168, 8195, 8197, 8198, 8201, 8202, 8204, 8209, 8210, 8212, 8216, 8225, 8226, 8228, 8232, 8240, 8257, 8258, 8260, 8264, 8272, 8288, 8321, 8322, 8324, 8328, 8336, 8352, 8384, 8449, 8450, 8452, 8456, 8464, 8480, 8512, 8576, 8705, 8706, 8708, 8712, 8720, 8736, 8768, 8832, 8960, 9217, 9218, 9220, 9224, 9232, 9248, 9280, 9344, 9472, 9728, 10241, 10242, 10244, 10248, 10256, 10272, 10304, 10368, 10496, 10752, 11264, 12289, 12290, 12292, 12296, 12304, 12320, 12352, 12416, 12544, 12800, 13312, 14336, 16387, 16389, 16390, 16393, 16394, 16396, 16401, 16402, 16404, 16408, 16417, 16418, 16420, 16424, 16432, 16449, 16450, 16452, 16456, 16464, 16480, 16513, 16514, 16516, 16520, 16528, 16544, 16576, 16641, 16642, 16644, 16648, 16656, 16672, 16704, 16768, 16897, 16898, 16900, 16904, 16912, 16928, 16960, 17024, 17152, 17409, 17410, 17412, 17416, 17424, 17440, 17472, 17536, 17664, 17920, 18433, 18434, 18436, 18440, 18448, 18464, 18496, 18560, 18688, 18944, 19456, 20481, 20482, 20484, 20488, 20496, 20512, 20544, 20608, 20736, 20992, 21504, 22528, 24577, 24578, 24580, 24584, 24592, 24608, 24640, 24704, 24832, 25088, 25600, 26624, 28672, 32771, 32773, 32774, 32777, 32778, 32780, 32785, 32786, 32788, 32792, 32801, 32802, 32804, 32808, 32816, 32833, 32834, 32836, 32840, 32848, 32864, 32897, 32898, 32900, 32904, 32912, 32928, 32960, 33025, 33026, 33028, 33032, 33040, 33056, 33088, 33152, 33281, 33282, 33284, 33288, 33296, 33312, 33344, 33408, 33536, 33793, 33794, 33796, 33800, 33808, 33824, 33856, 33920, 34048, 34304, 34817, 34818, 34820, 34824, 34832, 34848, 34880, 34944, 35072, 35328, 35840, 36865, 36866, 36868, 36872, 36880, 36896, 36928, 36992, 37120, 37376, 37888, 38912, 40961, 40962, 40964, 40968, 40976, 40992, 41024, 41088, 41216, 41472, 41984, 43008, 45056, 49153, 49154, 49156, 49160, 49168, 49184, 49216, 49280, 49408, 49664, 50176, 51200, 53248, 57344, 65539]
set_option maxRecDepth 100000 in
theorem nxL_1 : nxL gL1 = true := by decide +kernel
set_option maxRecDepth 100000 in
theorem nxL_2 : nxL gL2 = true := by decide +kernel
set_option maxRecDepth 100000 in
theorem nxL_3 : nxL gL3 = true := by decide +kernel
set_option maxRecDepth 100000 in
theorem mem_1 : ∀ i, i < 16 → ((2 ^ i : Nat) : Int) ∈ gL1 := by decide +kernel
set_option maxRecDepth 100000 in
theorem mem_2 : ∀ j, j < 16 → ∀ i, i < j → ((2 ^ i + 2 ^ j : Nat) : Int) ∈ gL2 := by decide +kernel
set_option maxRecDepth 100000 in
theorem mem_3 : ∀ k, k < 16 → ∀ j, j < k → ∀ i, i < j → ((2 ^ i + 2 ^ j + 2 ^ k : Nat) : Int) ∈ gL3 := by decide +kernel
set_option maxRecDepth 100000 in
theorem pc_1 : ∀ x ∈ gL1, 0 < x ∧ (x < 65536 → pcn x = 1) := by decide +kernel
set_option maxRecDepth 100000 in
theorem pc_2 : ∀ x ∈ gL2, 0 < x ∧ (x < 65536 → pcn x = 2) := by decide +kernel
set_option maxRecDepth 100000 in
theorem pc_3 : ∀ x ∈ gL3, 0 < x ∧ (x < 65536 → pcn x = 3) := by decide +kernel
theorem pc_0 {w : Int} (h0 : 0 < w) (h1 : w < 65536) : 0 < pcn w := by
  rcases Nat.eq_zero_or_pos (pcn w) with q | q
  · have := pcf_0 17 w.toNat (by omega) q; omega
  · exact q
theorem al_1 {w : Int} (h0 : 0 < w) (h1 : w < 65536) (h : pcn w = 1) : w ∈ gL1 := by
  unfold pcn at h
  rw [pcf_more 16 17 _ (by omega) (by omega)] at h
  obtain ⟨i, hi, e⟩ := pcf_1 16 w.toNat (by omega) h
  have := mem_1 i hi
  rw [← e, show ((w.toNat : Nat) : Int) = w by omega] at this
  exact this
theorem al_2 {w : Int} (h0 : 0 < w) (h1 : w < 65536) (h : pcn w = 2) : w ∈ gL2 := by
  unfold pcn at h
  rw [pcf_more 16 17 _ (by omega) (by omega)] at h
  obtain ⟨j, hj, i, hi, e⟩ := pcf_2 16 w.toNat (by omega) h
  have := mem_2 j hj i hi
  rw [← e, show ((w.toNat : Nat) : Int) = w by omega] at this
  exact this
theorem al_3 {w : Int} (h0 : 0 < w) (h1 : w < 65536) (h : pcn w = 3) : w ∈ gL3 := by
  unfold pcn at h
  rw [pcf_more 16 17 _ (by omega) (by omega)] at h
  obtain ⟨k, hk, j, hj, i, hi, e⟩ := pcf_3 16 w.toNat (by omega) h
  have := mem_3 k hk j hj i hi
  rw [← e, show ((w.toNat : Nat) : Int) = w by omega] at this
  exact this
/-- without the joins w: the two doors are apart, or the one is not locked -/
def Enf (S : Int → Int) (one other w : Int) : Prop := ∀ lo up dn : Int → Int, HI S w (S 0) (S 0) lo up dn → (if other < 0 then ¬ lkP S w lo up dn one else lo one ≠ lo other)
theorem Enf_iff {S lo up dn : Int → Int} {one other w : Int} (hS : StrOK S) (h : HI S w (S 0) (S 0) lo up dn) (h1 : 0 ≤ one ∧ one < S 0) (h2 : other < S 0) : Enf S one other w ↔ (if other < 0 then ¬ lkP S w lo up dn one else lo one ≠ lo other) := by
  constructor
  · intro q; exact q lo up dn h
  · intro q lo' up' dn' h'
    by_cases e : other < 0
    · rw [if_pos e] at q ⊢
      rw [← HI_lk hS h h' h1]; exact q
    · rw [if_neg e] at q ⊢
      rw [← HI_lo hS h h' one h1.1 h1.2, ← HI_lo hS h h' other (by omega) h2]; exact q
def FW (S : Int → Int) (one other r : Int) : Prop := (r = -2 ∧ ∀ w, 0 < w → w < 2 ^ (S 1).toNat → pcn w ≤ 3 → ¬ Enf S one other w) ∨
  ((0 < r ∧ r < 2 ^ (S 1).toNat) ∧ pcn r ≤ 3 ∧ Enf S one other r ∧ ∀ w, 0 < w → w < 2 ^ (S 1).toNat → (pcn w < pcn r ∨ (pcn w = pcn r ∧ w < r)) → ¬ Enf S one other w)
theorem FW_uniq {S : Int → Int} {one other r r' : Int} (h : FW S one other r) (h' : FW S one other r') : r' = r := by
  rcases h with ⟨a1, a2⟩ | ⟨a1, a2, a3, a4⟩ <;> rcases h' with ⟨b1, b2⟩ | ⟨b1, b2, b3, b4⟩
  · omega
  · exact absurd b3 (a2 r' b1.1 b1.2 b2)
  · exact absurd a3 (b2 r a1.1 a1.2 a2)
  · rcases Nat.lt_trichotomy (pcn r) (pcn r') with q | q | q
    · exact absurd a3 (b4 r a1.1 a1.2 (Or.inl q))
    · rcases Int.lt_trichotomy r r' with p | p | p
      · exact absurd a3 (b4 r a1.1 a1.2 (Or.inr ⟨q, p⟩))
      · exact p.symm
      · exact absurd b3 (a4 r' b1.1 b1.2 (Or.inr ⟨q.symm, p⟩))
    · exact absurd b3 (a4 r' b1.1 b1.2 (Or.inl q))
theorem p16 {S : Int → Int} (h : S 1 ≤ 16) : (0 : Int) < 2 ^ (S 1).toNat ∧ (2 : Int) ^ (S 1).toNat ≤ 65536 := by
  have h1 : (2 : Int) ^ (S 1).toNat ≤ 2 ^ 16 := ipow_le (c := 2) (by decide) (by omega)
  have e : (2 : Int) ^ 16 = 65536 := by decide
  exact ⟨Int.pow_pos (by decide), by omega⟩
