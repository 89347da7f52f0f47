/-! what is open, what is beyond, what a push does: pure, and the same in other parts -/
def opn (S : Int → Int) (P d x : Int) : Bool := if 0 < spn S d then decide (spn S d * P ≤ 2 * x) else decide (2 * (x % (tee S d * P)) < tee S d * P)
def byd (S : Int → Int) (P d x : Int) : Bool := decide (0 < spn S d ∧ (x < 0 ∨ spn S d * P < x))
theorem ml_lt {a b c : Int} (hc : 0 < c) : a * c < b * c ↔ a < b := ⟨fun h => Int.lt_of_mul_lt_mul_right h (by omega), fun h => Int.mul_lt_mul_of_pos_right h hc⟩
theorem ml_le {a b c : Int} (hc : 0 < c) : a * c ≤ b * c ↔ a ≤ b := by
  have := ml_lt (a := b) (b := a) hc
  omega
theorem sc_neg {s P x B : Int} (hP : 0 < P) (hB : 0 < B) (h : s * P = x * B) : s < 0 ↔ x < 0 := by
  rw [← ml_lt hP, h, ← ml_lt (b := 0) hB]
  simp
theorem sc_gt {s P x B k : Int} (hP : 0 < P) (hB : 0 < B) (h : s * P = x * B) : k * B < s ↔ k * P < x := by
  rw [← ml_lt hP, h, show k * B * P = k * P * B by grind, ml_lt hB]
theorem sc_ge {s P x B k : Int} (hP : 0 < P) (hB : 0 < B) (h : s * P = x * B) : k * B ≤ 2 * s ↔ k * P ≤ 2 * x := by
  rw [← ml_le hP, show 2 * s * P = 2 * x * B by grind, show k * B * P = k * P * B by grind, ml_le hB]
theorem sc_mod {s P x B t : Int} (hP : 0 < P) (hB : 0 < B) (h : s * P = x * B) : (s % (t * B)) * P = (x % (t * P)) * B := by
  have h1 := Int.mul_emod_mul_of_pos s (t * B) hP
  have h2 := Int.mul_emod_mul_of_pos x (t * P) hB
  rw [show P * s = B * x by grind, show P * (t * B) = B * (t * P) by grind] at h1
  rw [Int.mul_comm (s % (t * B)) P, Int.mul_comm (x % (t * P)) B, ← h1, h2]
theorem sc_div {s P x B : Int} (hP : 0 < P) (hB : 0 < B) (h : s * P = x * B) : s / B = x / P := by
  have h1 := Int.mul_ediv_mul_of_pos s B hP
  have h2 := Int.mul_ediv_mul_of_pos x P hB
  rw [← h1, ← h2, show P * s = B * x by grind, Int.mul_comm P B]
theorem sc_bd {s P x B K : Int} (hB : 0 < B) (hBP : B ≤ P) (h : s * P = x * B) (hx : -K ≤ x ∧ x ≤ K) : -K ≤ s ∧ s ≤ K := by
  have h1 : K * B ≤ K * P := Int.mul_le_mul_of_nonneg_left hBP (by omega)
  have h2 : x * B ≤ K * B := Int.mul_le_mul_of_nonneg_right hx.2 (by omega)
  have h3 : -K * B ≤ x * B := Int.mul_le_mul_of_nonneg_right hx.1 (by omega)
  rw [Int.neg_mul] at h3
  constructor
  · have : -K * P ≤ s * P := by rw [Int.neg_mul]; omega
    exact (ml_le (by omega)).mp this
  · have : s * P ≤ K * P := by omega
    exact (ml_le (by omega)).mp this
theorem opn_sc {S : Int → Int} {s P x B d : Int} (hP : 0 < P) (hB : 0 < B) (h : s * P = x * B) : opn S B d s = opn S P d x := by
  unfold opn
  by_cases e : 0 < spn S d
  · rw [if_pos e, if_pos e]
    simp only [sc_ge hP hB h]
  · rw [if_neg e, if_neg e]
    have h1 := sc_mod (t := tee S d) hP hB h
    have h2 : 2 * (s % (tee S d * B)) < tee S d * B ↔ 2 * (x % (tee S d * P)) < tee S d * P := by
      rw [← ml_lt hP, show 2 * (s % (tee S d * B)) * P = 2 * (x % (tee S d * P)) * B by grind, show tee S d * B * P = tee S d * P * B by grind, ml_lt hB]
    simp only [h2]
theorem byd_sc {S : Int → Int} {s P x B d : Int} (hP : 0 < P) (hB : 0 < B) (h : s * P = x * B) : byd S B d s = byd S P d x := by
  unfold byd
  simp only [sc_neg hP hB h, sc_gt hP hB h]
/-- one fraction in two forms -/
theorem lw_eq {a b c d part : Int} (hb : 0 < b) (hd : 0 < d) (h : a * d = c * b) : lw a b part = lw c d part := by
  have z : a = 0 ↔ c = 0 := by
    constructor
    · intro q
      refine Classical.byContradiction (fun q2 => mul_nn q2 (show b ≠ 0 by omega) ?_)
      rw [← h, q, Int.zero_mul]
    · intro q
      refine Classical.byContradiction (fun q2 => mul_nn q2 (show d ≠ 0 by omega) ?_)
      rw [h, q, Int.zero_mul]
  have e : lw a b 0 = lw c d 0 ∧ lw a b 1 = lw c d 1 := by
    by_cases q : a = 0
    · have q2 := z.mp q
      rw [q, q2, lw_0, lw_0, lw_1, lw_1]
      simp only [Int.zero_tdiv, Int.gcd_zero_left, true_and]
      rw [show ((b.natAbs : Nat) : Int) = b by omega, show ((d.natAbs : Nat) : Int) = d by omega, Int.tdiv_self (by omega), Int.tdiv_self (by omega)]
    · obtain ⟨a1, a2, a3, a4, -⟩ := lw_spec q hb
      obtain ⟨c1, c2, c3, c4, -⟩ := lw_spec (fun q2 => q (z.mpr q2)) hd
      refine frac_eq a1 c1 a3 c3 ?_
      generalize lw a b 0 = N at *
      generalize lw a b 1 = U at *
      generalize lw c d 0 = M at *
      generalize lw c d 1 = V at *
      apply cancel (c := b * d) (mul_nn (by omega) (by omega))
      grind
  unfold lw at e ⊢
  by_cases q : part = 0
  · rw [if_pos q, if_pos q]; simpa using e.1
  · rw [if_neg q, if_neg q]; simpa using e.2
/-- how many doors a push turns, or the door that it jams at -/
def psh (S lo up dn pl : Int → Int) (P p n : Int) : Nat → Int → Int → Int
  | 0, _, m => m
  | f + 1, d, m => if d < S 0 then (if lo d = lo p then (if byd S P d (pl d + n * pof P up dn p d) = true then -10 - d else psh S lo up dn pl P p n f (d + 1) (m + 1)) else psh S lo up dn pl P p n f (d + 1) m) else m
def pushR (S lo up dn lk pl : Int → Int) (P p n : Int) : Int := if zbit (S 2) p = 1 then -2 else if lk p = 1 then -3 else psh S lo up dn pl P p n 13 0 0
/-- the places behind a push -/
def trn (S lo up dn pl : Int → Int) (P p n : Int) : Int → Int := fun d => if 0 ≤ d ∧ d < S 0 ∧ lo d = lo p then pl d + n * pof P up dn p d else pl d
/-- the open doors as bits -/
def opS (S : Int → Int) (P : Int) (pl : Int → Int) : Nat → Int
  | 0 => 0
  | k + 1 => z_or (opS S P pl k) (if opn S P (k : Int) (pl (k : Int)) = true then z_shl 1 (k : Int) else 0)
theorem opS_rng (S : Int → Int) (P : Int) (pl : Int → Int) : ∀ k : Nat, k ≤ 12 → 0 ≤ opS S P pl k ∧ opS S P pl k < 4096
  | 0, _ => by unfold opS; decide
  | k + 1, h => by
    have ih := opS_rng S P pl k (by omega)
    unfold opS
    refine z_or_rng (n := 12) (by decide) ih ?_
    split
    · exact pow_rng (n := 12) ⟨by omega, by omega⟩ (by decide)
    · decide
theorem psh_rng {S lo up dn pl : Int → Int} {P p n : Int} (hS : S 0 ≤ 12) : ∀ (f : Nat) (d m : Int), 0 ≤ d → 0 ≤ m → m ≤ d → d ≤ 12 → -22 ≤ psh S lo up dn pl P p n f d m ∧ psh S lo up dn pl P p n f d m ≤ 12
  | 0, d, m, h1, h2, h3, h4 => by unfold psh; omega
  | f + 1, d, m, h1, h2, h3, h4 => by
    unfold psh
    split
    · split
      · split
        · omega
        · exact psh_rng hS f _ _ (by omega) (by omega) (by omega) (by omega)
      · exact psh_rng hS f _ _ (by omega) (by omega) (by omega) (by omega)
    · omega
theorem pushR_rng {S lo up dn lk pl : Int → Int} {P p n : Int} (hS : S 0 ≤ 12) : -22 ≤ pushR S lo up dn lk pl P p n ∧ pushR S lo up dn lk pl P p n ≤ 12 := by
  unfold pushR
  split
  · decide
  · split
    · decide
    · exact psh_rng hS 13 0 0 (by decide) (by decide) (by decide) (by decide)
/-- places: not too far -/
def PB (pl : Int → Int) : Prop := ∀ d, 0 ≤ d → d < 12 → -100000000000000000 ≤ pl d ∧ pl d ≤ 100000000000000000
/-- the class holds the street S, hung as lo, up, dn, lk say, its doors at the places pl -/
def GX (μ : Mem) (S lo up dn lk pl : Int → Int) : Prop := StrOK S ∧ GT μ S ∧ Hung S 0 lo up dn lk ∧ GF μ S lo up dn lk ∧ (∀ d, 0 ≤ d → d < S 0 → μ 9 d * pts S = pl d * bel S lo up dn lk d) ∧ PB pl
theorem GX.z {μ : Mem} {S lo up dn lk pl : Int → Int} (h : GX μ S lo up dn lk pl) : (0 ≤ S 0 ∧ S 0 ≤ 12) ∧ (0 ≤ S 1 ∧ S 1 ≤ 16) ∧ μ 3 0 = S 0 ∧ μ 3 4 = S 1 ∧ μ 3 3 = S 2 ∧ (0 ≤ S 2 ∧ S 2 < 4096) ∧ (1 ≤ pts S ∧ pts S ≤ 46656000000) ∧ (0 ≤ μ 59 7 ∧ μ 59 7 < 4096) := by
  obtain ⟨hS, hT, hH, hF, hp, hb⟩ := h
  exact ⟨hS.1, hS.2.1, hT.1.1, hT.1.2.1, hT.2.2.1, hT.2.2.2, pts_bd hS, hF.2.1.1⟩
theorem GX.d {μ : Mem} {S lo up dn lk pl : Int → Int} (h : GX μ S lo up dn lk pl) {d : Int} (d1 : 0 ≤ d ∧ d < S 0) : μ 4 d = tee S d ∧ μ 5 d = spn S d ∧ (4 ≤ tee S d ∧ tee S d ≤ 60) ∧ (0 ≤ spn S d ∧ spn S d ≤ tee S d) ∧ (0 < μ 63 d ∧ μ 63 d ≤ 216000) ∧ μ 63 d ≤ pts S ∧ μ 9 d * pts S = pl d * μ 63 d ∧ (0 ≤ lo d ∧ lo d < 12) ∧ μ 60 d = lo d ∧ (-100000000000000000 ≤ μ 9 d ∧ μ 9 d ≤ 100000000000000000) ∧ (-100000000000000000 ≤ pl d ∧ pl d ≤ 100000000000000000) ∧ (lk d = 0 ∨ lk d = 1) ∧ (zbit (μ 59 7) d = 1 ↔ lk d = 1) := by
  obtain ⟨hS, hT, hH, hF, hp, hb⟩ := h
  have t := hS.2.2.1 d d1.1 d1.2
  have b := bel_spec (lk := lk) hS hH.1 d1
  have e := hF.2.2.2.1 d d1.1 d1.2
  have hpos := (pts_bd hS).1
  have hle := Int.le_of_dvd (by omega) b.2.1
  have hsc := hp d d1.1 d1.2
  have l := Hung_lo hH d1
  have h0 := hS.1
  have hbb := hb d d1.1 (by omega)
  refine ⟨hT.1.2.2.1 d d1.1 d1.2, hT.2.1 d d1.1 d1.2, t.1, t.2, by rw [e]; exact b.1, by rw [e]; exact hle, by rw [e]; exact hsc, ⟨l.1, by omega⟩, hF.1 d d1.1 d1.2, sc_bd (by omega) hle hsc hbb, hbb, (hH.2 d d1.1 d1.2).1, ?_⟩
  exact (hF.2.1.2 d d1.1).trans ⟨fun q => q.2, fun q => ⟨d1.2, q⟩⟩
theorem lk_alike {S : Int → Int} {lo up dn lk : Int → Int} (h : Hung S 0 lo up dn lk) {p d : Int} (p1 : 0 ≤ p ∧ p < S 0) (d1 : 0 ≤ d ∧ d < S 0) (he : lo p = lo d) : lk p = lk d := by
  have a := h.2 p p1.1 p1.2
  have b := h.2 d d1.1 d1.2
  have e : lkP S 0 lo up dn p ↔ lkP S 0 lo up dn d := by unfold lkP; rw [he]
  rcases a.1 with q | q <;> rcases b.1 with r | r
  · omega
  · have := a.2.mpr (e.mpr (b.2.mp r)); omega
  · have := b.2.mpr (e.mp (a.2.mp q)); omega
  · omega
/-- a push's step in the class -/
theorem GX.st {μ : Mem} {S lo up dn lk pl : Int → Int} (h : GX μ S lo up dn lk pl) {p d : Int} (p1 : 0 ≤ p ∧ p < S 0) (d1 : 0 ≤ d ∧ d < S 0) (he : lo d = lo p) (hk : lk p = 0) : μ 64 (p * 12 + d) * pts S = pof (pts S) up dn p d * μ 63 d ∧ (-216000 ≤ μ 64 (p * 12 + d) ∧ μ 64 (p * 12 + d) ≤ 216000) ∧ (-46656000000 ≤ pof (pts S) up dn p d ∧ pof (pts S) up dn p d ≤ 46656000000) ∧ μ 64 (p * 12 + d) ≠ 0 := by
  obtain ⟨hS, hT, hH, hF, hp, hb⟩ := h
  have hk2 : lk d = 0 := by rw [← lk_alike hH p1 d1 he.symm]; exact hk
  have e := hF.2.2.2.2 p d p1.1 p1.2 d1.1 d1.2
  rw [if_pos ⟨he.symm, hk2⟩] at e
  have s := stp_spec (lk := lk) hS hH.1 p1 d1 he.symm hk2
  rw [e, hF.2.2.2.1 d d1.1 d1.2]
  exact ⟨s.1, s.2.1, (pof_spec hS hH.1 p1 d1 (Hung_lo hH d1).1 he.symm).2.2.2.1, s.2.2⟩
theorem sc_add {s P x B t y n : Int} (h : s * P = x * B) (h2 : t * P = y * B) : (s + n * t) * P = (x + n * y) * B := by
  rw [Int.add_mul, Int.add_mul, h, Int.mul_assoc n t P, h2, Int.mul_assoc n y B]
/-- what the gears and the street rest on -/
abbrev gxc (c : Nat) (i : Int) : Prop := (c = 3 ∧ (i = 0 ∨ i = 3 ∨ i = 4)) ∨ (4 ≤ c ∧ c ≤ 9) ∨ (c = 59 ∧ (i = 7 ∨ i = 8)) ∨ c = 60 ∨ c = 63 ∨ c = 64
theorem GX.keep {μ ν : Mem} {S lo up dn lk pl : Int → Int} (h : GX μ S lo up dn lk pl) (e : ∀ c i, gxc c i → ν c i = μ c i) : GX ν S lo up dn lk pl := by
  obtain ⟨hS, hT, hH, hF, hp, hb⟩ := h
  have r : ∀ c, (∀ i, gxc c i) → ν c = μ c := fun c h => funext (fun i => e c i (h i))
  have e4 := r 4 (fun i => by unfold gxc; omega)
  have e5 := r 5 (fun i => by unfold gxc; omega)
  have e6 := r 6 (fun i => by unfold gxc; omega)
  have e7 := r 7 (fun i => by unfold gxc; omega)
  have e8 := r 8 (fun i => by unfold gxc; omega)
  have e9 := r 9 (fun i => by unfold gxc; omega)
  have e60 := r 60 (fun i => by unfold gxc; omega)
  have e63 := r 63 (fun i => by unfold gxc; omega)
  have e64 := r 64 (fun i => by unfold gxc; omega)
  have a0 := e 3 0 (by unfold gxc; omega)
  have a3 := e 3 3 (by unfold gxc; omega)
  have a4 := e 3 4 (by unfold gxc; omega)
  have b7 := e 59 7 (by unfold gxc; omega)
  have b8 := e 59 8 (by unfold gxc; omega)
  refine ⟨hS, ?_, hH, ?_, ?_, hb⟩
  · unfold GT GS
    rw [e4, e5, e6, e7, e8, a0, a3, a4]
    exact hT
  · unfold GF
    rw [e60, e63, e64, b7, b8]
    exact hF
  · rw [e9]; exact hp
theorem GX.fr {Wp : Nat → Int → Prop} {μ ν : Mem} {S lo up dn lk pl : Int → Int} (h : GX μ S lo up dn lk pl) (f : Fr Wp μ ν) (hd : ∀ c i, gxc c i → ¬ Wp c i) : GX ν S lo up dn lk pl :=
  h.keep (fun c i q => f c i (hd c i q))
