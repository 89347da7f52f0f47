/-! ratios in lowest terms, what is below the line of a door's place, how far a push turns: pure -/
def rat (up dn : Int → Int) (p d part : Int) : Int := if dn d * up p < 0 then lw (-(up d * dn p)) (-(dn d * up p)) part else lw (up d * dn p) (dn d * up p) part
theorem rat_spec {up dn : Int → Int} {p d : Int} (h1 : up d ≠ 0) (h2 : up p ≠ 0) (h3 : 0 < dn d) (h4 : 0 < dn p) : 0 < rat up dn p d 1 ∧ rat up dn p d 0 ≠ 0 ∧ Int.gcd (rat up dn p d 0) (rat up dn p d 1) = 1 ∧ rat up dn p d 0 * (dn d * up p) = up d * dn p * rat up dn p d 1 := by
  have ha : up d * dn p ≠ 0 := mul_nn h1 (by omega)
  have hb : dn d * up p ≠ 0 := mul_nn (by omega) h2
  unfold rat
  by_cases h : dn d * up p < 0
  · simp only [if_pos h]
    obtain ⟨a1, a2, a3, a4, -⟩ := lw_spec (a := -(up d * dn p)) (b := -(dn d * up p)) (by omega) (by omega)
    refine ⟨a1, a2, a3, ?_⟩
    rw [Int.mul_neg, Int.neg_mul] at a4
    omega
  · simp only [if_neg h]
    obtain ⟨a1, a2, a3, a4, -⟩ := lw_spec (a := up d * dn p) (b := dn d * up p) ha (by omega)
    exact ⟨a1, a2, a3, a4⟩
theorem cop_dvd {a b c : Int} (h1 : Int.gcd a b = 1) (h : b ∣ c * a) : b ∣ c := by
  have h3 : b.natAbs ∣ a.natAbs * c.natAbs := by rw [← Int.natAbs_mul, Int.mul_comm]; exact Int.natAbs_dvd_natAbs.mpr h
  exact Int.natAbs_dvd_natAbs.mp (Nat.Coprime.dvd_of_dvd_mul_left (Nat.Coprime.symm h1) h3)
/-- a set's numbers F, parted: every ratio is whole in them -/
theorem rat_F {S : Int → Int} {w b r : Int} {lo up dn : Int → Int} (hS : StrOK S) (h : HI S w b r lo up dn) : ∃ F G : Int → Int, (∀ d, (0 < F d ∧ F d ≤ 216000) ∧ 0 < G d ∧ F d * G d = pts S) ∧
    ∀ p d, 0 ≤ p → p < S 0 → 0 ≤ d → d < S 0 → 0 ≤ lo d → lo p = lo d → ∃ t : Int, 0 < t ∧ F d = rat up dn p d 1 * t ∧ (-216000 ≤ rat up dn p d 0 * t ∧ rat up dn p d 0 * t ≤ 216000) ∧ (-46656000000 ≤ rat up dn p d 0 * t * G d ∧ rat up dn p d 0 * t * G d ≤ 46656000000) := by
  obtain ⟨F, G, hF, hm⟩ := HI_F hS h
  obtain ⟨-, -, -, -, b1, -⟩ := id h
  refine ⟨F, G, hF, fun p d p1 p2 d1 d2 hl he => ?_⟩
  obtain ⟨m, e, mb, mg⟩ := hm p d p1 p2 d1 d2 hl he
  have bp := b1 p p1 p2 (by omega)
  have bd := b1 d d1 d2 hl
  obtain ⟨u1, u2, u3, u4⟩ := rat_spec (p := p) (d := d) bd.2.1 bp.2.1 bd.1 bp.1
  have hb : dn d * up p ≠ 0 := mul_nn (by omega) bp.2.1
  generalize rat up dn p d 0 = N at *
  generalize rat up dn p d 1 = U at *
  have hmu : m * U = F d * N := by
    apply cancel hb
    grind
  obtain ⟨t, ht⟩ := cop_dvd u3 (show U ∣ F d * N from ⟨m, by rw [← hmu, Int.mul_comm]⟩)
  have htm : m = N * t := by
    apply cancel (c := U) (by omega)
    rw [hmu, ht]; grind
  have hF0 := (hF d).1.1
  refine ⟨t, ?_, ht, by rw [← htm]; exact mb, by rw [← htm]; exact mg⟩
  rcases Int.lt_trichotomy t 0 with q | q | q
  · have := Int.mul_neg_of_pos_of_neg u1 q
    omega
  · rw [q] at ht; simp at ht; omega
  · exact q
/-- how many parts of P a push by 1 turns -/
def pof (P : Int) (up dn : Int → Int) (p d : Int) : Int := rat up dn p d 0 * P.tdiv (rat up dn p d 1)
theorem tdiv_mul {a b : Int} (hb : b ≠ 0) : (b * a).tdiv b = a := Int.mul_tdiv_cancel_left a hb
theorem pof_spec {S : Int → Int} {w b r : Int} {lo up dn : Int → Int} (hS : StrOK S) (h : HI S w b r lo up dn) {p d : Int} (p1 : 0 ≤ p ∧ p < S 0) (d1 : 0 ≤ d ∧ d < S 0) (hl : 0 ≤ lo d) (he : lo p = lo d) :
    (0 < rat up dn p d 1 ∧ rat up dn p d 1 ≤ 216000) ∧ (-216000 ≤ rat up dn p d 0 ∧ rat up dn p d 0 ≤ 216000) ∧ rat up dn p d 1 ∣ pts S ∧ (-46656000000 ≤ pof (pts S) up dn p d ∧ pof (pts S) up dn p d ≤ 46656000000) ∧ rat up dn p d 0 ≠ 0 := by
  obtain ⟨F, G, hF, hm⟩ := rat_F hS h
  obtain ⟨-, -, -, -, b1, -⟩ := id h
  obtain ⟨t, t1, t2, t3, t4⟩ := hm p d p1.1 p1.2 d1.1 d1.2 hl he
  have bp := b1 p p1.1 p1.2 (by omega)
  have bd := b1 d d1.1 d1.2 hl
  obtain ⟨u1, u2, u3, u4⟩ := rat_spec (p := p) (d := d) bd.2.1 bp.2.1 bd.1 bp.1
  unfold pof
  generalize rat up dn p d 0 = N at *
  generalize rat up dn p d 1 = U at *
  obtain ⟨⟨f1, f2⟩, g1, fg⟩ := hF d
  have e1 : pts S = U * (t * G d) := by rw [← fg, t2, Int.mul_assoc]
  have hle : U ≤ U * t := by
    have := Int.mul_le_mul_of_nonneg_left (show 1 ≤ t by omega) (show 0 ≤ U by omega)
    omega
  have e2 : N * (pts S).tdiv U = N * t * G d := by rw [e1, tdiv_mul (by omega), Int.mul_assoc]
  refine ⟨⟨u1, by omega⟩, ?_, ⟨_, e1⟩, by rw [e2]; exact t4, u2⟩
  rcases Int.le_total 0 N with q | q
  · have := Int.mul_le_mul_of_nonneg_left (show 1 ≤ t by omega) q
    omega
  · have := Int.mul_le_mul_of_nonneg_left (show 1 ≤ t by omega) (show 0 ≤ -N by omega)
    rw [Int.neg_mul, Int.neg_mul] at this
    omega
/-- what is below the line: gathered over the pushers -/
def belN (U : Nat → Int) (c : Nat → Bool) : Nat → Int
  | 0 => 1
  | k + 1 => if c k = true then (belN U c k).tdiv ((Int.gcd (belN U c k) (U k) : Nat) : Int) * U k else belN U c k
theorem lcm_step {b u F : Int} (hb : 0 < b) (hu : 0 < u) (hF : 0 < F) (h1 : b ∣ F) (h2 : u ∣ F) : 0 < b.tdiv ((Int.gcd b u : Nat) : Int) * u ∧ b.tdiv ((Int.gcd b u : Nat) : Int) * u ∣ F ∧ b ∣ b.tdiv ((Int.gcd b u : Nat) : Int) * u ∧ u ∣ b.tdiv ((Int.gcd b u : Nat) : Int) * u := by
  have hg : 0 < ((Int.gcd b u : Nat) : Int) := by
    have := Int.gcd_pos_of_ne_zero_right b (show u ≠ 0 by omega)
    omega
  obtain ⟨b', eb⟩ : ((Int.gcd b u : Nat) : Int) ∣ b := Int.gcd_dvd_left b u
  obtain ⟨u', eu⟩ : ((Int.gcd b u : Nat) : Int) ∣ u := Int.gcd_dvd_right b u
  have hcop : Int.gcd b' u' = 1 := by
    have h := Int.gcd_mul_left ((Int.gcd b u : Nat) : Int) b' u'
    rw [← eb, ← eu, Int.natAbs_natCast] at h
    have : Int.gcd b u * 1 = Int.gcd b u * Int.gcd b' u' := by omega
    exact (Nat.eq_of_mul_eq_mul_left (by omega) this).symm
  have et : b.tdiv ((Int.gcd b u : Nat) : Int) = b' := by
    have : (((Int.gcd b u : Nat) : Int) * b').tdiv ((Int.gcd b u : Nat) : Int) = b' := tdiv_mul (by omega)
    rw [← eb] at this; exact this
  rw [et]
  generalize ((Int.gcd b u : Nat) : Int) = g at *
  have hb' : 0 < b' := by
    rcases Int.lt_trichotomy b' 0 with q | q | q
    · have := Int.mul_neg_of_pos_of_neg hg q; omega
    · rw [q] at eb; simp at eb; omega
    · exact q
  obtain ⟨x, hx⟩ := h1
  obtain ⟨y, hy⟩ := h2
  have hxy : b' * x = u' * y := by
    apply cancel (c := g) (by omega)
    grind
  have hd : u' ∣ x := cop_dvd hcop ⟨y, by rw [Int.mul_comm, hxy]⟩
  obtain ⟨z, hz⟩ := hd
  refine ⟨Int.mul_pos hb' hu, ⟨z, ?_⟩, ⟨u', ?_⟩, ⟨b', Int.mul_comm _ _⟩⟩
  · rw [hx, hz]; grind
  · grind
theorem belN_spec {U : Nat → Int} {c : Nat → Bool} {F : Int} (hF : 0 < F) : ∀ n : Nat, (∀ k, k < n → c k = true → 0 < U k ∧ U k ∣ F) → 0 < belN U c n ∧ belN U c n ∣ F ∧ ∀ k, k < n → c k = true → U k ∣ belN U c n
  | 0, _ => ⟨by simp [belN], ⟨F, by simp [belN]⟩, fun k hk => by omega⟩
  | n + 1, h => by
    obtain ⟨i1, i2, i3⟩ := belN_spec hF n (fun k hk => h k (by omega))
    unfold belN
    by_cases hc : c n = true
    · rw [if_pos hc]
      obtain ⟨u1, u2⟩ := h n (by omega) hc
      obtain ⟨l1, l2, l3, l4⟩ := lcm_step i1 u1 hF i2 u2
      refine ⟨l1, l2, fun k hk hck => ?_⟩
      by_cases e : k = n
      · subst e; exact l4
      · exact Int.dvd_trans (i3 k (by omega) hck) l3
    · rw [if_neg hc]
      refine ⟨i1, i2, fun k hk hck => ?_⟩
      by_cases e : k = n
      · subst e; exact absurd hck hc
      · exact i3 k (by omega) hck
theorem belN_congr {U V : Nat → Int} {c e : Nat → Bool} : ∀ n : Nat, (∀ k, k < n → c k = e k) → (∀ k, k < n → c k = true → U k = V k) → belN U c n = belN V e n
  | 0, _, _ => rfl
  | n + 1, h1, h2 => by
    have ih := belN_congr n (fun k hk => h1 k (by omega)) (fun k hk => h2 k (by omega))
    unfold belN
    rw [ih, ← h1 n (by omega)]
    by_cases hc : c n = true
    · rw [if_pos hc, if_pos hc, h2 n (by omega) hc]
    · rw [if_neg hc, if_neg hc]
def bel (S lo up dn lk : Int → Int) (d : Int) : Int := belN (fun k => rat up dn (k : Int) d 1) (fun k => decide (lo (k : Int) = lo d ∧ lk d = 0)) (S 0).toNat
/-- what a hanging's numbers are like: of a door that is not locked -/
theorem bel_spec {S lo up dn lk : Int → Int} {w : Int} (hS : StrOK S) (h : HI S w (S 0) (S 0) lo up dn) {d : Int} (d1 : 0 ≤ d ∧ d < S 0) : (0 < bel S lo up dn lk d ∧ bel S lo up dn lk d ≤ 216000) ∧ bel S lo up dn lk d ∣ pts S ∧ ∀ p, 0 ≤ p → p < S 0 → lo p = lo d → lk d = 0 → rat up dn p d 1 ∣ bel S lo up dn lk d := by
  obtain ⟨F, G, hF, hm⟩ := rat_F hS h
  obtain ⟨-, a2, -, -, -⟩ := id h
  obtain ⟨⟨f1, f2⟩, g1, fg⟩ := hF d
  have hl := a2 d d1.1 d1.2 d1.2
  obtain ⟨i1, i2, i3⟩ := belN_spec (U := fun k => rat up dn (k : Int) d 1) (c := fun k => decide (lo (k : Int) = lo d ∧ lk d = 0)) f1 (S 0).toNat (fun k hk hc => by
    simp only [decide_eq_true_eq] at hc
    obtain ⟨t, t1, t2, -⟩ := hm (k : Int) d (by omega) (by omega) d1.1 d1.2 hl hc.1
    exact ⟨(pof_spec hS h (p := (k : Int)) (d := d) ⟨by omega, by omega⟩ d1 hl hc.1).1.1, ⟨t, t2⟩⟩)
  refine ⟨⟨i1, Int.le_trans (Int.le_of_dvd f1 i2) f2⟩, Int.dvd_trans i2 ⟨G d, fg.symm⟩, fun p p1 p2 q1 q2 => ?_⟩
  have := i3 p.toNat (by omega) (by simp only [decide_eq_true_eq]; rw [show ((p.toNat : Nat) : Int) = p by omega]; exact ⟨q1, q2⟩)
  simp only [show ((p.toNat : Nat) : Int) = p by omega] at this
  exact this
/-- a push by 1 in parts of what is below the line -/
def stp (S lo up dn lk : Int → Int) (p d : Int) : Int := rat up dn p d 0 * (bel S lo up dn lk d).tdiv (rat up dn p d 1)
theorem stp_spec {S lo up dn lk : Int → Int} {w : Int} (hS : StrOK S) (h : HI S w (S 0) (S 0) lo up dn) {p d : Int} (p1 : 0 ≤ p ∧ p < S 0) (d1 : 0 ≤ d ∧ d < S 0) (he : lo p = lo d) (hk : lk d = 0) :
    stp S lo up dn lk p d * pts S = pof (pts S) up dn p d * bel S lo up dn lk d ∧ (-216000 ≤ stp S lo up dn lk p d ∧ stp S lo up dn lk p d ≤ 216000) ∧ stp S lo up dn lk p d ≠ 0 := by
  obtain ⟨-, a2, -, -, -⟩ := id h
  have hl := a2 d d1.1 d1.2 d1.2
  obtain ⟨F, G, hF, hm⟩ := rat_F hS h
  obtain ⟨⟨b1, b2⟩, b3, b4⟩ := bel_spec (lk := lk) hS h d1
  obtain ⟨⟨s1, s2⟩, s3, s4, s5, s6⟩ := pof_spec hS h p1 d1 hl he
  obtain ⟨x, hx⟩ := b4 p p1.1 p1.2 he hk
  obtain ⟨y, hy⟩ := s4
  obtain ⟨t, t1, t2, t3, t4⟩ := hm p d p1.1 p1.2 d1.1 d1.2 hl he
  obtain ⟨⟨f1, f2⟩, g1, fg⟩ := hF d
  have hbF : bel S lo up dn lk d ∣ F d := (belN_spec (U := fun k => rat up dn (k : Int) d 1) (c := fun k => decide (lo (k : Int) = lo d ∧ lk d = 0)) f1 (S 0).toNat (fun k hk hc => by
    simp only [decide_eq_true_eq] at hc
    obtain ⟨t, t1, t2, -⟩ := hm (k : Int) d (by omega) (by omega) d1.1 d1.2 hl hc.1
    exact ⟨(pof_spec hS h (p := (k : Int)) (d := d) ⟨by omega, by omega⟩ d1 hl hc.1).1.1, ⟨t, t2⟩⟩)).2.1
  unfold stp pof
  generalize bel S lo up dn lk d = B at *
  generalize rat up dn p d 0 = N at *
  generalize rat up dn p d 1 = U at *
  have e1 : B.tdiv U = x := by rw [hx]; exact tdiv_mul (by omega)
  have e2 : (pts S).tdiv U = y := by rw [hy]; exact tdiv_mul (by omega)
  rw [e1, e2]
  have hx0 : 0 < x := by
    rcases Int.lt_trichotomy x 0 with q | q | q
    · have := Int.mul_neg_of_pos_of_neg s1 q; omega
    · rw [q] at hx; simp at hx; omega
    · exact q
  refine ⟨by rw [hx, hy]; grind, ?_, mul_nn s6 (by omega)⟩
  have hxt : x ≤ t := by
    obtain ⟨z, hz⟩ := hbF
    have e3 : t = x * z := by
      apply cancel (c := U) (by omega)
      rw [Int.mul_comm t U, ← t2, hz, hx]; grind
    have hz0 : 0 < z := by
      rcases Int.lt_trichotomy z 0 with q | q | q
      · have := Int.mul_neg_of_pos_of_neg hx0 q; omega
      · rw [q] at e3; simp at e3; omega
      · exact q
    have := Int.mul_le_mul_of_nonneg_left (show 1 ≤ z by omega) (show 0 ≤ x by omega)
    omega
  rcases Int.le_total 0 N with q | q
  · have h1 := Int.mul_le_mul_of_nonneg_left hxt q
    have h2 : 0 ≤ N * x := Int.mul_nonneg q (by omega)
    omega
  · have h1 := Int.mul_le_mul_of_nonneg_left hxt (show 0 ≤ -N by omega)
    have h2 : 0 ≤ -N * x := Int.mul_nonneg (by omega) (by omega)
    rw [Int.neg_mul] at h1 h2
    rw [Int.neg_mul] at h1
    omega
/-- two hangings of one street have the same numbers where nothing is locked -/
theorem Hung_lk {S : Int → Int} {lo up dn lk : Int → Int} (h : Hung S 0 lo up dn lk) {d : Int} (d1 : 0 ≤ d ∧ d < S 0) : lk d = 0 ↔ ¬ lkP S 0 lo up dn d := by
  have := h.2 d d1.1 d1.2
  constructor
  · intro q q2
    have := this.2.mpr q2; omega
  · intro q
    rcases this.1 with e | e
    · exact e
    · exact absurd (this.2.mp e) q
theorem rat_same {S : Int → Int} {lo up dn lo' up' dn' : Int → Int} (hS : StrOK S) (h : HI S 0 (S 0) (S 0) lo up dn) (h' : HI S 0 (S 0) (S 0) lo' up' dn') {p d : Int} (p1 : 0 ≤ p ∧ p < S 0) (d1 : 0 ≤ d ∧ d < S 0) (hn : ¬ lkP S 0 lo up dn d) (he : lo p = lo d) (part : Int) : rat up dn p d part = rat up' dn' p d part := by
  have e1 := HI_pot hS h h' d1 hn p p1.1 p1.2 he
  have e2 := HI_pot hS h h' d1 hn d d1.1 d1.2 rfl
  unfold rat
  rw [e1.1, e1.2, e2.1, e2.2]
theorem bel_same {S : Int → Int} {lo up dn lk lo' up' dn' lk' : Int → Int} (hS : StrOK S) (h : Hung S 0 lo up dn lk) (h' : Hung S 0 lo' up' dn' lk') {d : Int} (d1 : 0 ≤ d ∧ d < S 0) : bel S lo up dn lk d = bel S lo' up' dn' lk' d := by
  have elo := HI_lo hS h.1 h'.1
  have elk := HI_lk hS h.1 h'.1 d1
  have k1 := Hung_lk h d1
  have k2 := Hung_lk h' d1
  have e0 : lk d = 0 ↔ lk' d = 0 := by rw [k1, k2, elk]
  refine belN_congr _ (fun k hk => ?_) (fun k hk hc => ?_)
  · rw [elo (k : Int) (by omega) (by omega), elo d d1.1 d1.2]
    simp only [e0]
  · simp only [decide_eq_true_eq] at hc
    exact rat_same hS h.1 h'.1 ⟨by omega, by omega⟩ d1 (k1.mp hc.2) hc.1 1
theorem belN_rng {S lo up dn lk : Int → Int} {w : Int} (hS : StrOK S) (h : HI S w (S 0) (S 0) lo up dn) {d : Int} (d1 : 0 ≤ d ∧ d < S 0) (n : Nat) (hn : (n : Int) ≤ S 0) : 0 < belN (fun k => rat up dn (k : Int) d 1) (fun k => decide (lo (k : Int) = lo d ∧ lk d = 0)) n ∧ belN (fun k => rat up dn (k : Int) d 1) (fun k => decide (lo (k : Int) = lo d ∧ lk d = 0)) n ≤ 216000 := by
  obtain ⟨F, G, hF, hm⟩ := rat_F hS h
  obtain ⟨-, a2, -, -, -⟩ := id h
  obtain ⟨⟨f1, f2⟩, g1, fg⟩ := hF d
  have hl := a2 d d1.1 d1.2 d1.2
  obtain ⟨i1, i2, i3⟩ := belN_spec (U := fun k => rat up dn (k : Int) d 1) (c := fun k => decide (lo (k : Int) = lo d ∧ lk d = 0)) f1 n (fun k hk hc => by
    simp only [decide_eq_true_eq] at hc
    obtain ⟨t, t1, t2, -⟩ := hm (k : Int) d (by omega) (by omega) d1.1 d1.2 hl hc.1
    exact ⟨(pof_spec hS h (p := (k : Int)) (d := d) ⟨by omega, by omega⟩ d1 hl hc.1).1.1, ⟨t, t2⟩⟩)
  exact ⟨i1, Int.le_trans (Int.le_of_dvd f1 i2) f2⟩
