/-! HANGING: sets of joined doors, ratios, as both sides make them -/
def cntB (p : Nat → Bool) : Nat → Nat
  | 0 => 0
  | n + 1 => cntB p n + (if p n = true then 1 else 0)
theorem cntB_le {p q : Nat → Bool} : ∀ n : Nat, (∀ j, j < n → p j = true → q j = true) → cntB p n ≤ cntB q n
  | 0, _ => Nat.le_refl _
  | n + 1, h => by
    have ih := cntB_le n (fun j hj => h j (by omega))
    have h2 := h n (by omega)
    unfold cntB
    by_cases e : p n = true
    · rw [if_pos e, if_pos (h2 e)]; omega
    · rw [if_neg e]; omega
theorem cntB_congr {p q : Nat → Bool} : ∀ n : Nat, (∀ j, j < n → p j = q j) → cntB p n = cntB q n
  | 0, _ => rfl
  | n + 1, h => by
    unfold cntB
    rw [cntB_congr n (fun j hj => h j (by omega)), h n (by omega)]
theorem cntB_set {p : Nat → Bool} {k : Nat} (hp : p k = false) : ∀ n : Nat, k < n → cntB (fun j => if j = k then true else p j) n = cntB p n + 1
  | 0, h => absurd h (by omega)
  | n + 1, h => by
    unfold cntB
    by_cases e : k = n
    · subst e
      rw [if_pos (by simp), if_neg (by rw [hp]; decide), cntB_congr (q := p) k (fun j hj => by simp [show ¬ j = k by omega])]
    · rw [cntB_set hp n (by omega), if_neg (show ¬ n = k from fun q => e q.symm)]
      omega
def prdB (g : Nat → Int) : Nat → Int
  | 0 => 1
  | n + 1 => prdB g n * g n
theorem prdB_congr {g h : Nat → Int} : ∀ n : Nat, (∀ j, j < n → g j = h j) → prdB g n = prdB h n
  | 0, _ => rfl
  | n + 1, hh => by
    unfold prdB
    rw [prdB_congr n (fun j hj => hh j (by omega)), hh n (by omega)]
theorem prdB_set {g : Nat → Int} {k : Nat} {v : Int} (hg : g k = 1) : ∀ n : Nat, k < n → prdB (fun j => if j = k then v else g j) n = prdB g n * v
  | 0, h => absurd h (by omega)
  | n + 1, h => by
    unfold prdB
    by_cases e : k = n
    · subst e
      rw [if_pos rfl, prdB_congr (h := g) k (fun j hj => by simp [show ¬ j = k by omega]), hg, Int.mul_one]
    · rw [prdB_set hg n (by omega), if_neg (show ¬ n = k from fun q => e q.symm), Int.mul_assoc, Int.mul_assoc, Int.mul_comm v]
/-- a join that is there: not among those left out -/
def act (S : Int → Int) (w j : Int) : Prop := 0 ≤ j ∧ j < S 1 ∧ zbit w j ≠ 1
def abv (S : Int → Int) (j t : Int) : Int := if jn S j 2 = 2 then tee S t else if jn S j 2 = 0 then -1 else 1
def blw (S : Int → Int) (j f : Int) : Int := if jn S j 2 = 2 then tee S f else 1
def axl (S : Int → Int) (j : Nat) : Bool := decide (jn S (j : Int) 2 = 2)
def StrOK (S : Int → Int) : Prop := (0 ≤ S 0 ∧ S 0 ≤ 12) ∧ (0 ≤ S 1 ∧ S 1 ≤ 16) ∧
  (∀ d, 0 ≤ d → d < S 0 → (4 ≤ tee S d ∧ tee S d ≤ 60) ∧ (0 ≤ spn S d ∧ spn S d ≤ tee S d)) ∧
  (∀ j, 0 ≤ j → j < S 1 → (0 ≤ jn S j 0 ∧ jn S j 0 < S 0) ∧ (0 ≤ jn S j 1 ∧ jn S j 1 < S 0) ∧ jn S j 0 ≠ jn S j 1 ∧ (0 ≤ jn S j 2 ∧ jn S j 2 ≤ 2)) ∧
  cntB (axl S) (S 1).toNat ≤ 3
def lab (S : Int → Int) (w : Int) (f : Int → Int) : Prop := ∀ j, act S w j → f (jn S j 0) = f (jn S j 1)
def compat (S p q : Int → Int) (j : Int) : Prop := p (jn S j 1) * q (jn S j 0) * blw S j (jn S j 0) = p (jn S j 0) * q (jn S j 1) * abv S j (jn S j 1)
def Cn (S : Int → Int) (w x r : Int) : Prop := ∀ f, lab S w f → f x = f r
/-- what the product of the used axles' teeth is -/
def axp (S : Int → Int) (used : Nat → Bool) (j : Nat) : Int := if used j = true then tee S (jn S j 0) * tee S (jn S j 1) else 1
def HI (S : Int → Int) (w b r : Int) (lo up dn : Int → Int) : Prop :=
  (∀ d, 0 ≤ d → d < S 0 → lo d = -1 ∨ (0 ≤ lo d ∧ lo d ≤ d ∧ lo d < b ∧ lo (lo d) = lo d)) ∧
  (∀ d, 0 ≤ d → d < b → d < S 0 → 0 ≤ lo d) ∧
  (∀ d, 0 ≤ d → d < S 0 → 0 ≤ lo d → Cn S w d (lo d)) ∧
  (∀ j, act S w j → (0 ≤ lo (jn S j 0) → lo (jn S j 0) < r → lo (jn S j 1) = lo (jn S j 0)) ∧ (0 ≤ lo (jn S j 1) → lo (jn S j 1) < r → lo (jn S j 0) = lo (jn S j 1))) ∧
  (∀ d, 0 ≤ d → d < S 0 → 0 ≤ lo d → 0 < dn d ∧ up d ≠ 0 ∧ Int.gcd (up d) (dn d) = 1 ∧ (lo d = d → up d = 1 ∧ dn d = 1)) ∧
  (∀ p q : Int → Int, (∀ i, q i ≠ 0) → ∀ s, (∀ j, act S w j → Cn S w (jn S j 0) s → compat S p q j) → p s = q s → ∀ d, 0 ≤ d → d < S 0 → 0 ≤ lo d → lo d = s → p d * dn d = up d * q d) ∧
  (∃ (used : Nat → Bool) (F E : Int → Int) (B : Int), B = 60 ^ cntB used (S 1).toNat ∧ (∀ j : Nat, used j = true → (j : Int) < S 1 ∧ axl S j = true ∧ 0 ≤ lo (jn S j 0) ∧ 0 ≤ lo (jn S j 1)) ∧
    (∀ d, (0 < F d ∧ F d ≤ B) ∧ (0 < E d ∧ E d ≤ B) ∧ F d * E d = prdB (axp S used) (S 1).toNat) ∧
    (∀ d, 0 ≤ d → d < S 0 → 0 ≤ lo d → -B ≤ up d ∧ up d ≤ B ∧ dn d ≤ B) ∧
    (∀ p d, 0 ≤ p → p < S 0 → 0 ≤ d → d < S 0 → 0 ≤ lo d → lo p = lo d → ∃ m : Int, m * (dn d * up p) = F d * (up d * dn p) ∧ -B ≤ m ∧ m ≤ B))
theorem HI_start {S : Int → Int} {w : Int} {lo up dn : Int → Int} (h : ∀ d, 0 ≤ d → d < S 0 → lo d = -1) : HI S w 0 0 lo up dn := by
  have hc : ∀ n, cntB (fun _ => false) n = 0 := by
    intro n; induction n with
    | zero => rfl
    | succ n ih => unfold cntB; rw [ih]; simp
  have hp : ∀ n, prdB (axp S (fun _ => false)) n = 1 := by
    intro n; induction n with
    | zero => rfl
    | succ n ih => unfold prdB; rw [ih]; simp [axp]
  refine ⟨fun d h1 h2 => Or.inl (h d h1 h2), fun d h1 h2 => by omega, fun d h1 h2 h3 => ?_, ?_, fun d h1 h2 h3 => ?_, fun p q _ s _ _ d h1 h2 h3 => ?_, fun _ => false, fun _ => 1, fun _ => 1, 1, by rw [hc]; rfl, fun j hj => by simp at hj, fun d => ⟨⟨Int.zero_lt_one, Int.le_refl 1⟩, ⟨Int.zero_lt_one, Int.le_refl 1⟩, by rw [hp]; rfl⟩, fun d h1 h2 h3 => ?_, fun p d _ _ h1 h2 h3 => ?_⟩
  · have := h d h1 h2; omega
  · intro j hj
    constructor <;> intro a b <;> omega
  · have := h d h1 h2; omega
  · have := h d h1 h2; omega
  · have := h d h1 h2; omega
  · have := h d h1 h2; omega
theorem act_rng {S : Int → Int} {w j : Int} (hS : StrOK S) (hj : act S w j) : (0 ≤ jn S j 0 ∧ jn S j 0 < S 0) ∧ (0 ≤ jn S j 1 ∧ jn S j 1 < S 0) ∧ jn S j 0 ≠ jn S j 1 ∧ (0 ≤ jn S j 2 ∧ jn S j 2 ≤ 2) := hS.2.2.2.1 j hj.1 hj.2.1
theorem HI_skip {S : Int → Int} {w d : Int} {lo up dn : Int → Int} (hS : StrOK S) (h : HI S w d d lo up dn) (hd : 0 ≤ lo d) : HI S w (d + 1) (d + 1) lo up dn := by
  obtain ⟨a1, a2, a3, a4, b1, b2, c⟩ := h
  refine ⟨fun x h1 h2 => ?_, fun x h1 h2 h3 => ?_, a3, fun j hj => ?_, b1, b2, c⟩
  · rcases a1 x h1 h2 with q | q
    · exact Or.inl q
    · exact Or.inr ⟨q.1, q.2.1, by omega, q.2.2.2⟩
  · by_cases e : x = d
    · rw [e]; exact hd
    · exact a2 x h1 (by omega) h3
  · obtain ⟨ra, rb, -, -⟩ := act_rng hS hj
    have x1 := a1 _ ra.1 ra.2
    have x2 := a1 _ rb.1 rb.2
    exact ⟨fun h1 h2 => (a4 j hj).1 h1 (by omega), fun h1 h2 => (a4 j hj).2 h1 (by omega)⟩
theorem HI_close {S : Int → Int} {w r : Int} {lo up dn : Int → Int} (hS : StrOK S) (h : HI S w (r + 1) r lo up dn) (hc : ∀ j, act S w j → (0 ≤ lo (jn S j 0) ↔ 0 ≤ lo (jn S j 1))) : HI S w (r + 1) (r + 1) lo up dn := by
  obtain ⟨a1, a2, a3, a4, b1, b2, c⟩ := h
  refine ⟨a1, a2, a3, fun j hj => ?_, b1, b2, c⟩
  obtain ⟨ra, rb, -, -⟩ := act_rng hS hj
  have x1 := a1 _ ra.1 ra.2
  have x2 := a1 _ rb.1 rb.2
  have y := hc j hj
  have z := a4 j hj
  constructor
  · intro h1 h2
    have h3 := y.mp h1
    by_cases e : lo (jn S j 0) < r
    · exact z.1 h1 e
    · by_cases e2 : lo (jn S j 1) < r
      · have := z.2 h3 e2; omega
      · omega
  · intro h1 h2
    have h3 := y.mpr h1
    by_cases e : lo (jn S j 1) < r
    · exact z.2 h1 e
    · by_cases e2 : lo (jn S j 0) < r
      · have := z.1 h3 e2; omega
      · omega
theorem HI_root {S : Int → Int} {w d : Int} {lo up dn : Int → Int} (hS : StrOK S) (h : HI S w d d lo up dn) (h0 : 0 ≤ d) (hD : d < S 0) (hd : lo d = -1) : HI S w (d + 1) d (fset lo d d) (fset up d 1) (fset dn d 1) := by
  obtain ⟨a1, a2, a3, a4, b1, b2, used, F, E, B, cB, c1, c2, c3, c4⟩ := h
  refine ⟨fun x h1 h2 => ?_, fun x h1 h2 h3 => ?_, fun x h1 h2 h3 => ?_, fun j hj => ?_, fun x h1 h2 h3 => ?_, fun p q hq s hcm hps x h1 h2 h3 h4 => ?_, used, F, E, B, cB, fun j hj => ?_, c2, fun x h1 h2 h3 => ?_, fun p x p1 p2 h1 h2 h3 h4 => ?_⟩
  · by_cases e : x = d
    · subst e
      rw [fset_same, fset_same]
      exact Or.inr ⟨h0, Int.le_refl _, by omega, rfl⟩
    · rw [fset_ne _ e]
      rcases a1 x h1 h2 with q | q
      · exact Or.inl q
      · rw [fset_ne _ (show lo x ≠ d by omega)]
        exact Or.inr ⟨q.1, q.2.1, by omega, q.2.2.2⟩
  · by_cases e : x = d
    · subst e; rw [fset_same]; exact h0
    · rw [fset_ne _ e]; exact a2 x h1 (by omega) h3
  · by_cases e : x = d
    · subst e; rw [fset_same]; exact fun f _ => rfl
    · rw [fset_ne _ e] at h3 ⊢; exact a3 x h1 h2 h3
  · obtain ⟨ra, rb, -, -⟩ := act_rng hS hj
    obtain ⟨y1, y2⟩ := a4 j hj
    constructor
    · intro h1 h2
      by_cases e : jn S j 0 = d
      · rw [e, fset_same] at h2; omega
      · rw [fset_ne _ e] at h1 h2 ⊢
        have h3 := y1 h1 h2
        rw [fset_ne _ (fun q => by rw [q] at h3; omega)]
        exact h3
    · intro h1 h2
      by_cases e : jn S j 1 = d
      · rw [e, fset_same] at h2; omega
      · rw [fset_ne _ e] at h1 h2 ⊢
        have h3 := y2 h1 h2
        rw [fset_ne _ (fun q => by rw [q] at h3; omega)]
        exact h3
  · by_cases e : x = d
    · subst e; rw [fset_same, fset_same, fset_same]; exact ⟨by decide, by decide, by decide, fun _ => ⟨rfl, rfl⟩⟩
    · rw [fset_ne _ e] at h3; rw [fset_ne _ e, fset_ne _ e, fset_ne _ e]; exact b1 x h1 h2 h3
  · by_cases e : x = d
    · subst e
      rw [fset_same] at h4; subst h4
      rw [fset_same, fset_same, hps]; omega
    · rw [fset_ne _ e] at h3 h4; rw [fset_ne _ e, fset_ne _ e]; exact b2 p q hq s hcm hps x h1 h2 h3 h4
  · obtain ⟨z1, z2, z3, z4⟩ := c1 j hj
    refine ⟨z1, z2, ?_, ?_⟩
    · rw [fset_ne _ (fun q => by rw [q] at z3; omega)]; exact z3
    · rw [fset_ne _ (fun q => by rw [q] at z4; omega)]; exact z4
  · by_cases e : x = d
    · subst e; rw [fset_same, fset_same]
      have := c2 x; omega
    · rw [fset_ne _ e] at h3; rw [fset_ne _ e, fset_ne _ e]; exact c3 x h1 h2 h3
  · by_cases e : x = d
    · subst e
      rw [fset_same] at h3 h4
      have ep : p = x := by
        by_cases e2 : p = x
        · exact e2
        · rw [fset_ne _ e2] at h4
          rcases a1 p p1 p2 with q | q <;> omega
      subst ep
      rw [fset_same, fset_same]
      exact ⟨F p, rfl, by have := c2 p; omega, by have := c2 p; omega⟩
    · rw [fset_ne _ e] at h3 h4
      have e2 : p ≠ d := fun q => by
        subst q
        rw [fset_same] at h4
        rcases a1 x h1 h2 with q | q <;> omega
      rw [fset_ne _ e2] at h4
      rw [fset_ne _ e, fset_ne _ e, fset_ne _ e2, fset_ne _ e2]
      exact c4 p x p1 p2 h1 h2 h3 h4
/-- a fraction in lowest terms -/
theorem lw_spec {a b : Int} (ha : a ≠ 0) (hb : 0 < b) : 0 < lw a b 1 ∧ lw a b 0 ≠ 0 ∧ Int.gcd (lw a b 0) (lw a b 1) = 1 ∧ lw a b 0 * b = a * lw a b 1 ∧ lw a b 1 ≤ b ∧ (0 ≤ a → 0 ≤ lw a b 0 ∧ lw a b 0 ≤ a) ∧ (a ≤ 0 → a ≤ lw a b 0 ∧ lw a b 0 ≤ 0) := by
  have hg : 0 < Int.gcd a b := Int.gcd_pos_of_ne_zero_left _ ha
  have hg' : (0 : Int) < ((Int.gcd a b : Nat) : Int) := by omega
  obtain ⟨x, hx⟩ : ((Int.gcd a b : Nat) : Int) ∣ a := Int.gcd_dvd_left ..
  obtain ⟨y, hy⟩ : ((Int.gcd a b : Nat) : Int) ∣ b := Int.gcd_dvd_right ..
  have e0 : lw a b 0 = x := by
    unfold lw
    rw [if_pos rfl]
    conv => lhs; lhs; rw [hx]
    exact Int.mul_tdiv_cancel_left _ (by omega)
  have e1 : lw a b 1 = y := by
    unfold lw
    rw [if_neg (by decide)]
    conv => lhs; lhs; rw [hy]
    exact Int.mul_tdiv_cancel_left _ (by omega)
  rw [e0, e1]
  have hy0 : 0 < y := by
    rcases Int.lt_trichotomy y 0 with h | h | h
    · have := Int.mul_neg_of_pos_of_neg hg' h; omega
    · subst h; omega
    · exact h
  refine ⟨hy0, fun h => ha (by rw [hx, h, Int.mul_zero]), ?_, ?_, ?_, ?_, ?_⟩
  · have h1 : Int.gcd a b = Int.gcd (((Int.gcd a b : Nat) : Int) * x) (((Int.gcd a b : Nat) : Int) * y) := by rw [← hx, ← hy]
    rw [Int.gcd_mul_left] at h1
    have h2 : Int.gcd a b * 1 = Int.gcd a b * Int.gcd x y := by
      rw [Nat.mul_one]
      simpa using h1
    exact (Nat.eq_of_mul_eq_mul_left hg h2).symm
  · conv => lhs; rw [hy]
    conv => rhs; rw [hx]
    rw [Int.mul_comm x, Int.mul_assoc, Int.mul_assoc, Int.mul_comm y x]
  · have : y * 1 ≤ y * ((Int.gcd a b : Nat) : Int) := Int.mul_le_mul_of_nonneg_left (by omega) (by omega)
    rw [Int.mul_one, Int.mul_comm y ((Int.gcd a b : Nat) : Int), ← hy] at this; exact this
  · intro h
    have hx0 : 0 ≤ x := by
      rcases Int.lt_or_le x 0 with q | q
      · have := Int.mul_neg_of_pos_of_neg hg' q; omega
      · exact q
    refine ⟨hx0, ?_⟩
    have : x * 1 ≤ x * ((Int.gcd a b : Nat) : Int) := Int.mul_le_mul_of_nonneg_left (by omega) hx0
    rw [Int.mul_one, Int.mul_comm x ((Int.gcd a b : Nat) : Int), ← hx] at this; exact this
  · intro h
    have hx0 : x ≤ 0 := by
      rcases Int.lt_or_le 0 x with q | q
      · have := Int.mul_pos hg' q; omega
      · exact q
    refine ⟨?_, hx0⟩
    have : (-x) * 1 ≤ (-x) * ((Int.gcd a b : Nat) : Int) := Int.mul_le_mul_of_nonneg_left (by omega) (by omega)
    rw [Int.mul_one, Int.neg_mul, Int.mul_comm x ((Int.gcd a b : Nat) : Int), ← hx] at this; omega

/-- a join's two numbers: a sign, and the teeth -/
theorem ab_split {S : Int → Int} {j f t : Int} (hf : 4 ≤ tee S f ∧ tee S f ≤ 60) (ht : 4 ≤ tee S t ∧ tee S t ≤ 60) : ∃ ε x y : Int, (ε = 1 ∨ ε = -1) ∧ abv S j t = ε * x ∧ blw S j f = y ∧ (1 ≤ x ∧ x ≤ 60) ∧ (1 ≤ y ∧ y ≤ 60) ∧ (jn S j 2 = 2 → x = tee S t ∧ y = tee S f) ∧ (jn S j 2 ≠ 2 → x = 1 ∧ y = 1) := by
  unfold abv blw
  by_cases h2 : jn S j 2 = 2
  · exact ⟨1, tee S t, tee S f, Or.inl rfl, by rw [if_pos h2, Int.one_mul], by rw [if_pos h2], ⟨by omega, by omega⟩, ⟨by omega, by omega⟩, fun _ => ⟨rfl, rfl⟩, fun h => absurd h2 h⟩
  · by_cases h0 : jn S j 2 = 0
    · exact ⟨-1, 1, 1, Or.inr rfl, by rw [if_neg h2, if_pos h0]; rfl, by rw [if_neg h2], by decide, by decide, fun h => absurd h h2, fun _ => ⟨rfl, rfl⟩⟩
    · exact ⟨1, 1, 1, Or.inl rfl, by rw [if_neg h2, if_neg h0]; rfl, by rw [if_neg h2], by decide, by decide, fun h => absurd h h2, fun _ => ⟨rfl, rfl⟩⟩
theorem compat_dir {S p q : Int → Int} {j f t : Int} (h : compat S p q j) (hft : (f = jn S j 0 ∧ t = jn S j 1) ∨ (f = jn S j 1 ∧ t = jn S j 0)) : p t * q f * blw S j f = p f * q t * abv S j t := by
  unfold compat at h
  unfold abv blw at *
  rcases hft with ⟨rfl, rfl⟩ | ⟨rfl, rfl⟩
  · exact h
  · by_cases h2 : jn S j 2 = 2
    · simp only [if_pos h2] at h ⊢
      exact h.symm
    · simp only [if_neg h2] at h ⊢
      by_cases h0 : jn S j 2 = 0
      · simp only [if_pos h0] at h ⊢
        grind
      · simp only [if_neg h0] at h ⊢
        grind
theorem sgn_mul {m x B k : Int} (h1 : -B ≤ m ∧ m ≤ B) (h2 : 1 ≤ x ∧ x ≤ k) : -(B * k) ≤ m * x ∧ m * x ≤ B * k := by
  have hB : 0 ≤ B := by omega
  have e : B * x ≤ B * k := Int.mul_le_mul_of_nonneg_left h2.2 hB
  have e1 : m * x ≤ B * x := Int.mul_le_mul_of_nonneg_right h1.2 (by omega)
  have e2 : (-B) * x ≤ m * x := Int.mul_le_mul_of_nonneg_right h1.1 (by omega)
  rw [Int.neg_mul] at e2
  omega
theorem eps_mul {ε m B : Int} (hε : ε = 1 ∨ ε = -1) (h : -B ≤ m ∧ m ≤ B) : -B ≤ ε * m ∧ ε * m ≤ B := by
  rcases hε with rfl | rfl <;> omega
theorem cancel {a b c : Int} (hc : c ≠ 0) (h : a * c = b * c) : a = b := Int.eq_of_mul_eq_mul_right hc h
theorem HI_hang {S : Int → Int} {w r j f t : Int} {lo up dn : Int → Int} (hS : StrOK S) (h : HI S w (r + 1) r lo up dn) (hj : act S w j) (hft : (f = jn S j 0 ∧ t = jn S j 1) ∨ (f = jn S j 1 ∧ t = jn S j 0)) (hf : 0 ≤ lo f) (ht : lo t = -1) :
    lo f = r ∧ HI S w (r + 1) r (fset lo t r) (fset up t (lw (up f * abv S j t) (dn f * blw S j f) 0)) (fset dn t (lw (up f * abv S j t) (dn f * blw S j f) 1)) := by
  obtain ⟨a1, a2, a3, a4, b1, b2, used, F, E, B, cB, c1, c2, c3, c4⟩ := h
  obtain ⟨ra, rb, rne, rk⟩ := act_rng hS hj
  have rf : 0 ≤ f ∧ f < S 0 := by rcases hft with ⟨rfl, rfl⟩ | ⟨rfl, rfl⟩ <;> assumption
  have rt : 0 ≤ t ∧ t < S 0 := by rcases hft with ⟨rfl, rfl⟩ | ⟨rfl, rfl⟩ <;> assumption
  have hne : f ≠ t := by rcases hft with ⟨rfl, rfl⟩ | ⟨rfl, rfl⟩ <;> omega
  have xf := a1 f rf.1 rf.2
  have hr : lo f = r := by
    rcases Int.lt_or_le (lo f) r with q | q
    · exfalso
      rcases hft with ⟨rfl, rfl⟩ | ⟨rfl, rfl⟩
      · have := (a4 j hj).1 hf q; omega
      · have := (a4 j hj).2 hf q; omega
    · omega
  have hlr : lo r = r := by
    rcases xf with q | q
    · omega
    · have := q.2.2.2; rw [hr] at this; exact this
  have htr : r < t := by
    rcases Int.lt_or_le r t with q | q
    · exact q
    · have := a2 t rt.1 (by omega) rt.2; omega
  have hfe : ∀ (g : Int → Int), lab S w g → g t = g f := by
    intro g hg
    have := hg j hj
    rcases hft with ⟨rfl, rfl⟩ | ⟨rfl, rfl⟩
    · exact this.symm
    · exact this
  have hcf : Cn S w f r := by have := a3 f rf.1 rf.2 hf; rwa [hr] at this
  obtain ⟨tf1, tf2⟩ := hS.2.2.1 f rf.1 rf.2
  obtain ⟨tt1, tt2⟩ := hS.2.2.1 t rt.1 rt.2
  obtain ⟨ε, x, y, hε, hab, hbl, hx, hy, hax, hnx⟩ := ab_split (S := S) (j := j) (f := f) (t := t) tf1 tt1
  obtain ⟨bf1, bf2, bf3, bf4⟩ := b1 f rf.1 rf.2 hf
  have hA : up f * abv S j t ≠ 0 := by
    rw [hab]
    refine Int.mul_ne_zero bf2 (Int.mul_ne_zero ?_ (by omega))
    rcases hε with rfl | rfl <;> decide
  have hB : 0 < dn f * blw S j f := by rw [hbl]; exact Int.mul_pos bf1 (by omega)
  obtain ⟨l1, l2, l3, l4, l5, l6, l7⟩ := lw_spec hA hB
  generalize lw (up f * abv S j t) (dn f * blw S j f) 0 = U at *
  generalize lw (up f * abv S j t) (dn f * blw S j f) 1 = N at *
  have star : U * (dn f * y) = up f * (ε * x) * N := by rw [← hbl, ← hab]; exact l4
  refine ⟨hr, fun z h1 h2 => ?_, fun z h1 h2 h3 => ?_, fun z h1 h2 h3 => ?_, fun i hi => ?_, fun z h1 h2 h3 => ?_, fun p q hq s hcm hps z h1 h2 h3 h4 => ?_, ?_⟩
  · by_cases e : z = t
    · subst e
      rw [fset_same, fset_ne _ (by omega)]
      exact Or.inr ⟨by omega, by omega, by omega, hlr⟩
    · rw [fset_ne _ e]
      rcases a1 z h1 h2 with q | q
      · exact Or.inl q
      · rw [fset_ne _ (fun k => by have := q.2.2.2; rw [k] at this; omega)]
        exact Or.inr q
  · by_cases e : z = t
    · subst e; omega
    · rw [fset_ne _ e]; exact a2 z h1 h2 h3
  · by_cases e : z = t
    · subst e; rw [fset_same]
      exact fun g hg => (hfe g hg).trans (hcf g hg)
    · rw [fset_ne _ e] at h3 ⊢; exact a3 z h1 h2 h3
  · obtain ⟨y1, y2⟩ := a4 i hi
    constructor
    · intro h1 h2
      by_cases e : jn S i 0 = t
      · rw [e, fset_same] at h2; omega
      · rw [fset_ne _ e] at h1 h2 ⊢
        have h3 := y1 h1 h2
        rw [fset_ne _ (fun q => by rw [q] at h3; omega)]
        exact h3
    · intro h1 h2
      by_cases e : jn S i 1 = t
      · rw [e, fset_same] at h2; omega
      · rw [fset_ne _ e] at h1 h2 ⊢
        have h3 := y2 h1 h2
        rw [fset_ne _ (fun q => by rw [q] at h3; omega)]
        exact h3
  · by_cases e : z = t
    · subst e; rw [fset_same, fset_same, fset_same]
      exact ⟨l1, l2, l3, fun q => by omega⟩
    · rw [fset_ne _ e] at h3; rw [fset_ne _ e, fset_ne _ e, fset_ne _ e]; exact b1 z h1 h2 h3
  · by_cases e : z = t
    · subst e
      rw [fset_same] at h4; subst h4
      rw [fset_same, fset_same]
      have hcj : compat S p q j := by
        refine hcm j hj ?_
        rcases hft with ⟨rfl, rfl⟩ | ⟨rfl, rfl⟩
        · exact hcf
        · exact fun g hg => (hfe g hg).trans (hcf g hg)
      have k1 := compat_dir hcj hft
      rw [hab, hbl] at k1
      have k2 := b2 p q hq r hcm hps f rf.1 rf.2 hf hr
      have k3 := hq f
      apply cancel (c := q f * y * dn f) (Int.mul_ne_zero (Int.mul_ne_zero k3 (by omega)) (by omega))
      grind
    · rw [fset_ne _ e] at h3 h4; rw [fset_ne _ e, fset_ne _ e]; exact b2 p q hq s hcm hps z h1 h2 h3 h4
  · have hjn : ((j.toNat : Nat) : Int) = j := by have := hj.1; omega
    have hjl : j.toNat < (S 1).toNat := by have := hj.2.1; omega
    have hu : ∃ (used' : Nat → Bool) (k : Int), 1 ≤ k ∧ x ≤ k ∧ y ≤ k ∧ B * k = 60 ^ cntB used' (S 1).toNat ∧ prdB (axp S used') (S 1).toNat = prdB (axp S used) (S 1).toNat * (x * y) ∧ (∀ i : Nat, used' i = true → (i : Int) < S 1 ∧ axl S i = true ∧ 0 ≤ fset lo t r (jn S i 0) ∧ 0 ≤ fset lo t r (jn S i 1)) := by
      have hold : ∀ i : Nat, used i = true → (i : Int) < S 1 ∧ axl S i = true ∧ 0 ≤ fset lo t r (jn S i 0) ∧ 0 ≤ fset lo t r (jn S i 1) := by
        intro i hi
        obtain ⟨z1, z2, z3, z4⟩ := c1 i hi
        refine ⟨z1, z2, ?_, ?_⟩
        · rw [fset_ne _ (fun q => by rw [q] at z3; omega)]; exact z3
        · rw [fset_ne _ (fun q => by rw [q] at z4; omega)]; exact z4
      by_cases h2 : jn S j 2 = 2
      · obtain ⟨hx2, hy2⟩ := hax h2
        have hju : used j.toNat = false := by
          cases hq : used j.toNat with
          | false => rfl
          | true =>
            obtain ⟨z1, z2, z3, z4⟩ := c1 _ hq
            rw [hjn] at z3 z4
            rcases hft with ⟨rfl, rfl⟩ | ⟨rfl, rfl⟩ <;> omega
        refine ⟨fun i => if i = j.toNat then true else used i, 60, by decide, hx.2, hy.2, ?_, ?_, ?_⟩
        · rw [cntB_set hju _ hjl, Int.pow_succ, cB]
        · have e1 : prdB (axp S (fun i => if i = j.toNat then true else used i)) (S 1).toNat = prdB (fun i => if i = j.toNat then x * y else axp S used i) (S 1).toNat := by
            apply prdB_congr
            intro i hi
            unfold axp
            by_cases e : i = j.toNat
            · subst e
              rw [if_pos (by simp), if_pos rfl, hjn, hx2, hy2]
              rcases hft with ⟨rfl, rfl⟩ | ⟨rfl, rfl⟩
              · exact Int.mul_comm _ _
              · rfl
            · simp [e]
          rw [e1, prdB_set (by unfold axp; rw [hju]; simp) _ hjl]
        · intro i hi
          by_cases e : i = j.toNat
          · subst e
            rw [hjn]
            refine ⟨hj.2.1, by unfold axl; rw [hjn]; simpa using h2, ?_, ?_⟩
            · rcases hft with ⟨e1, e2⟩ | ⟨e1, e2⟩
              · rw [← e1, fset_ne _ hne]; exact hf
              · rw [← e2, fset_same]; omega
            · rcases hft with ⟨e1, e2⟩ | ⟨e1, e2⟩
              · rw [← e2, fset_same]; omega
              · rw [← e1, fset_ne _ hne]; exact hf
          · simp [e] at hi; exact hold i hi
      · obtain ⟨hx1, hy1⟩ := hnx h2
        exact ⟨used, 1, by decide, by omega, by omega, by rw [Int.mul_one]; exact cB, by rw [hx1, hy1]; omega, hold⟩
    obtain ⟨used', k, hk, hxk, hyk, hB', hP', hU'⟩ := hu
    have hB0 : 0 < B := by have := c2 0; omega
    have hBk : B ≤ B * k := by
      have := Int.mul_le_mul_of_nonneg_left hk (Int.le_of_lt hB0); omega
    have mle : ∀ {a c : Int}, 0 < a → a ≤ B → 1 ≤ c → c ≤ k → 0 < a * c ∧ a * c ≤ B * k := by
      intro a c h1 h2 h3 h4
      exact ⟨Int.mul_pos h1 (by omega), Int.mul_le_mul h2 h4 (by omega) (by omega)⟩
    refine ⟨used', fun z => if z = t then F f * y else F z * x, fun z => if z = t then E f * x else E z * y, B * k, hB', hU', fun z => ?_, fun z h1 h2 h3 => ?_, fun p z p1 p2 h1 h2 h3 h4 => ?_⟩
    · dsimp only
      by_cases e : z = t
      · rw [if_pos e, if_pos e]
        obtain ⟨f1, f2, f3⟩ := c2 f
        refine ⟨mle f1.1 f1.2 hy.1 hyk, mle f2.1 f2.2 hx.1 hxk, ?_⟩
        rw [hP', ← f3]; grind
      · rw [if_neg e, if_neg e]
        obtain ⟨f1, f2, f3⟩ := c2 z
        refine ⟨mle f1.1 f1.2 hx.1 hxk, mle f2.1 f2.2 hy.1 hyk, ?_⟩
        rw [hP', ← f3]; grind
    · by_cases e : z = t
      · subst e
        rw [fset_same, fset_same]
        obtain ⟨g1, g2, g3⟩ := c3 f rf.1 rf.2 hf
        have q1 := sgn_mul (eps_mul hε ⟨g1, g2⟩) ⟨hx.1, hxk⟩
        have q2 : up f * abv S j z = ε * up f * x := by rw [hab]; grind
        have q3 := mle bf1 g3 hy.1 hyk
        rw [hbl] at l5
        rw [q2] at l6 l7
        omega
      · rw [fset_ne _ e] at h3; rw [fset_ne _ e, fset_ne _ e]
        have := c3 z h1 h2 h3; omega
    · dsimp only
      by_cases e : z = t
      · subst e
        by_cases e2 : p = z
        · subst e2
          rw [if_pos rfl, fset_same, fset_same]
          have := mle (c2 f).1.1 (c2 f).1.2 hy.1 hyk
          exact ⟨F f * y, by grind, by omega, by omega⟩
        · rw [fset_same, fset_ne _ e2] at h4
          rw [if_pos rfl, fset_same, fset_same, fset_ne _ e2, fset_ne _ e2]
          obtain ⟨m, m1, m2⟩ := c4 p f p1 p2 rf.1 rf.2 hf (by rw [h4, hr])
          have q1 := sgn_mul (eps_mul hε m2) ⟨hx.1, hxk⟩
          refine ⟨ε * m * x, ?_, q1.1, q1.2⟩
          apply cancel (c := dn f) (by omega)
          grind
      · rw [fset_ne _ e] at h3
        by_cases e2 : p = t
        · subst e2
          rw [fset_same, fset_ne _ e] at h4
          rw [if_neg e, fset_same, fset_same, fset_ne _ e, fset_ne _ e]
          obtain ⟨m, m1, m2⟩ := c4 f z rf.1 rf.2 h1 h2 h3 (by rw [← h4, hr])
          have q1 := sgn_mul (eps_mul hε m2) ⟨hy.1, hyk⟩
          refine ⟨ε * m * y, ?_, q1.1, q1.2⟩
          apply cancel (c := dn f) (by omega)
          rcases hε with rfl | rfl <;> grind
        · rw [fset_ne _ e2, fset_ne _ e] at h4
          rw [if_neg e, fset_ne _ e, fset_ne _ e, fset_ne _ e2, fset_ne _ e2]
          obtain ⟨m, m1, m2⟩ := c4 p z p1 p2 h1 h2 h3 h4
          have q1 := sgn_mul m2 ⟨hx.1, hxk⟩
          exact ⟨m * x, by grind, q1.1, q1.2⟩
