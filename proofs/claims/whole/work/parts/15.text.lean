/-! texts: runs of signs, words, numbers -/
def rnf (p : Int → Bool) (n : Int) : Nat → Int → Int
  | 0, k => k
  | f + 1, k => if k < n ∧ p k = true then rnf p n f (k + 1) else k
/-- the first place from k on that is not of the kind, or the end -/
def rn (p : Int → Bool) (n k : Int) : Int := rnf p n (n - k).toNat k
theorem rnf_more (p : Int → Bool) (n : Int) : ∀ (f g : Nat) (k : Int), (n - k).toNat ≤ f → (n - k).toNat ≤ g → rnf p n f k = rnf p n g k
  | 0, 0, k, _, _ => rfl
  | 0, g + 1, k, h1, _ => by
    rw [show rnf p n (g + 1) k = if k < n ∧ p k = true then rnf p n g (k + 1) else k from rfl, if_neg (fun h => by omega)]; rfl
  | f + 1, 0, k, _, h2 => by
    rw [show rnf p n (f + 1) k = if k < n ∧ p k = true then rnf p n f (k + 1) else k from rfl, if_neg (fun h => by omega)]; rfl
  | f + 1, g + 1, k, h1, h2 => by
    rw [show rnf p n (f + 1) k = if k < n ∧ p k = true then rnf p n f (k + 1) else k from rfl, show rnf p n (g + 1) k = if k < n ∧ p k = true then rnf p n g (k + 1) else k from rfl]
    by_cases h : k < n ∧ p k = true
    · rw [if_pos h, if_pos h]
      exact rnf_more p n f g (k + 1) (by omega) (by omega)
    · rw [if_neg h, if_neg h]
theorem rn_step {p : Int → Bool} {n k : Int} (h : k < n) (h2 : p k = true) : rn p n k = rn p n (k + 1) := by
  unfold rn
  rw [rnf_more p n (n - k).toNat ((n - (k + 1)).toNat + 1) k (Nat.le_refl _) (by omega)]
  exact if_pos ⟨h, h2⟩
theorem rn_stop {p : Int → Bool} {n k : Int} (h : ¬ (k < n ∧ p k = true)) : rn p n k = k := by
  unfold rn
  rw [rnf_more p n (n - k).toNat ((n - k).toNat + 1) k (Nat.le_refl _) (by omega)]
  exact if_neg h
theorem rn_spec (p : Int → Bool) (n : Int) : ∀ (f : Nat) (k : Int), (n - k).toNat ≤ f → k ≤ rn p n k ∧ (k ≤ n → rn p n k ≤ n) ∧ ¬ (rn p n k < n ∧ p (rn p n k) = true) ∧ ∀ j, k ≤ j → j < rn p n k → j < n ∧ p j = true
  | 0, k, h => by
    have e := rn_stop (p := p) (n := n) (k := k) (fun q => by omega)
    rw [e]
    exact ⟨Int.le_refl _, fun h => h, fun q => by omega, fun j h1 h2 => by omega⟩
  | f + 1, k, h => by
    by_cases hc : k < n ∧ p k = true
    · rw [rn_step hc.1 hc.2]
      obtain ⟨a, b, c, d⟩ := rn_spec p n f (k + 1) (by omega)
      refine ⟨by omega, fun _ => b (by omega), c, fun j h1 h2 => ?_⟩
      by_cases e : j = k
      · subst e; exact hc
      · exact d j (by omega) h2
    · rw [rn_stop hc]
      exact ⟨Int.le_refl _, fun h => h, hc, fun j h1 h2 => by omega⟩
theorem rn_ge (p : Int → Bool) (n k : Int) : k ≤ rn p n k := (rn_spec p n _ k (Nat.le_refl _)).1
theorem rn_le {p : Int → Bool} {n k : Int} (h : k ≤ n) : rn p n k ≤ n := (rn_spec p n _ k (Nat.le_refl _)).2.1 h
theorem rn_end (p : Int → Bool) (n k : Int) : ¬ (rn p n k < n ∧ p (rn p n k) = true) := (rn_spec p n _ k (Nat.le_refl _)).2.2.1
theorem rn_all {p : Int → Bool} {n k j : Int} (h1 : k ≤ j) (h2 : j < rn p n k) : j < n ∧ p j = true := (rn_spec p n _ k (Nat.le_refl _)).2.2.2 j h1 h2
theorem rn_idem (p : Int → Bool) (n k : Int) : rn p n (rn p n k) = rn p n k := rn_stop (rn_end p n k)
theorem rn_uniq {p : Int → Bool} {n k e : Int} (h1 : k ≤ e) (h2 : ∀ j, k ≤ j → j < e → j < n ∧ p j = true) (h3 : ¬ (e < n ∧ p e = true)) : rn p n k = e := by
  have a := rn_ge p n k
  rcases Int.lt_trichotomy (rn p n k) e with h | h | h
  · exact absurd (h2 _ a h) (rn_end p n k)
  · exact h
  · exact absurd (rn_all h1 h) h3
theorem rn_congr {p q : Int → Bool} {n k : Int} (h0 : 0 ≤ k) (h : ∀ j, 0 ≤ j → j < n → p j = q j) : rn p n k = rn q n k := by
  refine rn_uniq (rn_ge q n k) (fun j h1 h2 => ?_) (fun hc => ?_)
  · obtain ⟨a, b⟩ := rn_all h1 h2
    exact ⟨a, by rw [h j (by omega) a]; exact b⟩
  · have := rn_ge q n k
    rw [h _ (by omega) hc.1] at hc
    exact rn_end q n k hc
abbrev isB (A : Int → Int) (k : Int) : Bool := decide (A k = 32)
abbrev isLt (A : Int → Int) (k : Int) : Bool := decide (97 ≤ A k ∧ A k ≤ 122)
abbrev isDg (A : Int → Int) (k : Int) : Bool := decide (48 ≤ A k ∧ A k ≤ 57)
/-- behind the blanks; behind the letters; behind the digits -/
abbrev sk (A : Int → Int) (n k : Int) : Int := rn (isB A) n k
abbrev lend (A : Int → Int) (n k : Int) : Int := rn (isLt A) n k
abbrev dend (A : Int → Int) (n k : Int) : Int := rn (isDg A) n k
/-- a number's first digits -/
def dv (A : Int → Int) (k : Int) : Nat → Int
  | 0 => 0
  | m + 1 => 10 * dv A k m + A (k + m) - 48
abbrev dval (A : Int → Int) (k e : Int) : Int := dv A k (if e - k < 5 then (e - k).toNat else 5)
theorem dv_bd {A : Int → Int} {n k e : Int} (he : dend A n k = e) : ∀ m : Nat, k + m ≤ e → m ≤ 5 → 0 ≤ dv A k m ∧ dv A k m < 10 ^ m
  | 0, _, _ => by constructor <;> simp [dv]
  | m + 1, h1, h2 => by
    obtain ⟨a, b⟩ := dv_bd he m (by omega) (by omega)
    have hd := (rn_all (p := isDg A) (n := n) (k := k) (j := k + m) (by omega) (by unfold dend at he; omega)).2
    simp only [decide_eq_true_eq] at hd
    rw [show dv A k (m + 1) = 10 * dv A k m + A (k + m) - 48 from rfl, Int.pow_succ]
    omega
/-- letters as a number of bytes -/
def lval (A : Int → Int) (k : Int) : Nat → Int
  | 0 => 0
  | m + 1 => 256 * lval A k m + A (k + m)
theorem ipow_le {c : Nat} (hc : 0 < c) {a b : Nat} (h : a ≤ b) : (c : Int) ^ a ≤ (c : Int) ^ b := by
  have := Nat.pow_le_pow_right hc h
  exact_mod_cast this
theorem pow256 {a b : Nat} (h : a ≤ b) : (256 : Int) ^ a ≤ 256 ^ b := ipow_le (c := 256) (by decide) h
