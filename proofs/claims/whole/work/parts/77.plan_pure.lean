/-! plans: pure -/
def DP (σ : BS) : Prop := DOWN σ.2.1 σ.2.2.2 ∧ 1 ≤ σ.2.2.2 ∧ σ.2.2.2 ≤ 2000
theorem DP.add {σ : BS} (h : DP σ) {b k c : Int} (hk : 0 ≤ k ∧ k < σ.2.2.2) (h2 : ¬ σ.2.2.2 = 2000) : DP (bsA σ b k c) := by
  obtain ⟨⟨d0, d1⟩, h0, h1⟩ := h
  refine ⟨⟨?_, fun s s0 s1 => ?_⟩, by show 1 ≤ σ.2.2.2 + 1; omega, by show σ.2.2.2 + 1 ≤ 2000; omega⟩
  · show fset σ.2.1 σ.2.2.2 k 0 = -1
    rw [fset_ne _ (by omega)]; exact d0
  · have s2 : s < σ.2.2.2 + 1 := s1
    show 0 ≤ fset σ.2.1 σ.2.2.2 k s ∧ fset σ.2.1 σ.2.2.2 k s < s
    by_cases e : s = σ.2.2.2
    · rw [e, fset_same]; exact hk
    · rw [fset_ne _ e]; exact d1 s s0 (by omega)
def OKR (m : Int) : (BS × Int) ⊕ BS → Prop
  | .inl r => DP r.1 ∧ (r.2 = -3 ∨ (0 < r.2 ∧ r.2 < r.1.2.2.2))
  | .inr τ => DP τ ∧ m ≤ τ.2.2.2
theorem OKR.mono {m m' : Int} (h : m' ≤ m) : ∀ {a : (BS × Int) ⊕ BS}, OKR m a → OKR m' a
  | .inl _, q => q
  | .inr _, q => ⟨q.1, Int.le_trans h q.2⟩
theorem spr_dp {SB WB : Int → Bool} {st x k d : Int} : ∀ (f : Nat) (n : Int) (σ : BS), DP σ → 0 ≤ k ∧ k < σ.2.2.2 → OKR σ.2.2.2 (spr SB WB st x k d f n σ)
  | 0, n, σ, h, _ => ⟨h, Int.le_refl _⟩
  | f + 1, n, σ, h, hk => by
    by_cases c1 : 60 < n
    · rw [spr_out c1]; exact ⟨h, Int.le_refl _⟩
    · by_cases c2 : n = 0 ∨ knB σ (x + n * st) = true ∨ SB (x + n * st) = false
      · rw [spr_skip c1 c2]; exact spr_dp f (n + 1) σ h hk
      · by_cases c3 : σ.2.2.2 = 2000
        · rw [spr_unk c1 c2 c3]; exact ⟨h, Or.inl rfl⟩
        · have q := h.add (b := x + n * st) (c := 1000 * d + 100 + n) hk c3
          by_cases c4 : WB (x + n * st) = true
          · rw [spr_win c1 c2 c3 c4]
            have h1 := h.2.1
            exact ⟨q, Or.inr ⟨by show 0 < σ.2.2.2; omega, by show σ.2.2.2 < σ.2.2.2 + 1; omega⟩⟩
          · rw [spr_go c1 c2 c3 c4]
            have r := spr_dp (SB := SB) (WB := WB) (st := st) (x := x) (k := k) (d := d) f (n + 1) _ q ⟨hk.1, by show k < σ.2.2.2 + 1; omega⟩
            exact r.mono (by show σ.2.2.2 ≤ σ.2.2.2 + 1; omega)
theorem drs_dp {SB WB al : Int → Bool} {st : Int → Int} {D k : Int} : ∀ (f : Nat) (d : Int) (σ : BS), DP σ → 0 ≤ k ∧ k < σ.2.2.2 → OKR σ.2.2.2 (drs SB WB al st D k f d σ)
  | 0, d, σ, h, _ => ⟨h, Int.le_refl _⟩
  | f + 1, d, σ, h, hk => by
    by_cases c1 : d < D
    · by_cases c2 : al d = true
      · have s := spr_dp (SB := SB) (WB := WB) (st := st d) (x := σ.1 k) (k := k) (d := d) 122 (-60) σ h hk
        cases e1 : spr SB WB (st d) (σ.1 k) k d 122 (-60) σ with
        | inl r => rw [drs_inl c1 c2 e1]; rw [e1] at s; exact s
        | inr τ =>
          rw [drs_inr c1 c2 e1]
          rw [e1] at s
          have s2 := s.2
          exact (drs_dp f (d + 1) τ s.1 ⟨hk.1, by omega⟩).mono s2
      · rw [drs_skip c1 c2]; exact drs_dp f (d + 1) σ h hk
    · rw [drs_out c1]; exact ⟨h, Int.le_refl _⟩
theorem sts_dp {SB WB al : Int → Bool} {st : Int → Int} {D : Int} : ∀ (f : Nat) (k : Int) (σ : BS), DP σ → 0 ≤ k → DP (sts SB WB al st D f k σ).1 ∧ ((sts SB WB al st D f k σ).2 = -2 ∨ (sts SB WB al st D f k σ).2 = -3 ∨ (0 < (sts SB WB al st D f k σ).2 ∧ (sts SB WB al st D f k σ).2 < (sts SB WB al st D f k σ).1.2.2.2))
  | 0, k, σ, h, _ => ⟨h, Or.inl rfl⟩
  | f + 1, k, σ, h, k0 => by
    by_cases c1 : k < σ.2.2.2
    · have s := drs_dp (SB := SB) (WB := WB) (al := al) (st := st) (D := D) 13 0 σ h ⟨k0, c1⟩
      cases e1 : drs SB WB al st D k 13 0 σ with
      | inl r => rw [sts_inl c1 e1]; rw [e1] at s; exact ⟨s.1, Or.inr s.2⟩
      | inr τ =>
        rw [sts_inr c1 e1]
        rw [e1] at s
        exact sts_dp f (k + 1) τ s.1 (by omega)
    · rw [sts_out c1]; exact ⟨h, Or.inl rfl⟩
theorem dpt_SR {F G : Int → Int} {m : Int} (hD : DOWN F m) (h : ∀ s, 0 ≤ s → s < m → F s = G s) : ∀ (f : Nat) (s : Int), 0 ≤ s → s < m → dpt F f s = dpt G f s
  | 0, _, _, _ => rfl
  | f + 1, s, s0, s1 => by
    have e := h s s0 s1
    have a := hD.all s0 s1
    by_cases c : F s < 0
    · rw [dpt_out c, dpt_out (by omega)]
    · rw [dpt_go c, dpt_go (by omega), ← e, dpt_SR hD h f (F s) (by omega) (by omega)]
theorem kth_SR {F G C K : Int → Int} {m : Int} (hD : DOWN F m) (h : ∀ s, 0 ≤ s → s < m → F s = G s ∧ C s = K s) : ∀ (f : Nat) (s i : Int), 0 ≤ s → s < m → kth F C f s i = kth G K f s i
  | 0, _, _, _, _ => rfl
  | f + 1, s, i, s0, s1 => by
    have e := (h s s0 s1).1
    have a := hD.all s0 s1
    by_cases c : F s < 0
    · show (if _ then _ else _) = (if _ then _ else _)
      rw [if_pos c, if_pos (by omega)]
    · have ed := dpt_SR hD (fun s a b => (h s a b).1) f (F s) (by omega) (by omega)
      by_cases c2 : i = dpt F f (F s)
      · rw [kth_at c c2, kth_at (by omega) (by rw [← e, ← ed]; exact c2)]; exact (h s s0 s1).2
      · rw [kth_go c c2, kth_go (by omega) (by rw [← e, ← ed]; exact c2), ← e]
        exact kth_SR hD h f (F s) i (by omega) (by omega)
/-- sets one after another: what each gives, how many pushes, which -/
def pln (D : Int) (ac : Int → Bool) (res dp : Int → Int) : Nat → Int → Int → Int → Int
  | 0, _, b, u => if u = 1 then -3 else b
  | f + 1, d, b, u => if d < D then (if ac d = true then (if res d = -2 then -2 else if res d = -3 then pln D ac res dp f (d + 1) b 1 else pln D ac res dp f (d + 1) (b + dp d) u) else pln D ac res dp f (d + 1) b u) else (if u = 1 then -3 else b)
def prw (D : Int) (ac : Int → Bool) (res dp : Int → Int) (kt : Int → Int → Int) : Nat → Int → Int → Int → Int
  | 0, _, _, _ => -2
  | f + 1, d, b, k => if d < D then (if ac d = true ∧ 0 ≤ res d then (if k < b + dp d then kt d (k - b) else prw D ac res dp kt f (d + 1) (b + dp d) k) else prw D ac res dp kt f (d + 1) b k) else -2
/-- how far the row goes at the end -/
def pnd (D : Int) (ac : Int → Bool) (res dp : Int → Int) : Nat → Int → Int → Int
  | 0, _, b => b
  | f + 1, d, b => if d < D then (if ac d = true ∧ 0 ≤ res d then pnd D ac res dp f (d + 1) (b + dp d) else pnd D ac res dp f (d + 1) b) else b
def z0 : BS := (fun _ => 0, fset (fun _ => 0) 0 (-1), fun _ => 0, 1)
theorem z0_dp : DP z0 := ⟨⟨by show fset (fun _ => 0) 0 (-1) 0 = (-1 : Int); rw [fset_same], fun s s0 s1 => by have : s < 1 := s1; omega⟩, by decide, by decide⟩
