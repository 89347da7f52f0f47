/-! the search: two searches whose numbers are one the other's c-fold -/
def SR (c : Int) (σ τ : BS) : Prop := σ.2.2.2 = τ.2.2.2 ∧ 0 ≤ τ.2.2.2 ∧ ∀ s, 0 ≤ s → s < τ.2.2.2 → σ.1 s = c * τ.1 s ∧ σ.2.1 s = τ.2.1 s ∧ σ.2.2.1 s = τ.2.2.1 s
theorem SR.kn {c : Int} {σ τ : BS} (h : SR c σ τ) (hc : c ≠ 0) (b : Int) : knB σ (c * b) = knB τ b := by
  apply Bool.eq_iff_iff.mpr
  rw [knB_t, knB_t]
  constructor
  · rintro ⟨s, s0, s1, s2⟩
    have hs := h.2.2 s s0 (by rw [← h.1]; exact s1)
    exact ⟨s, s0, by rw [← h.1]; exact s1, Int.eq_of_mul_eq_mul_left hc (by rw [← hs.1]; exact s2)⟩
  · rintro ⟨s, s0, s1, s2⟩
    have hs := h.2.2 s s0 s1
    exact ⟨s, s0, by rw [h.1]; exact s1, by rw [hs.1, s2]⟩
theorem SR.add {c : Int} {σ τ : BS} (h : SR c σ τ) (b k d : Int) : SR c (bsA σ (c * b) k d) (bsA τ b k d) := by
  have e := h.1
  have e0 := h.2.1
  refine ⟨?_, ?_, fun s s0 s1 => ?_⟩
  · show σ.2.2.2 + 1 = τ.2.2.2 + 1
    omega
  · show 0 ≤ τ.2.2.2 + 1
    omega
  · have s2 : s < τ.2.2.2 + 1 := s1
    unfold bsA
    dsimp only
    rw [e]
    by_cases q : s = τ.2.2.2
    · rw [q, fset_same, fset_same, fset_same, fset_same, fset_same, fset_same]
      exact ⟨rfl, rfl, rfl⟩
    · rw [fset_ne _ q, fset_ne _ q, fset_ne _ q, fset_ne _ q, fset_ne _ q, fset_ne _ q]
      exact h.2.2 s s0 (by omega)
def SE (c : Int) : (BS × Int) ⊕ BS → (BS × Int) ⊕ BS → Prop
  | .inl r, .inl r' => r.2 = r'.2 ∧ SR c r.1 r'.1
  | .inr s, .inr t => SR c s t
  | _, _ => False
theorem spr_sim {SB WB : Int → Bool} {c st x k d : Int} (hc : c ≠ 0) : ∀ (f : Nat) (n : Int) (σ τ : BS), SR c σ τ → SE c (spr SB WB (c * st) (c * x) k d f n σ) (spr (fun t => SB (c * t)) (fun t => WB (c * t)) st x k d f n τ)
  | 0, n, σ, τ, h => h
  | f + 1, n, σ, τ, h => by
    have e : c * x + n * (c * st) = c * (x + n * st) := by grind
    by_cases c1 : 60 < n
    · rw [spr_out c1, spr_out c1]; exact h
    · by_cases c2 : n = 0 ∨ knB τ (x + n * st) = true ∨ SB (c * (x + n * st)) = false
      · rw [spr_skip c1 (by rw [e, h.kn hc]; exact c2), spr_skip (SB := fun t => SB (c * t)) c1 c2]
        exact spr_sim hc f (n + 1) σ τ h
      · have c2' : ¬ (n = 0 ∨ knB σ (c * x + n * (c * st)) = true ∨ SB (c * x + n * (c * st)) = false) := by rw [e, h.kn hc]; exact c2
        by_cases c3 : τ.2.2.2 = 2000
        · rw [spr_unk c1 c2' (by rw [h.1]; exact c3), spr_unk (SB := fun t => SB (c * t)) c1 c2 c3]
          exact ⟨rfl, h⟩
        · have c3' : ¬ σ.2.2.2 = 2000 := by rw [h.1]; exact c3
          by_cases c4 : WB (c * (x + n * st)) = true
          · rw [spr_win c1 c2' c3' (by rw [e]; exact c4), spr_win (SB := fun t => SB (c * t)) (WB := fun t => WB (c * t)) c1 c2 c3 c4, e]
            exact ⟨h.1, h.add _ _ _⟩
          · rw [spr_go c1 c2' c3' (by rw [e]; exact c4), spr_go (SB := fun t => SB (c * t)) (WB := fun t => WB (c * t)) c1 c2 c3 c4, e]
            exact spr_sim hc f (n + 1) _ _ (h.add _ _ _)
theorem drs_sim {SB WB al : Int → Bool} {st st' : Int → Int} {c D k : Int} (hc : c ≠ 0) (hst : ∀ d, al d = true → st d = c * st' d) : ∀ (f : Nat) (d : Int) (σ τ : BS), SR c σ τ → 0 ≤ k → k < τ.2.2.2 → SE c (drs SB WB al st D k f d σ) (drs (fun t => SB (c * t)) (fun t => WB (c * t)) al st' D k f d τ)
  | 0, d, σ, τ, h, _, _ => h
  | f + 1, d, σ, τ, h, k0, k1 => by
    by_cases c1 : d < D
    · by_cases c2 : al d = true
      · have s := spr_sim (SB := SB) (WB := WB) (st := st' d) (x := τ.1 k) (k := k) (d := d) hc 122 (-60) σ τ h
        rw [← hst d c2, ← (h.2.2 k k0 k1).1] at s
        cases e1 : spr SB WB (st d) (σ.1 k) k d 122 (-60) σ with
        | inl r =>
          cases e2 : spr (fun t => SB (c * t)) (fun t => WB (c * t)) (st' d) (τ.1 k) k d 122 (-60) τ with
          | inl r' => rw [drs_inl c1 c2 e1, drs_inl c1 c2 e2]; rw [e1, e2] at s; exact s
          | inr τ' => rw [e1, e2] at s; exact s.elim
        | inr σ' =>
          cases e2 : spr (fun t => SB (c * t)) (fun t => WB (c * t)) (st' d) (τ.1 k) k d 122 (-60) τ with
          | inl r' => rw [e1, e2] at s; exact s.elim
          | inr τ' =>
            rw [drs_inr c1 c2 e1, drs_inr c1 c2 e2]
            rw [e1, e2] at s
            have q := (spr_ok 122 (-60) τ τ' h.2.1 (by decide) e2).1.1
            exact drs_sim hc hst f (d + 1) σ' τ' s k0 (by omega)
      · rw [drs_skip c1 c2, drs_skip c1 c2]
        exact drs_sim hc hst f (d + 1) σ τ h k0 k1
    · rw [drs_out c1, drs_out c1]; exact h
theorem sts_sim {SB WB al : Int → Bool} {st st' : Int → Int} {c D : Int} (hc : c ≠ 0) (hst : ∀ d, al d = true → st d = c * st' d) : ∀ (f : Nat) (k : Int) (σ τ : BS), SR c σ τ → 0 ≤ k → (sts SB WB al st D f k σ).2 = (sts (fun t => SB (c * t)) (fun t => WB (c * t)) al st' D f k τ).2 ∧ SR c (sts SB WB al st D f k σ).1 (sts (fun t => SB (c * t)) (fun t => WB (c * t)) al st' D f k τ).1
  | 0, k, σ, τ, h, _ => ⟨rfl, h⟩
  | f + 1, k, σ, τ, h, k0 => by
    by_cases c1 : k < τ.2.2.2
    · have c1' : k < σ.2.2.2 := by rw [h.1]; exact c1
      have s := drs_sim (SB := SB) (WB := WB) (D := D) hc hst 13 0 σ τ h k0 c1
      cases e1 : drs SB WB al st D k 13 0 σ with
      | inl r =>
        cases e2 : drs (fun t => SB (c * t)) (fun t => WB (c * t)) al st' D k 13 0 τ with
        | inl r' => rw [sts_inl c1' e1, sts_inl c1 e2]; rw [e1, e2] at s; exact s
        | inr τ' => rw [e1, e2] at s; exact s.elim
      | inr σ' =>
        cases e2 : drs (fun t => SB (c * t)) (fun t => WB (c * t)) al st' D k 13 0 τ with
        | inl r' => rw [e1, e2] at s; exact s.elim
        | inr τ' =>
          rw [sts_inr c1' e1, sts_inr c1 e2]
          rw [e1, e2] at s
          exact sts_sim hc hst f (k + 1) σ' τ' s (by omega)
    · have c1' : ¬ k < σ.2.2.2 := by rw [h.1]; exact c1
      rw [sts_out c1', sts_out c1]; exact ⟨rfl, h⟩
