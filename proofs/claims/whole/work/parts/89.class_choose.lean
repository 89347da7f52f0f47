/-! the class chooses a set: its pushers -/
def PUS (μ : Mem) (l ts fl d pu : Int) : Prop := (∀ k, 0 ≤ k → zbit pu k = 1 → k < d ∧ zbit ts k = 1 ∧ ¬ zbit fl k = 1) ∧ (∀ k, 0 ≤ k → k < d → zbit ts k = 1 → ¬ zbit fl k = 1 → zbit pu k = 1 ∨ PAL μ l pu k)
theorem PUS.skip {μ : Mem} {l ts fl d pu : Int} (h : PUS μ l ts fl d pu) (d0 : 0 ≤ d) (hd : zbit ts d = 1 → ¬ zbit fl d = 1 → PAL μ l pu d) : PUS μ l ts fl (d + 1) pu := by
  refine ⟨fun k k0 k1 => ?_, fun k k0 k1 k2 k3 => ?_⟩
  · have := h.1 k k0 k1
    exact ⟨by omega, this.2⟩
  · by_cases e : k = d
    · subst e; exact Or.inr (hd k2 k3)
    · exact h.2 k k0 (by omega) k2 k3
theorem PUS.put {μ ν : Mem} {l ts fl d pu pv : Int} (h : PUS μ l ts fl d pu) (d0 : 0 ≤ d) (h1 : zbit ts d = 1) (h2 : ¬ zbit fl d = 1) (e : ν 64 = μ 64) (hv : ∀ k, 0 ≤ k → (zbit pv k = 1 ↔ zbit pu k = 1 ∨ k = d)) : PUS ν l ts fl (d + 1) pv := by
  refine ⟨fun k k0 k1 => ?_, fun k k0 k1 k2 k3 => ?_⟩
  · rcases (hv k k0).mp k1 with q | q
    · have := h.1 k k0 q
      exact ⟨by omega, this.2⟩
    · subst q; exact ⟨by omega, h1, h2⟩
  · by_cases q : k = d
    · exact Or.inl ((hv k k0).mpr (Or.inr q))
    · rcases h.2 k k0 (by omega) k2 k3 with r | r
      · exact Or.inl ((hv k k0).mpr (Or.inl r))
      · obtain ⟨x, x0, x1, x2, x3⟩ := r
        refine Or.inr ⟨x, x0, x1, (hv x x0).mpr (Or.inl x2), ?_⟩
        rw [e]; exact x3
