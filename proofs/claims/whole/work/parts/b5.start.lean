/-! where both begin -/
theorem Cor_0 {μ ν : Mem} (hm : ∀ c i, c ≠ 63 → c ≠ 71 → μ c i = 0) (hn : ∀ c i, ¬ (c = 0 ∧ i = 32) → ν c i = 0) (h32 : ν 0 32 = 1) : Cor 0 μ ν := by
  have n11 : ∀ i, ν 11 i = 0 := fun i => hn 11 i (by omega)
  have n12 : ∀ i, ν 12 i = 0 := fun i => hn 12 i (by omega)
  have hS : StrOK (ν 11) := ⟨by rw [n11 0]; decide, by rw [n11 1]; decide, fun d d0 d1 => by rw [n11 0] at d1; omega, fun j j0 j1 => by rw [n11 1] at j1; omega, by rw [n11 1]; exact Nat.zero_le 3⟩
  have hp : pts (ν 11) = 1 := by unfold pts; rw [n11 1]; rfl
  have hH : ∀ lo up dn lk, Hung (ν 11) 0 lo up dn lk := fun lo up dn lk => ⟨by rw [n11 0]; exact HI_start (fun d d0 d1 => by rw [n11 0] at d1; omega), fun x x0 x1 => by rw [n11 0] at x1; omega⟩
  have e3 : ∀ k j, μ 3 k = ν 11 j := fun k j => (hm 3 k (by decide) (by decide)).trans (n11 j).symm
  have hB : PB (ν 12) := fun d _ _ => by rw [n12 d]; decide
  have h7 := hm 59 7 (by decide) (by decide)
  refine ⟨⟨by rw [hn 0 1 (by omega)]; decide, by rw [hm 0 1 (by decide) (by decide), hn 0 1 (by omega)], fun i i0 i1 => by rw [hm 1 i (by decide) (by decide), hn 1 i (by omega)]; decide⟩, ⟨hS, by rw [n11 2]; decide, by rw [n11 3, n11 0]; decide, by rw [n11 4, n11 0]; decide, by rw [n11 5]; decide, fun i i0 i1 => by rw [n11 5] at i1; omega, by rw [n11 6]; decide, fun d d0 d1 => by rw [n11 0] at d1; omega, by rw [n11 8]; decide⟩,
    ⟨e3 _ _, e3 _ _, e3 _ _, e3 _ _, e3 _ _, e3 _ _, e3 _ _, e3 _ _, fun d d0 d1 => by rw [n11 0] at d1; omega, fun j j0 j1 => by rw [n11 1] at j1; omega, fun d d0 d1 => by rw [n11 0] at d1; omega, fun i i0 i1 => by rw [n11 5] at i1; omega⟩,
    ⟨hS, ⟨⟨e3 _ _, e3 _ _, fun d d0 d1 => by rw [n11 0] at d1; omega, fun j j0 j1 => by rw [n11 1] at j1; omega⟩, fun d d0 d1 => by rw [n11 0] at d1; omega, e3 _ _, by rw [n11 2]; decide⟩, hH _ _ _ _, ⟨fun d d0 d1 => by rw [n11 0] at d1; omega, ⟨by rw [h7]; decide, fun k k0 => ⟨fun q => by rw [h7, zbit_0] at q; exact absurd q (by decide), fun q => by have := q.1; rw [n11 0] at this; omega⟩⟩, (hm 59 8 (by decide) (by decide)).trans (by rw [n11 0]; rfl), fun d d0 d1 => by rw [n11 0] at d1; omega, fun a d a0 a1 => by rw [n11 0] at a1; omega⟩, fun d d0 d1 => by rw [n11 0] at d1; omega, hB⟩,
    ⟨hS, hH _ _ _ _, h32.trans hp.symm, hB, by rw [n11 2]; decide⟩, fun d d0 d1 => by rw [n11 0] at d1; omega, fun d _ _ => by rw [n12 d]; decide,
    fun k hk => ⟨Or.inl (hn 26 _ (by omega)), (hm 58 _ (by decide) (by decide)).trans (hn 26 _ (by omega)).symm, fun q => absurd ((hn 26 _ (by omega)).symm.trans q) (by decide)⟩⟩
theorem RULs_0 {μ ν : Mem} (hm : ∀ c i, c ≠ 63 → c ≠ 71 → μ c i = 0) (hn : ∀ c i, ¬ (c = 0 ∧ i = 32) → ν c i = 0) : RULs μ ν :=
  ⟨by rw [hn 0 2 (by omega)]; decide, (hm 79 1 (by decide) (by decide)).trans (hn 0 2 (by omega)).symm, fun r r0 r1 => by rw [hn 0 2 (by omega)] at r1; omega⟩
