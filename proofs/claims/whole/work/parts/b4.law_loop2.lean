/-! the law's loop, closed -/
section LOOP
variable {G G2 : Gd} {b L : Nat} {xs : Nat → Int32}
set_option maxHeartbeats 4000000 in
theorem law_loop (hL : L ≤ 3072) : ∀ (f n : Nat) (i : Int) (μ ν : Mem), ((L : Int) - i).toNat < f → i = 6 * (n : Int) → i ≤ (L : Int) + 6 → Cor n μ ν → RULs μ ν → Lj G G2 b L xs 18 [vR (b : Int), vA 0, vR (G2.1 0 : Int), vI i] [] μ ν := by
  intro f
  induction f with
  | zero => intro n i μ ν hf; exact absurd hf (by omega)
  | succ f ih =>
    intro n i μ ν hf hi hi2 hC hR
    refine Lj_iload (q := 19) d_law_18 rfl rfl rfl ?_
    refine Lj_rload (q := 20) d_law_19 rfl rfl rfl ?_
    refine Lj_len (q := 21) d_law_20 rfl ?_
    refine Lj_bipush (q := 23) d_law_21 rfl (by decide +kernel) ?_
    refine Lj_isub (q := 24) d_law_23 rfl ?_
    refine Lj_gt (q := 27) (t := 1059) d_law_24 rfl (by decide) ⟨by omega, by omega⟩ ⟨by omega, by omega⟩ (fun c24 => ?_) (fun c24 => ?_)
    · refine Lj_iconst (q := 1060) d_law_1059 rfl ?_
      exact Lj_end d_law_1060
    have hgo : ∀ μ' ν', Cor (n + 1) μ' ν' → RULs μ' ν' → Lj G G2 b L xs 1053 [vR (b : Int), vA 0, vR (G2.1 0 : Int), vI i] [] μ' ν' := by
      intro μ' ν' hC' hR'
      refine Lj_iinc (q := 1056) (ls' := [vR (b : Int), vA 0, vR (G2.1 0 : Int), vI (i + 6)]) d_law_1053 rfl rfl (by decide) rfl ?_
      refine Lj_goto (t := 18) d_law_1056 (by decide) ?_
      exact ih (n + 1) (i + 6) μ' ν' (by omega) (by omega) (by omega) hC' hR'
    refine Lj_rload (q := 28) d_law_27 rfl rfl rfl ?_
    refine Lj_iload (q := 29) d_law_28 rfl rfl rfl ?_
    refine Lj_ld (q := 30) hL ⟨by omega, by omega⟩ d_law_29 rfl ?_
    refine Lj_bipush (q := 32) d_law_30 rfl (by decide +kernel) ?_
    refine Lj_iand (q := 33) d_law_32 rfl rfl ?_
    rcases (show z_and (xs i.toNat).toInt 31 = 0 ∨ z_and (xs i.toNat).toInt 31 = 1 ∨ z_and (xs i.toNat).toInt 31 = 2 ∨ z_and (xs i.toNat).toInt 31 = 3 ∨ z_and (xs i.toNat).toInt 31 = 4 ∨ z_and (xs i.toNat).toInt 31 = 5 ∨ z_and (xs i.toNat).toInt 31 = 6 ∨ z_and (xs i.toNat).toInt 31 = 7 ∨ z_and (xs i.toNat).toInt 31 = 8 ∨ z_and (xs i.toNat).toInt 31 = 9 ∨ z_and (xs i.toNat).toInt 31 = 10 ∨ z_and (xs i.toNat).toInt 31 = 11 ∨ z_and (xs i.toNat).toInt 31 = 12 ∨ z_and (xs i.toNat).toInt 31 = 13 ∨ z_and (xs i.toNat).toInt 31 = 14 ∨ z_and (xs i.toNat).toInt 31 = 15 ∨ z_and (xs i.toNat).toInt 31 = 16 ∨ z_and (xs i.toNat).toInt 31 = 17 ∨ z_and (xs i.toNat).toInt 31 = 18 ∨ z_and (xs i.toNat).toInt 31 = 19 ∨ z_and (xs i.toNat).toInt 31 = 20 ∨ z_and (xs i.toNat).toInt 31 = 21 ∨ z_and (xs i.toNat).toInt 31 = 22 ∨ z_and (xs i.toNat).toInt 31 = 23 ∨ z_and (xs i.toNat).toInt 31 = 24 ∨ z_and (xs i.toNat).toInt 31 = 25 ∨ z_and (xs i.toNat).toInt 31 = 26 ∨ z_and (xs i.toNat).toInt 31 = 27 ∨ (z_and (xs i.toNat).toInt 31 < 0 ∨ 27 < z_and (xs i.toNat).toInt 31) by omega) with hs | hs | hs | hs | hs | hs | hs | hs | hs | hs | hs | hs | hs | hs | hs | hs | hs | hs | hs | hs | hs | hs | hs | hs | hs | hs | hs | hs | hs
    · exact Lj_tsI (t := 160) d_law_33 (t32 _) (by omega) (by omega) (by rw [hs]; rfl) (by decide) (law_c0 hL ⟨by omega, by omega⟩ (by omega) hC hR hgo)
    · exact Lj_tsI (t := 223) d_law_33 (t32 _) (by omega) (by omega) (by rw [hs]; rfl) (by decide) (law_c1 hL ⟨by omega, by omega⟩ (by omega) hC hR hgo)
    · exact Lj_tsI (t := 246) d_law_33 (t32 _) (by omega) (by omega) (by rw [hs]; rfl) (by decide) (law_c2 hL ⟨by omega, by omega⟩ (by omega) hC hR hgo)
    · exact Lj_tsI (t := 259) d_law_33 (t32 _) (by omega) (by omega) (by rw [hs]; rfl) (by decide) (law_c3 hL ⟨by omega, by omega⟩ (by omega) hC hR hgo)
    · exact Lj_tsI (t := 272) d_law_33 (t32 _) (by omega) (by omega) (by rw [hs]; rfl) (by decide) (law_c4 hL ⟨by omega, by omega⟩ (by omega) hC hR hgo)
    · exact Lj_tsI (t := 305) d_law_33 (t32 _) (by omega) (by omega) (by rw [hs]; rfl) (by decide) (law_c5 hL ⟨by omega, by omega⟩ (by omega) hC hR hgo)
    · exact Lj_tsI (t := 339) d_law_33 (t32 _) (by omega) (by omega) (by rw [hs]; rfl) (by decide) (law_c6 hL ⟨by omega, by omega⟩ (by omega) hC hR hgo)
    · exact Lj_tsI (t := 372) d_law_33 (t32 _) (by omega) (by omega) (by rw [hs]; rfl) (by decide) (law_c7 hL ⟨by omega, by omega⟩ (by omega) hC hR hgo)
    · exact Lj_tsI (t := 416) d_law_33 (t32 _) (by omega) (by omega) (by rw [hs]; rfl) (by decide) (law_c8 hL ⟨by omega, by omega⟩ (by omega) hC hR hgo)
    · exact Lj_tsI (t := 449) d_law_33 (t32 _) (by omega) (by omega) (by rw [hs]; rfl) (by decide) (law_c9 hL ⟨by omega, by omega⟩ (by omega) hC hR hgo)
    · exact Lj_tsI (t := 482) d_law_33 (t32 _) (by omega) (by omega) (by rw [hs]; rfl) (by decide) (law_c10 hL ⟨by omega, by omega⟩ (by omega) hC hR hgo)
    · exact Lj_tsI (t := 531) d_law_33 (t32 _) (by omega) (by omega) (by rw [hs]; rfl) (by decide) (law_c11 hL ⟨by omega, by omega⟩ (by omega) hC hR hgo)
    · exact Lj_tsI (t := 564) d_law_33 (t32 _) (by omega) (by omega) (by rw [hs]; rfl) (by decide) (law_c12 hL ⟨by omega, by omega⟩ (by omega) hC hR hgo)
    · exact Lj_tsI (t := 597) d_law_33 (t32 _) (by omega) (by omega) (by rw [hs]; rfl) (by decide) (law_c13 hL ⟨by omega, by omega⟩ (by omega) hC hR hgo)
    · exact Lj_tsI (t := 630) d_law_33 (t32 _) (by omega) (by omega) (by rw [hs]; rfl) (by decide) (law_c14 hL ⟨by omega, by omega⟩ (by omega) hC hR hgo)
    · exact Lj_tsI (t := 673) d_law_33 (t32 _) (by omega) (by omega) (by rw [hs]; rfl) (by decide) (law_c15 hL ⟨by omega, by omega⟩ (by omega) hC hR hgo)
    · exact Lj_tsI (t := 706) d_law_33 (t32 _) (by omega) (by omega) (by rw [hs]; rfl) (by decide) (law_c16 hL ⟨by omega, by omega⟩ (by omega) hC hR hgo)
    · exact Lj_tsI (t := 729) d_law_33 (t32 _) (by omega) (by omega) (by rw [hs]; rfl) (by decide) (law_c17 hL ⟨by omega, by omega⟩ (by omega) hC hR hgo)
    · exact Lj_tsI (t := 762) d_law_33 (t32 _) (by omega) (by omega) (by rw [hs]; rfl) (by decide) (law_c18 hL ⟨by omega, by omega⟩ (by omega) hC hR hgo)
    · exact Lj_tsI (t := 785) d_law_33 (t32 _) (by omega) (by omega) (by rw [hs]; rfl) (by decide) (law_c19 hL ⟨by omega, by omega⟩ (by omega) hC hR hgo)
    · exact Lj_tsI (t := 808) d_law_33 (t32 _) (by omega) (by omega) (by rw [hs]; rfl) (by decide) (law_c20 hL ⟨by omega, by omega⟩ (by omega) hC hR hgo)
    · exact Lj_tsI (t := 831) d_law_33 (t32 _) (by omega) (by omega) (by rw [hs]; rfl) (by decide) (law_c21 hL ⟨by omega, by omega⟩ (by omega) hC hR hgo)
    · exact Lj_tsI (t := 864) d_law_33 (t32 _) (by omega) (by omega) (by rw [hs]; rfl) (by decide) (law_c22 hL ⟨by omega, by omega⟩ (by omega) hC hR hgo)
    · exact Lj_tsI (t := 908) d_law_33 (t32 _) (by omega) (by omega) (by rw [hs]; rfl) (by decide) (law_c23 hL ⟨by omega, by omega⟩ (by omega) hC hR hgo)
    · exact Lj_tsI (t := 931) d_law_33 (t32 _) (by omega) (by omega) (by rw [hs]; rfl) (by decide) (law_c24 hL ⟨by omega, by omega⟩ (by omega) hC hR hgo)
    · exact Lj_tsI (t := 984) d_law_33 (t32 _) (by omega) (by omega) (by rw [hs]; rfl) (by decide) (law_c25 hL ⟨by omega, by omega⟩ (by omega) hC hR hgo)
    · exact Lj_tsI (t := 1007) d_law_33 (t32 _) (by omega) (by omega) (by rw [hs]; rfl) (by decide) (law_c26 hL ⟨by omega, by omega⟩ (by omega) hC hR hgo)
    · exact Lj_tsI (t := 1030) d_law_33 (t32 _) (by omega) (by omega) (by rw [hs]; rfl) (by decide) (law_c27 hL ⟨by omega, by omega⟩ (by omega) hC hR hgo)
    · exact Lj_tsO (t := 1053) d_law_33 (t32 _) hs (by decide) (hgo _ _ hC.next hR)
end LOOP
