theorem gD_Pl_87_3 : GI YD "DoorsOnCogs$Planner" 87 3 3 none := ⟨by decide, _, _, _, fl_Pl_87, cD_3, by decide, rfl⟩
theorem gD_Pl_90_59 : GI YD "DoorsOnCogs$Planner" 90 59 7 none := ⟨by decide, _, _, _, fl_Pl_90, cD_59, by decide, rfl⟩
theorem oD_74_Pl_isPushedAlike : OI YD 74 y_Pl_isPushedAlike := ⟨by decide, _, _, _, cD_74, rfl⟩
theorem pD_Pl_81_74 : PI YD "DoorsOnCogs$Planner" 81 74 12 none .int := ⟨by decide, _, _, _, fl_Pl_81, fp_3_12, cD_74, by decide, rfl⟩
/-! the class chooses a set: the loop over pushers -/
set_option maxHeartbeats 4000000 in
theorem s_choose_59 : ∀ (f : Nat) {μ : Mem} {Q : PV → Mem → Prop} {l x tc wt sx D d pu : Int}, ((D - d).toNat < f) → (0 ≤ l ∧ l < 12) → (μ 74 9 = l) → (μ 74 12 = pu) → (0 ≤ pu ∧ pu < 4096) → (∀ p, 0 ≤ p → p < D → -216000 ≤ μ 64 (p * 12 + l) ∧ μ 64 (p * 12 + l) ≤ 216000) → (μ 3 0 = D) → (0 ≤ D ∧ D ≤ 12) → (0 ≤ tc ∧ tc ≤ 2147483647) → (0 ≤ sx ∧ sx < 4096) → (0 ≤ μ 3 3 ∧ μ 3 3 < 4096) → (0 ≤ μ 59 7 ∧ μ 59 7 < 4096) → (0 ≤ d ∧ d ≤ D) → (PUS μ l (z_and tc sx) (z_or (μ 3 3) (μ 59 7)) d pu) → (∀ μ' pu', Fr (fun c i => c = 74 ∧ i = 12) μ μ' → μ' 74 12 = pu' → (0 ≤ pu' ∧ pu' < 4096) → PUS μ' l (z_and tc sx) (z_or (μ 3 3) (μ 59 7)) D pu' → Rj YD y_Pl_choose 147 [vA 74, vI x, vI tc, vI wt, vI sx] [] μ' Q) → Rj YD y_Pl_choose 59 [vA 74, vI x, vI tc, vI wt, vI sx, vI d] [] μ Q := by
  intro f
  induction f with
  | zero => intro μ Q l x tc wt sx D d pu hfu hl hf hpu hpr hst hD hD2 htc hsx hfx hlk hd hP hQ; exact absurd hf (by omega)
  | succ f ih =>
    intro μ Q l x tc wt sx D d pu hfu hl hf hpu hpr hst hD hD2 htc hsx hfx hlk hd hP hQ
    have ar := z_and_rng (a := tc) (b := sx) (n := 31) (by decide) ⟨by omega, by omega⟩ ⟨by omega, by omega⟩
    have orr := z_or_rng (a := μ 3 3) (b := μ 59 7) (n := 12) (by decide) ⟨by omega, by omega⟩ ⟨by omega, by omega⟩
    have zb := zbit_01 (z_and tc sx) d
    have zb2 := zbit_01 (z_or (μ 3 3) (μ 59 7)) d
    refine Rj_iload (q := 61) d_Pl_choose_59 rfl rfl ?_
    refine Rj_aload_n (q := 62) d_Pl_choose_61 rfl rfl rfl ?_
    refine Rj_gr (q := 65) (zd := 3) gD_Pl_25_74 rfl rfl d_Pl_choose_62 rfl ?_
    refine Rj_gi (q := 68) (ki := 0) (v := D) gD_Pl_37_3 rfl rfl hD d_Pl_choose_65 rfl ?_
    refine Rj_icmp_ge (q := 71) (t := 147) d_Pl_choose_68 rfl (by decide) ⟨by omega, by omega⟩ ⟨by omega, by omega⟩ (fun c68 => ?_) (fun c68 => ?_)
    · refine Rj_pre (ls' := [vA 74, vI x, vI tc, vI wt, vI sx]) (t := [vI d]) rfl ?_
      have ed : d = D := by omega
      rw [ed] at hP
      exact hQ μ pu (Fr.refl _ _) hpu hpr hP
    · refine Rj_iload_n (q := 72) d_Pl_choose_71 rfl rfl rfl ?_
      refine Rj_iload (q := 74) d_Pl_choose_72 rfl rfl ?_
      refine Rj_iand (q := 75) (z := z_and tc sx) d_Pl_choose_74 rfl rfl ?_
      refine Rj_iload (q := 77) d_Pl_choose_75 rfl rfl ?_
      refine Rj_cs (q := 80) (z := y_D_bitOf) (as := [vI (z_and tc sx), vI d]) (rest := []) (la := [vI (z_and tc sx), vI d]) ml_Pl_84 mw_D_bitOf ms_D_bitOf d_Pl_choose_77 rfl rfl rfl rfl rfl ?_
      refine s_D_bitOf (by omega) (by omega) ?_
      refine Rj_iconst (q := 81) d_Pl_choose_80 rfl ?_
      refine Rj_icmp_ne (q := 84) (t := 111) d_Pl_choose_81 rfl (by decide) ⟨by omega, by omega⟩ (by decide) (fun c81 => ?_) (fun c81 => ?_)
      · refine Rj_iconst (q := 112) d_Pl_choose_111 rfl ?_
        refine Rj_istore (q := 114) (ls' := [vA 74, vI x, vI tc, vI wt, vI sx, vI d, vI 0]) d_Pl_choose_112 rfl (by decide) rfl ?_
        refine Rj_iload (q := 116) d_Pl_choose_114 rfl rfl ?_
        refine Rj_if_eq (q := 119) (t := 141) d_Pl_choose_116 rfl (by decide) (by decide) (fun _ => ?_) (fun c => absurd c (by decide))
        refine Rj_iinc (q := 144) (ls' := [vA 74, vI x, vI tc, vI wt, vI sx, vI (d + 1), vI 0]) d_Pl_choose_141 rfl rfl (by decide) rfl ?_
        refine Rj_goto (t := 59) d_Pl_choose_144 (by decide) ?_
        refine Rj_pre (ls' := [vA 74, vI x, vI tc, vI wt, vI sx, vI (d + 1)]) (t := [vI 0]) rfl ?_
        refine ih (by omega) hl hf hpu hpr hst hD hD2 htc hsx hfx hlk (by omega) (hP.skip hd.1 (fun a b => ?_)) hQ
        first
          | exact absurd a (by omega)
          | exact absurd b (by omega)
          | exact q122
      · refine Rj_aload_n (q := 85) d_Pl_choose_84 rfl rfl rfl ?_
        refine Rj_gr (q := 88) (zd := 3) gD_Pl_25_74 rfl rfl d_Pl_choose_85 rfl ?_
        refine Rj_gi (q := 91) (ki := 3) (v := μ 3 3) gD_Pl_87_3 rfl rfl rfl d_Pl_choose_88 rfl ?_
        refine Rj_aload_n (q := 92) d_Pl_choose_91 rfl rfl rfl ?_
        refine Rj_gr (q := 95) (zd := 59) gD_Pl_29_74 rfl rfl d_Pl_choose_92 rfl ?_
        refine Rj_gi (q := 98) (ki := 7) (v := μ 59 7) gD_Pl_90_59 rfl rfl rfl d_Pl_choose_95 rfl ?_
        refine Rj_ior (q := 99) (z := z_or (μ 3 3) (μ 59 7)) d_Pl_choose_98 rfl rfl ?_
        refine Rj_iload (q := 101) d_Pl_choose_99 rfl rfl ?_
        refine Rj_cs (q := 104) (z := y_D_bitOf) (as := [vI (z_or (μ 3 3) (μ 59 7)), vI d]) (rest := []) (la := [vI (z_or (μ 3 3) (μ 59 7)), vI d]) ml_Pl_84 mw_D_bitOf ms_D_bitOf d_Pl_choose_101 rfl rfl rfl rfl rfl ?_
        refine s_D_bitOf (by omega) (by omega) ?_
        refine Rj_if_ne (q := 107) (t := 111) d_Pl_choose_104 rfl (by decide) ⟨by omega, by omega⟩ (fun c104 => ?_) (fun c104 => ?_)
        · refine Rj_iconst (q := 112) d_Pl_choose_111 rfl ?_
          refine Rj_istore (q := 114) (ls' := [vA 74, vI x, vI tc, vI wt, vI sx, vI d, vI 0]) d_Pl_choose_112 rfl (by decide) rfl ?_
          refine Rj_iload (q := 116) d_Pl_choose_114 rfl rfl ?_
          refine Rj_if_eq (q := 119) (t := 141) d_Pl_choose_116 rfl (by decide) (by decide) (fun _ => ?_) (fun c => absurd c (by decide))
          refine Rj_iinc (q := 144) (ls' := [vA 74, vI x, vI tc, vI wt, vI sx, vI (d + 1), vI 0]) d_Pl_choose_141 rfl rfl (by decide) rfl ?_
          refine Rj_goto (t := 59) d_Pl_choose_144 (by decide) ?_
          refine Rj_pre (ls' := [vA 74, vI x, vI tc, vI wt, vI sx, vI (d + 1)]) (t := [vI 0]) rfl ?_
          refine ih (by omega) hl hf hpu hpr hst hD hD2 htc hsx hfx hlk (by omega) (hP.skip hd.1 (fun a b => ?_)) hQ
          first
            | exact absurd a (by omega)
            | exact absurd b (by omega)
            | exact q122
        · refine Rj_iconst (q := 108) d_Pl_choose_107 rfl ?_
          refine Rj_goto (t := 112) d_Pl_choose_108 (by decide) ?_
          refine Rj_istore (q := 114) (ls' := [vA 74, vI x, vI tc, vI wt, vI sx, vI d, vI 1]) d_Pl_choose_112 rfl (by decide) rfl ?_
          refine Rj_iload (q := 116) d_Pl_choose_114 rfl rfl ?_
          refine Rj_if_eq (q := 119) (t := 141) d_Pl_choose_116 rfl (by decide) (by decide) (fun c => absurd c (by decide)) (fun _ => ?_)
          refine Rj_aload_n (q := 120) d_Pl_choose_119 rfl rfl rfl ?_
          refine Rj_iload (q := 122) d_Pl_choose_120 rfl rfl ?_
          refine Rj_vo (q := 125) (z := y_Pl_isPushedAlike) (as := [vI d]) (rest := []) (la := [vA 74, vI d]) oD_74_Pl_isPushedAlike ml_Pl_93 mw_Pl_isPushedAlike mv_Pl_isPushedAlike rfl d_Pl_choose_122 rfl rfl rfl rfl rfl ?_
          refine s_isPushedAlike hl hf hpu hpr (fun p p0 p1 => hst p p0 (by omega)) (by omega) (fun q122 => ?_) (fun q122 => ?_)
          · have zz := True.intro
            refine Rj_if_ne (q := 128) (t := 141) d_Pl_choose_125 rfl (by decide) (by decide) (fun _ => ?_) (fun c => absurd c (by decide))
            refine Rj_iinc (q := 144) (ls' := [vA 74, vI x, vI tc, vI wt, vI sx, vI (d + 1), vI 1]) d_Pl_choose_141 rfl rfl (by decide) rfl ?_
            refine Rj_goto (t := 59) d_Pl_choose_144 (by decide) ?_
            refine Rj_pre (ls' := [vA 74, vI x, vI tc, vI wt, vI sx, vI (d + 1)]) (t := [vI 1]) rfl ?_
            refine ih (by omega) hl hf hpu hpr hst hD hD2 htc hsx hfx hlk (by omega) (hP.skip hd.1 (fun a b => ?_)) hQ
            first
              | exact absurd a (by omega)
              | exact absurd b (by omega)
              | exact q122
          · have zz := True.intro
            refine Rj_if_ne (q := 128) (t := 141) d_Pl_choose_125 rfl (by decide) (by decide) (fun c => absurd c (by decide)) (fun _ => ?_)
            refine Rj_aload_n (q := 129) d_Pl_choose_128 rfl rfl rfl ?_
            refine Rj_dup (q := 130) d_Pl_choose_129 rfl (by intro h; cases h) ?_
            refine Rj_gi (q := 133) (ki := 12) (v := pu) gD_Pl_81_74 rfl rfl hpu d_Pl_choose_130 rfl ?_
            refine Rj_iconst (q := 134) d_Pl_choose_133 rfl ?_
            refine Rj_iload (q := 136) d_Pl_choose_134 rfl rfl ?_
            refine Rj_ishl (q := 137) (z := z_shl 1 d) d_Pl_choose_136 rfl rfl ?_
            refine Rj_ior (q := 138) (z := z_or pu (z_shl 1 d)) d_Pl_choose_137 rfl rfl ?_
            refine Rj_pi (q := 141) (ki := 12) pD_Pl_81_74 rfl rfl d_Pl_choose_138 rfl ?_
            refine Rj_iinc (q := 144) (ls' := [vA 74, vI x, vI tc, vI wt, vI sx, vI (d + 1), vI 1]) d_Pl_choose_141 rfl rfl (by decide) rfl ?_
            refine Rj_goto (t := 59) d_Pl_choose_144 (by decide) ?_
            refine Rj_pre (ls' := [vA 74, vI x, vI tc, vI wt, vI sx, vI (d + 1)]) (t := [vI 1]) rfl ?_
            have pw := z_shl_p (d := d) (by omega)
            have p1 : (2 : Int) ^ d.toNat ≤ 2 ^ 11 := by
              have : d.toNat ≤ 11 := by omega
              exact_mod_cast Nat.pow_le_pow_right (by decide) this
            have p0 : (0 : Int) < 2 ^ d.toNat := Int.pow_pos (by decide)
            have rr := z_or_rng (a := pu) (b := z_shl 1 d) (n := 12) (by decide) ⟨by omega, by omega⟩ ⟨by omega, by omega⟩
            exact ih (μ := (mset μ 74 12 (z_or pu (z_shl 1 d)))) (by omega) hl hf (mset_same _ _ _ _) (by omega) hst hD hD2 htc hsx hfx hlk (by omega) (hP.put hd.1 (by omega) (by omega) rfl (fun k k0 => by rw [zbit_or (by omega) (by omega) k0, zbit_pow (by omega) k0])) (fun m pv a1 a2 a3 a4 => hQ m pv ((Fr.put (Fr.refl _ _) ⟨rfl, rfl⟩).trans a1) a2 a3 a4)
