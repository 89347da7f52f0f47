theorem oM_0_M_isSomething : OI YM 0 y_M_isSomething := ⟨by decide, _, _, _, cM_0, rfl⟩
theorem oM_0_M_searches : OI YM 0 y_M_searches := ⟨by decide, _, _, _, cM_0, rfl⟩
theorem oM_0_M_rows : OI YM 0 y_M_rows := ⟨by decide, _, _, _, cM_0, rfl⟩
/-! the reference plans: the loop over sets -/
set_option maxHeartbeats 4000000 in
theorem s_M_pl_13 : ∀ (f : Nat) {μ : Mem} {Q : PV → Mem → Prop} {S lo up dn pl lk : Int → Int} {tc wt no uk d b : Int}, ((S 0 - d).toNat < f) → (MX μ) → (EQM μ S lo up dn pl) → (μ 17 = lk) → (0 ≤ wt ∧ wt ≤ 2147483647) → (0 ≤ S 3 ∧ S 3 ≤ 2147483647) → (0 ≤ S 4 ∧ S 4 ≤ 2147483647) → (0 ≤ tc ∧ tc ≤ 2147483647) → (no = 0 ∨ no = 1) → (uk = 0 ∨ uk = 1) → (0 ≤ d ∧ d ≤ S 0) → (μ 0 39 = b) → (0 ≤ b ∧ b ≤ d * 1999) → (∀ μ', Fr Wpl μ μ' → (∀ i, 0 ≤ i → i < b → μ' 22 i = μ 22 i) → (∀ i, b ≤ i → i < pnd (S 0) (acP S lo up dn pl) (resP S lo up dn pl lk tc wt) (dpP S lo up dn pl tc wt) f d b → μ' 22 i = prw (S 0) (acP S lo up dn pl) (resP S lo up dn pl lk tc wt) (dpP S lo up dn pl tc wt) (ktP S lo up dn pl tc wt) f d b i) → Q (vI (plV (S 0) (acP S lo up dn pl) (resP S lo up dn pl lk tc wt) (dpP S lo up dn pl tc wt) no f d b uk)) μ') → Rj YM y_M_plans 13 [vA 0, vI tc, vI wt, vI no, vI uk, vI d] [] μ Q := by
  intro f
  induction f with
  | zero => intro μ Q S lo up dn pl lk tc wt no uk d b hf h E ek hw hw3 hw4 htc hno huk hd hb hb2 hQ; exact absurd hf (by omega)
  | succ f ih =>
    intro μ Q S lo up dn pl lk tc wt no uk d b hf h E ek hw hw3 hw4 htc hno huk hd hb hb2 hQ
    obtain ⟨e11, e14, e15, e16, e12⟩ := id E
    obtain ⟨z0, z1, z6, z5⟩ := h.z
    rw [e11] at z0 z1 z6 z5
    refine Rj_iload (q := 15) d_M_plans_13 rfl rfl ?_
    refine Rj_aload_n (q := 16) d_M_plans_15 rfl rfl rfl ?_
    refine Rj_gr (q := 19) (zd := 11) gM_M_42_0 rfl rfl d_M_plans_16 rfl ?_
    refine Rj_iconst (q := 20) d_M_plans_19 rfl ?_
    refine Rj_ia (q := 21) (v := S 0) aM_11 rfl (by decide) (by rw [e11]) d_M_plans_20 rfl ?_
    refine Rj_icmp_ge (q := 24) (t := 117) d_M_plans_21 rfl (by decide) ⟨by omega, by omega⟩ ⟨by omega, by omega⟩ (fun c21 => ?_) (fun c21 => ?_)
    · refine Rj_iload_n (q := 118) d_M_plans_117 rfl rfl rfl ?_
      refine Rj_if_eq (q := 121) (t := 126) d_M_plans_118 rfl (by decide) ⟨by omega, by omega⟩ (fun c118 => ?_) (fun c118 => ?_)
      · refine Rj_iload (q := 128) d_M_plans_126 rfl rfl ?_
        refine Rj_if_eq (q := 131) (t := 136) d_M_plans_128 rfl (by decide) ⟨by omega, by omega⟩ (fun c128 => ?_) (fun c128 => ?_)
        · refine Rj_aload_n (q := 137) d_M_plans_136 rfl rfl rfl ?_
          refine Rj_gi (q := 140) (ki := 39) (v := b) gM_M_420_0 rfl rfl hb d_M_plans_137 rfl ?_
          refine Rj_iret d_M_plans_140 rfl ?_
          have nd : ¬ d < S 0 := by omega
          have q := hQ μ (Fr.refl _ _) (fun i _ _ => rfl) (fun i i0 i1 => by rw [pnd_out nd] at i1; omega)
          unfold plV at q
          rw [pln_out nd] at q
          first
            | (rw [if_pos (by omega)] at q; exact q)
            | (rw [if_neg (by omega), if_pos (by omega)] at q; exact q)
            | (rw [if_neg (by omega), if_neg (by omega)] at q; exact q)
        · refine Rj_bipush (q := 133) d_M_plans_131 rfl (by decide +kernel) ?_
          refine Rj_goto (t := 140) d_M_plans_133 (by decide) ?_
          refine Rj_iret d_M_plans_140 rfl ?_
          have nd : ¬ d < S 0 := by omega
          have q := hQ μ (Fr.refl _ _) (fun i _ _ => rfl) (fun i i0 i1 => by rw [pnd_out nd] at i1; omega)
          unfold plV at q
          rw [pln_out nd] at q
          first
            | (rw [if_pos (by omega)] at q; exact q)
            | (rw [if_neg (by omega), if_pos (by omega)] at q; exact q)
            | (rw [if_neg (by omega), if_neg (by omega)] at q; exact q)
      · refine Rj_bipush (q := 123) d_M_plans_121 rfl (by decide +kernel) ?_
        refine Rj_goto (t := 140) d_M_plans_123 (by decide) ?_
        refine Rj_iret d_M_plans_140 rfl ?_
        have nd : ¬ d < S 0 := by omega
        have q := hQ μ (Fr.refl _ _) (fun i _ _ => rfl) (fun i i0 i1 => by rw [pnd_out nd] at i1; omega)
        unfold plV at q
        rw [pln_out nd] at q
        first
          | (rw [if_pos (by omega)] at q; exact q)
          | (rw [if_neg (by omega), if_pos (by omega)] at q; exact q)
          | (rw [if_neg (by omega), if_neg (by omega)] at q; exact q)
    · have ld := (Hu_d h.1 h.2.1 (d := d) (by rw [e11]; omega)).2.2.1
      rw [e14] at ld
      refine Rj_aload_n (q := 25) d_M_plans_24 rfl rfl rfl ?_
      refine Rj_gr (q := 28) (zd := 14) gM_M_51_0 rfl rfl d_M_plans_25 rfl ?_
      refine Rj_iload (q := 30) d_M_plans_28 rfl rfl ?_
      refine Rj_ia (q := 31) (v := lo d) aM_14 rfl (by omega) (by rw [e14]) d_M_plans_30 rfl ?_
      refine Rj_iload (q := 33) d_M_plans_31 rfl rfl ?_
      refine Rj_icmp_ne (q := 36) (t := 111) d_M_plans_33 rfl (by decide) ⟨by omega, by omega⟩ ⟨by omega, by omega⟩ (fun c33 => ?_) (fun c33 => ?_)
      · refine Rj_iinc (q := 114) (ls' := [vA 0, vI tc, vI wt, vI no, vI uk, vI (d + 1)]) d_M_plans_111 rfl rfl (by decide) rfl ?_
        refine Rj_goto (t := 13) d_M_plans_114 (by decide) ?_
        refine Rj_pre (ls' := [vA 0, vI tc, vI wt, vI no, vI uk, vI (d + 1)]) (t := []) rfl ?_
        have dS : d < S 0 := by omega
        have na : ¬ acP S lo up dn pl d = true := fun q => by
          have q2 := acP_t.mp q
          first
            | exact absurd q2.1 (by omega)
            | exact q39 q2.2.1
            | exact q2.2.2 q49
        have v := plV_skip (D := S 0) (ac := (acP S lo up dn pl)) (res := (resP S lo up dn pl lk tc wt)) (dp := (dpP S lo up dn pl tc wt)) (f := f) (d := d) (b := b) (u := uk) (no := no) dS na
        have v2 := pnd_skip (D := S 0) (ac := (acP S lo up dn pl)) (res := (resP S lo up dn pl lk tc wt)) (dp := (dpP S lo up dn pl tc wt)) (f := f) (d := d) (b := b) dS (fun q => na q.1)
        rw [v, v2] at hQ
        exact ih (by omega) h E ek hw hw3 hw4 htc hno huk (by omega) hb (by omega) (fun m2 a1 a2 a3 => hQ m2 a1 a2 (fun i i0 i1 => by rw [prw_skip dS (fun q => na q.1)]; exact a3 i i0 i1))
      · refine Rj_aload_n (q := 37) d_M_plans_36 rfl rfl rfl ?_
        refine Rj_iload (q := 39) d_M_plans_37 rfl rfl ?_
        refine Rj_vo (q := 42) (z := y_M_isSomething) (as := [vI d]) (rest := []) (la := [vA 0, vI d]) oM_0_M_isSomething ml_M_423 mw_M_isSomething mv_M_isSomething rfl d_M_plans_39 rfl rfl rfl rfl rfl ?_
        refine s_M_isSomething h (by rw [e11]; exact hw3) (by rw [e11]; exact hw4) (by omega) (fun q39 => ?_) (fun q39 => ?_)
        · rw [e11, e14] at q39
          refine Rj_if_eq (q := 45) (t := 111) d_M_plans_42 rfl (by decide) (by decide) (fun c => absurd c (by decide)) (fun _ => ?_)
          refine Rj_aload_n (q := 46) d_M_plans_45 rfl rfl rfl ?_
          refine Rj_iload (q := 48) d_M_plans_46 rfl rfl ?_
          refine Rj_lconst (q := 49) (z := 0) d_M_plans_48 rfl rfl ?_
          refine Rj_vo (q := 52) (z := y_M_isWanted) (as := [vI d, vL 0]) (rest := []) (la := [vA 0, vI d, vL 0, vU]) oM_0_M_isWanted ml_M_417 mw_M_isWanted mv_M_isWanted rfl d_M_plans_49 rfl rfl rfl rfl rfl ?_
          refine s_M_isWanted h (RB_0.mono (by decide)) ⟨by decide, by decide⟩ (by omega) (by rw [e11]; exact hw3) (by rw [e11]; exact hw4) (fun x x0 x1 x2 x3 => rfl) (fun q49 => ?_) (fun q49 => ?_)
          · rw [e11, e14, e15, e16, e12] at q49
            refine Rj_if_eq (q := 55) (t := 58) d_M_plans_52 rfl (by decide) (by decide) (fun c => absurd c (by decide)) (fun _ => ?_)
            refine Rj_goto (t := 111) d_M_plans_55 (by decide) ?_
            refine Rj_iinc (q := 114) (ls' := [vA 0, vI tc, vI wt, vI no, vI uk, vI (d + 1)]) d_M_plans_111 rfl rfl (by decide) rfl ?_
            refine Rj_goto (t := 13) d_M_plans_114 (by decide) ?_
            refine Rj_pre (ls' := [vA 0, vI tc, vI wt, vI no, vI uk, vI (d + 1)]) (t := []) rfl ?_
            have dS : d < S 0 := by omega
            have na : ¬ acP S lo up dn pl d = true := fun q => by
              have q2 := acP_t.mp q
              first
                | exact absurd q2.1 (by omega)
                | exact q39 q2.2.1
                | exact q2.2.2 q49
            have v := plV_skip (D := S 0) (ac := (acP S lo up dn pl)) (res := (resP S lo up dn pl lk tc wt)) (dp := (dpP S lo up dn pl tc wt)) (f := f) (d := d) (b := b) (u := uk) (no := no) dS na
            have v2 := pnd_skip (D := S 0) (ac := (acP S lo up dn pl)) (res := (resP S lo up dn pl lk tc wt)) (dp := (dpP S lo up dn pl tc wt)) (f := f) (d := d) (b := b) dS (fun q => na q.1)
            rw [v, v2] at hQ
            exact ih (by omega) h E ek hw hw3 hw4 htc hno huk (by omega) hb (by omega) (fun m2 a1 a2 a3 => hQ m2 a1 a2 (fun i i0 i1 => by rw [prw_skip dS (fun q => na q.1)]; exact a3 i i0 i1))
          · rw [e11, e14, e15, e16, e12] at q49
            refine Rj_if_eq (q := 55) (t := 58) d_M_plans_52 rfl (by decide) (by decide) (fun _ => ?_) (fun c => absurd c (by decide))
            refine Rj_aload_n (q := 59) d_M_plans_58 rfl rfl rfl ?_
            refine Rj_iload (q := 61) d_M_plans_59 rfl rfl ?_
            refine Rj_iload_n (q := 62) d_M_plans_61 rfl rfl rfl ?_
            refine Rj_iload_n (q := 63) d_M_plans_62 rfl rfl rfl ?_
            refine Rj_vo (q := 66) (z := y_M_searches) (as := [vI d, vI tc, vI wt]) (rest := []) (la := [vA 0, vI d, vI tc, vI wt]) oM_0_M_searches ml_M_426 mw_M_searches mv_M_searches rfl d_M_plans_63 rfl rfl rfl rfl rfl ?_
            refine s_M_srch h E ek ⟨by omega, by omega, by omega⟩ hw hw3 hw4 htc (fun m fs gs => ?_)
            have ac : acP S lo up dn pl d = true := acP_t.mpr ⟨by omega, q39, q49⟩
            have rc := resP_c (S := S) (lo := lo) (up := up) (dn := dn) (pl := pl) (lk := lk) (tc := tc) (wt := wt) (l := d)
            have fp : Fr Wpl μ m := Fr.wide fs (fun c i q => by unfold Wse at q; unfold Wpl; omega)
            have m39 : m 0 39 = b := (fs 0 39 (by unfold Wse; omega)).trans hb
            have m22 : m 22 = μ 22 := fs.row (fun i q => by unfold Wse at q; omega)
            refine Rj_istore (q := 68) (ls' := [vA 0, vI tc, vI wt, vI no, vI uk, vI d, vI (resP S lo up dn pl lk tc wt d)]) d_M_plans_66 rfl (by decide) rfl ?_
            refine Rj_iload_n (q := 69) d_M_plans_68 rfl rfl rfl ?_
            refine Rj_iload (q := 71) d_M_plans_69 rfl rfl ?_
            refine Rj_bipush (q := 73) d_M_plans_71 rfl (by decide +kernel) ?_
            refine Rj_icmp_ne (q := 76) (t := 80) d_M_plans_73 rfl (by decide) ⟨by omega, by omega⟩ (by decide) (fun c73 => ?_) (fun c73 => ?_)
            · refine Rj_iconst (q := 81) d_M_plans_80 rfl ?_
              refine Rj_ior (q := 82) (z := no) d_M_plans_81 rfl (by rcases hno with q | q <;> rw [q] <;> decide) ?_
              refine Rj_istore_n (q := 83) (ls' := [vA 0, vI tc, vI wt, vI no, vI uk, vI d, vI (resP S lo up dn pl lk tc wt d)]) d_M_plans_82 rfl rfl (by decide) rfl ?_
              refine Rj_iload (q := 85) d_M_plans_83 rfl rfl ?_
              refine Rj_iload (q := 87) d_M_plans_85 rfl rfl ?_
              refine Rj_bipush (q := 89) d_M_plans_87 rfl (by decide +kernel) ?_
              refine Rj_icmp_ne (q := 92) (t := 96) d_M_plans_89 rfl (by decide) ⟨by omega, by omega⟩ (by decide) (fun c89 => ?_) (fun c89 => ?_)
              · refine Rj_iconst (q := 97) d_M_plans_96 rfl ?_
                refine Rj_ior (q := 98) (z := uk) d_M_plans_97 rfl (by rcases huk with q | q <;> rw [q] <;> decide) ?_
                refine Rj_istore (q := 100) (ls' := [vA 0, vI tc, vI wt, vI no, vI uk, vI d, vI (resP S lo up dn pl lk tc wt d)]) d_M_plans_98 rfl (by decide) rfl ?_
                refine Rj_iload (q := 102) d_M_plans_100 rfl rfl ?_
                refine Rj_if_lt (q := 105) (t := 111) d_M_plans_102 rfl (by decide) ⟨by omega, by omega⟩ (fun c102 => ?_) (fun c102 => ?_)
                · refine Rj_iinc (q := 114) (ls' := [vA 0, vI tc, vI wt, vI no, vI uk, vI (d + 1), vI (resP S lo up dn pl lk tc wt d)]) d_M_plans_111 rfl rfl (by decide) rfl ?_
                  refine Rj_goto (t := 13) d_M_plans_114 (by decide) ?_
                  clear gs
                  exfalso
                  omega
                · refine Rj_aload_n (q := 106) d_M_plans_105 rfl rfl rfl ?_
                  refine Rj_iload (q := 108) d_M_plans_106 rfl rfl ?_
                  refine Rj_vov (q := 111) (z := y_M_rows) (as := [vI (resP S lo up dn pl lk tc wt d)]) (rest := []) (la := [vA 0, vI (resP S lo up dn pl lk tc wt d)]) oM_0_M_rows ml_M_430 mw_M_rows mv_M_rows rfl d_M_plans_108 rfl rfl rfl rfl rfl ?_
                  obtain ⟨mm, g1, g2, g3, g4, g5⟩ := gs (by omega)
                  have db := dpt_bd g3 2001 _ (show 0 ≤ resP S lo up dn pl lk tc wt d by omega) g2
                  refine s_M_rows rfl rfl g3 g1 ⟨by omega, g2⟩ (b := b) (by omega) m39 (fun m2 f2 k2 n2 => ?_)
                  rw [g4] at db f2 k2 n2
                  refine Rj_iinc (q := 114) (ls' := [vA 0, vI tc, vI wt, vI no, vI uk, vI (d + 1), vI (resP S lo up dn pl lk tc wt d)]) d_M_plans_111 rfl rfl (by decide) rfl ?_
                  refine Rj_goto (t := 13) d_M_plans_114 (by decide) ?_
                  refine Rj_pre (ls' := [vA 0, vI tc, vI wt, vI no, vI uk, vI (d + 1)]) (t := [vI (resP S lo up dn pl lk tc wt d)]) rfl ?_
                  have dS : d < S 0 := by omega
                  clear gs
                  have rn : 0 ≤ resP S lo up dn pl lk tc wt d := by omega
                  have v := plV_go (D := S 0) (ac := (acP S lo up dn pl)) (res := (resP S lo up dn pl lk tc wt)) (dp := (dpP S lo up dn pl tc wt)) (f := f) (d := d) (b := b) (u := uk) (no := no) dS ac rn
                  have v2 := pnd_go (D := S 0) (ac := (acP S lo up dn pl)) (res := (resP S lo up dn pl lk tc wt)) (dp := (dpP S lo up dn pl tc wt)) (f := f) (d := d) (b := b) dS ⟨ac, rn⟩
                  rw [v, v2] at hQ
                  have f3 : Fr Wpl m m2 := Fr.wide f2 (fun c i q => by unfold Wpl; omega)
                  have f4 := fp.trans f3
                  exact ih (μ := m2) (b := b + dpP S lo up dn pl tc wt d) (by omega) (h.pl9 f4) (E.pl9 f4) ((f4.row (c := 17) (fun i q => by unfold Wpl at q; omega)).trans ek) hw hw3 hw4 htc hno huk (by omega) n2 (by omega) (fun m3 a1 a2 a3 => hQ m3 (f4.trans a1) (fun i i0 i1 => by rw [a2 i i0 (by omega), f2 22 i (by omega), m22]) (fun i i0 i1 => by
                    by_cases c : i < b + dpP S lo up dn pl tc wt d
                    · rw [prw_in dS ⟨ac, rn⟩ c, a2 i (by omega) c, ← g5 (i - b), ← k2 (i - b) (by omega) (by omega), show b + (i - b) = i by omega]
                    · rw [prw_go dS ⟨ac, rn⟩ c]; exact a3 i (by omega) i1))
              · refine Rj_iconst (q := 93) d_M_plans_92 rfl ?_
                refine Rj_goto (t := 97) d_M_plans_93 (by decide) ?_
                refine Rj_ior (q := 98) (z := 1) d_M_plans_97 rfl (by rcases huk with q | q <;> rw [q] <;> decide) ?_
                refine Rj_istore (q := 100) (ls' := [vA 0, vI tc, vI wt, vI no, vI 1, vI d, vI (resP S lo up dn pl lk tc wt d)]) d_M_plans_98 rfl (by decide) rfl ?_
                refine Rj_iload (q := 102) d_M_plans_100 rfl rfl ?_
                refine Rj_if_lt (q := 105) (t := 111) d_M_plans_102 rfl (by decide) ⟨by omega, by omega⟩ (fun c102 => ?_) (fun c102 => ?_)
                · refine Rj_iinc (q := 114) (ls' := [vA 0, vI tc, vI wt, vI no, vI 1, vI (d + 1), vI (resP S lo up dn pl lk tc wt d)]) d_M_plans_111 rfl rfl (by decide) rfl ?_
                  refine Rj_goto (t := 13) d_M_plans_114 (by decide) ?_
                  refine Rj_pre (ls' := [vA 0, vI tc, vI wt, vI no, vI 1, vI (d + 1)]) (t := [vI (resP S lo up dn pl lk tc wt d)]) rfl ?_
                  have dS : d < S 0 := by omega
                  clear gs
                  have rn : ¬ 0 ≤ resP S lo up dn pl lk tc wt d := by omega
                  have v := plV_unk (D := S 0) (ac := (acP S lo up dn pl)) (res := (resP S lo up dn pl lk tc wt)) (dp := (dpP S lo up dn pl tc wt)) (f := f) (d := d) (b := b) (u := uk) (no := no) dS ac (by omega)
                  have v2 := pnd_skip (D := S 0) (ac := (acP S lo up dn pl)) (res := (resP S lo up dn pl lk tc wt)) (dp := (dpP S lo up dn pl tc wt)) (f := f) (d := d) (b := b) dS (fun q => rn q.2)
                  rw [v, v2] at hQ
                  exact ih (μ := m) (no := no) (uk := 1) (by omega) (h.pl9 fp) (E.pl9 fp) ((fs.row (c := 17) (fun i q => by unfold Wse at q; omega)).trans ek) hw hw3 hw4 htc hno (Or.inr rfl) (by omega) m39 (by omega) (fun m3 a1 a2 a3 => hQ m3 (fp.trans a1) (fun i i0 i1 => by rw [a2 i i0 i1, m22]) (fun i i0 i1 => by rw [prw_skip dS (fun q => rn q.2)]; exact a3 i i0 i1))
                · refine Rj_aload_n (q := 106) d_M_plans_105 rfl rfl rfl ?_
                  refine Rj_iload (q := 108) d_M_plans_106 rfl rfl ?_
                  refine Rj_vov (q := 111) (z := y_M_rows) (as := [vI (resP S lo up dn pl lk tc wt d)]) (rest := []) (la := [vA 0, vI (resP S lo up dn pl lk tc wt d)]) oM_0_M_rows ml_M_430 mw_M_rows mv_M_rows rfl d_M_plans_108 rfl rfl rfl rfl rfl ?_
                  obtain ⟨mm, g1, g2, g3, g4, g5⟩ := gs (by omega)
                  have db := dpt_bd g3 2001 _ (show 0 ≤ resP S lo up dn pl lk tc wt d by omega) g2
                  refine s_M_rows rfl rfl g3 g1 ⟨by omega, g2⟩ (b := b) (by omega) m39 (fun m2 f2 k2 n2 => ?_)
                  rw [g4] at db f2 k2 n2
                  refine Rj_iinc (q := 114) (ls' := [vA 0, vI tc, vI wt, vI no, vI 1, vI (d + 1), vI (resP S lo up dn pl lk tc wt d)]) d_M_plans_111 rfl rfl (by decide) rfl ?_
                  refine Rj_goto (t := 13) d_M_plans_114 (by decide) ?_
                  clear gs
                  exfalso
                  omega
            · refine Rj_iconst (q := 77) d_M_plans_76 rfl ?_
              refine Rj_goto (t := 81) d_M_plans_77 (by decide) ?_
              refine Rj_ior (q := 82) (z := 1) d_M_plans_81 rfl (by rcases hno with q | q <;> rw [q] <;> decide) ?_
              refine Rj_istore_n (q := 83) (ls' := [vA 0, vI tc, vI wt, vI 1, vI uk, vI d, vI (resP S lo up dn pl lk tc wt d)]) d_M_plans_82 rfl rfl (by decide) rfl ?_
              refine Rj_iload (q := 85) d_M_plans_83 rfl rfl ?_
              refine Rj_iload (q := 87) d_M_plans_85 rfl rfl ?_
              refine Rj_bipush (q := 89) d_M_plans_87 rfl (by decide +kernel) ?_
              refine Rj_icmp_ne (q := 92) (t := 96) d_M_plans_89 rfl (by decide) ⟨by omega, by omega⟩ (by decide) (fun c89 => ?_) (fun c89 => ?_)
              · refine Rj_iconst (q := 97) d_M_plans_96 rfl ?_
                refine Rj_ior (q := 98) (z := uk) d_M_plans_97 rfl (by rcases huk with q | q <;> rw [q] <;> decide) ?_
                refine Rj_istore (q := 100) (ls' := [vA 0, vI tc, vI wt, vI 1, vI uk, vI d, vI (resP S lo up dn pl lk tc wt d)]) d_M_plans_98 rfl (by decide) rfl ?_
                refine Rj_iload (q := 102) d_M_plans_100 rfl rfl ?_
                refine Rj_if_lt (q := 105) (t := 111) d_M_plans_102 rfl (by decide) ⟨by omega, by omega⟩ (fun c102 => ?_) (fun c102 => ?_)
                · refine Rj_iinc (q := 114) (ls' := [vA 0, vI tc, vI wt, vI 1, vI uk, vI (d + 1), vI (resP S lo up dn pl lk tc wt d)]) d_M_plans_111 rfl rfl (by decide) rfl ?_
                  refine Rj_goto (t := 13) d_M_plans_114 (by decide) ?_
                  refine Rj_pre (ls' := [vA 0, vI tc, vI wt, vI 1, vI uk, vI (d + 1)]) (t := [vI (resP S lo up dn pl lk tc wt d)]) rfl ?_
                  have dS : d < S 0 := by omega
                  clear gs
                  have rn : ¬ 0 ≤ resP S lo up dn pl lk tc wt d := by omega
                  have v := plV_no (D := S 0) (ac := (acP S lo up dn pl)) (res := (resP S lo up dn pl lk tc wt)) (dp := (dpP S lo up dn pl tc wt)) (f := f) (d := d) (b := b) (u := uk) (no := no) dS ac (by omega)
                  have v2 := pnd_skip (D := S 0) (ac := (acP S lo up dn pl)) (res := (resP S lo up dn pl lk tc wt)) (dp := (dpP S lo up dn pl tc wt)) (f := f) (d := d) (b := b) dS (fun q => rn q.2)
                  rw [v, v2] at hQ
                  exact ih (μ := m) (no := 1) (uk := uk) (by omega) (h.pl9 fp) (E.pl9 fp) ((fs.row (c := 17) (fun i q => by unfold Wse at q; omega)).trans ek) hw hw3 hw4 htc (Or.inr rfl) huk (by omega) m39 (by omega) (fun m3 a1 a2 a3 => hQ m3 (fp.trans a1) (fun i i0 i1 => by rw [a2 i i0 i1, m22]) (fun i i0 i1 => by rw [prw_skip dS (fun q => rn q.2)]; exact a3 i i0 i1))
                · refine Rj_aload_n (q := 106) d_M_plans_105 rfl rfl rfl ?_
                  refine Rj_iload (q := 108) d_M_plans_106 rfl rfl ?_
                  refine Rj_vov (q := 111) (z := y_M_rows) (as := [vI (resP S lo up dn pl lk tc wt d)]) (rest := []) (la := [vA 0, vI (resP S lo up dn pl lk tc wt d)]) oM_0_M_rows ml_M_430 mw_M_rows mv_M_rows rfl d_M_plans_108 rfl rfl rfl rfl rfl ?_
                  obtain ⟨mm, g1, g2, g3, g4, g5⟩ := gs (by omega)
                  have db := dpt_bd g3 2001 _ (show 0 ≤ resP S lo up dn pl lk tc wt d by omega) g2
                  refine s_M_rows rfl rfl g3 g1 ⟨by omega, g2⟩ (b := b) (by omega) m39 (fun m2 f2 k2 n2 => ?_)
                  rw [g4] at db f2 k2 n2
                  refine Rj_iinc (q := 114) (ls' := [vA 0, vI tc, vI wt, vI 1, vI uk, vI (d + 1), vI (resP S lo up dn pl lk tc wt d)]) d_M_plans_111 rfl rfl (by decide) rfl ?_
                  refine Rj_goto (t := 13) d_M_plans_114 (by decide) ?_
                  clear gs
                  exfalso
                  omega
              · refine Rj_iconst (q := 93) d_M_plans_92 rfl ?_
                refine Rj_goto (t := 97) d_M_plans_93 (by decide) ?_
                refine Rj_ior (q := 98) (z := 1) d_M_plans_97 rfl (by rcases huk with q | q <;> rw [q] <;> decide) ?_
                refine Rj_istore (q := 100) (ls' := [vA 0, vI tc, vI wt, vI 1, vI 1, vI d, vI (resP S lo up dn pl lk tc wt d)]) d_M_plans_98 rfl (by decide) rfl ?_
                refine Rj_iload (q := 102) d_M_plans_100 rfl rfl ?_
                refine Rj_if_lt (q := 105) (t := 111) d_M_plans_102 rfl (by decide) ⟨by omega, by omega⟩ (fun c102 => ?_) (fun c102 => ?_)
                · refine Rj_iinc (q := 114) (ls' := [vA 0, vI tc, vI wt, vI 1, vI 1, vI (d + 1), vI (resP S lo up dn pl lk tc wt d)]) d_M_plans_111 rfl rfl (by decide) rfl ?_
                  refine Rj_goto (t := 13) d_M_plans_114 (by decide) ?_
                  clear gs
                  exfalso
                  omega
                · refine Rj_aload_n (q := 106) d_M_plans_105 rfl rfl rfl ?_
                  refine Rj_iload (q := 108) d_M_plans_106 rfl rfl ?_
                  refine Rj_vov (q := 111) (z := y_M_rows) (as := [vI (resP S lo up dn pl lk tc wt d)]) (rest := []) (la := [vA 0, vI (resP S lo up dn pl lk tc wt d)]) oM_0_M_rows ml_M_430 mw_M_rows mv_M_rows rfl d_M_plans_108 rfl rfl rfl rfl rfl ?_
                  obtain ⟨mm, g1, g2, g3, g4, g5⟩ := gs (by omega)
                  have db := dpt_bd g3 2001 _ (show 0 ≤ resP S lo up dn pl lk tc wt d by omega) g2
                  refine s_M_rows rfl rfl g3 g1 ⟨by omega, g2⟩ (b := b) (by omega) m39 (fun m2 f2 k2 n2 => ?_)
                  rw [g4] at db f2 k2 n2
                  refine Rj_iinc (q := 114) (ls' := [vA 0, vI tc, vI wt, vI 1, vI 1, vI (d + 1), vI (resP S lo up dn pl lk tc wt d)]) d_M_plans_111 rfl rfl (by decide) rfl ?_
                  refine Rj_goto (t := 13) d_M_plans_114 (by decide) ?_
                  clear gs
                  exfalso
                  omega
        · rw [e11, e14] at q39
          refine Rj_if_eq (q := 45) (t := 111) d_M_plans_42 rfl (by decide) (by decide) (fun _ => ?_) (fun c => absurd c (by decide))
          refine Rj_iinc (q := 114) (ls' := [vA 0, vI tc, vI wt, vI no, vI uk, vI (d + 1)]) d_M_plans_111 rfl rfl (by decide) rfl ?_
          refine Rj_goto (t := 13) d_M_plans_114 (by decide) ?_
          refine Rj_pre (ls' := [vA 0, vI tc, vI wt, vI no, vI uk, vI (d + 1)]) (t := []) rfl ?_
          have dS : d < S 0 := by omega
          have na : ¬ acP S lo up dn pl d = true := fun q => by
            have q2 := acP_t.mp q
            first
              | exact absurd q2.1 (by omega)
              | exact q39 q2.2.1
              | exact q2.2.2 q49
          have v := plV_skip (D := S 0) (ac := (acP S lo up dn pl)) (res := (resP S lo up dn pl lk tc wt)) (dp := (dpP S lo up dn pl tc wt)) (f := f) (d := d) (b := b) (u := uk) (no := no) dS na
          have v2 := pnd_skip (D := S 0) (ac := (acP S lo up dn pl)) (res := (resP S lo up dn pl lk tc wt)) (dp := (dpP S lo up dn pl tc wt)) (f := f) (d := d) (b := b) dS (fun q => na q.1)
          rw [v, v2] at hQ
          exact ih (by omega) h E ek hw hw3 hw4 htc hno huk (by omega) hb (by omega) (fun m2 a1 a2 a3 => hQ m2 a1 a2 (fun i i0 i1 => by rw [prw_skip dS (fun q => na q.1)]; exact a3 i i0 i1))
