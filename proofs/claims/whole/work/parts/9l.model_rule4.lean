theorem oM_0_M_sum : OI YM 0 y_M_sum := ⟨by decide, _, _, _, cM_0, rfl⟩
/-! the reference reads a rule: comparisons -/
theorem cmp_of {A : Int → Int} {n k x : Int} {e : Bool} (h : sgn A n k = x) (h2 : decide (sgn A n (k + 1) = 61) = e) : cmpOp (sgn A n k) (decide (sgn A n (k + 1) = 61)) = cmpOp x e := by rw [h, h2]
set_option maxHeartbeats 4000000 in
theorem s_M_compare {μ : Mem} {Q : PV → Mem → Prop} {A : Int → Int} {n t k cl vl : Int} {w : List Int} {D : List CLS} {c : CLS} (hC : RM μ A n t k cl vl D c) (hI : IV n k w cl vl 6 D c) (ho : ¬ isOpn A n (sk A n k)) (hlt : ltop 4 w) (hE : ∀ e μ', RUN A n k w cl vl 6 D c (.error e) → Fr (Wsm t) μ μ' → μ' 0 14 = e → (1 ≤ e ∧ e ≤ 5000) → Q (vI 0) μ') (hG : ∀ μ' k' vl' c', (∀ x, RUN A n k' w cl vl' 7 D c' x → RUN A n k w cl vl 6 D c x) → Fr (Wsm t) μ μ' → RM μ' A n t k' cl vl' D c' → IV n k' w cl vl' 7 D c' → k < k' → sk A n k' = k' → PF c c' → Q (vI 1) μ') : Rj YM y_M_compare 0 [vA 0] [] μ Q := by
  obtain ⟨hA, hn, hX, hk, hw0, ht, hv, hc, hL, hl⟩ := id hC
  obtain ⟨i1, i2, i3, i4, i5, i6, i7, i8⟩ := id hI
  have nn := nM_le D c
  have hX1 := hX.1
  refine Rj_aload_n (q := 1) d_M_compare_0 rfl rfl rfl ?_
  refine Rj_vo (q := 4) (z := y_M_sum) (as := []) (rest := []) (la := [vA 0]) oM_0_M_sum ml_M_195 mw_M_sum mv_M_sum rfl d_M_compare_1 rfl rfl rfl rfl rfl ?_
  refine s_M_sum hC hI (by decide) (fun q => ho q.2) (hlt.mono (by decide)) (fun e m a1 a2 a3 a4 => ?_) (fun m k2 vl2 c2 a1 a2 a3 a4 a5 a6 pf1 => ?_)
  · have zz := True.intro
    refine Rj_if_ne (q := 7) (t := 9) d_M_compare_4 rfl (by decide) (by decide) (fun c => absurd c (by decide)) (fun _ => ?_)
    refine Rj_iconst (q := 8) d_M_compare_7 rfl ?_
    refine Rj_bret0 d_M_compare_8 rfl ?_
    exact hE e m a1 a2 a3 a4
  · rw [if_pos rfl] at a1 a4
    have j1 := a4.1
    have j3 := a4.2.2.1
    have j4 := a4.2.2.2.1
    refine Rj_if_ne (q := 7) (t := 9) d_M_compare_4 rfl (by decide) (by decide) (fun _ => ?_) (fun c => absurd c (by decide))
    refine Rj_aload_n (q := 10) d_M_compare_9 rfl rfl rfl ?_
    refine Rj_vo (q := 13) (z := y_M_see) (as := []) (rest := []) (la := [vA 0]) oM_0_M_see ml_M_113 mw_M_see mv_M_see rfl d_M_compare_10 rfl rfl rfl rfl rfl ?_
    refine s_M_see (μ := m) (A := A) (n := n) (k := k2) hX a3.1 a3.2.1 a3.2.2.2.1 (by omega) ?_
    rw [a6.1]
    have v10 := seeV_32 (n := n) hX (k := k2) (by omega)
    refine Rj_eqm (μ' := m) (mset_idv a3.2.2.2.1) ?_
    refine Rj_istore_n (q := 14) (ls' := [vA 0, vI (seeV A n k2)]) d_M_compare_13 rfl rfl (by decide) rfl ?_
    refine Rj_aload_n (q := 15) d_M_compare_14 rfl rfl rfl ?_
    refine Rj_gi (q := 18) (ki := 13) (v := k2) gM_M_110_0 rfl rfl a3.2.2.2.1 d_M_compare_15 rfl ?_
    refine Rj_istore_n (q := 19) (ls' := [vA 0, vI (seeV A n k2), vI k2]) d_M_compare_18 rfl rfl (by decide) rfl ?_
    refine Rj_iload_n (q := 20) d_M_compare_19 rfl rfl rfl ?_
    refine Rj_bipush (q := 22) d_M_compare_20 rfl (by decide +kernel) ?_
    refine Rj_icmp_eq (q := 25) (t := 44) d_M_compare_22 rfl (by decide) (by first | assumption | exact ⟨by omega, by omega⟩ | (have := hX.2 (k2 + 1) (by omega) (by omega); exact ⟨by omega, by omega⟩)) (by decide) (fun c22 => ?_) (fun c22 => ?_)
    · have sg : sgn A n k2 = 60 := (see_sgn hX (by omega) (by decide)).mp c22
      have kn := sgn_lt (by decide) sg
      rw [c22]
      refine Rj_aload_n (q := 45) d_M_compare_44 rfl rfl rfl ?_
      refine Rj_dup (q := 46) d_M_compare_45 rfl (by intro h; cases h) ?_
      refine Rj_gi (q := 49) (ki := 13) (v := k2) gM_M_110_0 rfl rfl a3.2.2.2.1 d_M_compare_46 rfl ?_
      refine Rj_iconst (q := 50) d_M_compare_49 rfl ?_
      refine Rj_iadd (q := 51) d_M_compare_50 rfl ?_
      refine Rj_pi (q := 54) (ki := 13) pM_M_110_0 rfl rfl d_M_compare_51 rfl ?_
      refine Rj_iload_n (q := 55) d_M_compare_54 rfl rfl rfl ?_
      refine Rj_bipush (q := 57) d_M_compare_55 rfl (by decide +kernel) ?_
      refine Rj_icmp_eq (q := 60) (t := 89) d_M_compare_57 rfl (by decide) (by decide) (by decide) (fun c => absurd c (by decide)) (fun _ => ?_)
      refine Rj_aload_n (q := 61) d_M_compare_60 rfl rfl rfl ?_
      refine Rj_gi (q := 64) (ki := 13) (v := k2 + 1) gM_M_110_0 rfl rfl rfl d_M_compare_61 rfl ?_
      refine Rj_aload_n (q := 65) d_M_compare_64 rfl rfl rfl ?_
      refine Rj_gi (q := 68) (ki := 1) (v := n) gM_M_99_0 rfl rfl a3.2.1 d_M_compare_65 rfl ?_
      refine Rj_icmp_ge (q := 71) (t := 89) d_M_compare_68 rfl (by decide) (by first | assumption | exact ⟨by omega, by omega⟩ | (have := hX.2 (k2 + 1) (by omega) (by omega); exact ⟨by omega, by omega⟩)) (by first | assumption | exact ⟨by omega, by omega⟩ | (have := hX.2 (k2 + 1) (by omega) (by omega); exact ⟨by omega, by omega⟩)) (fun c68 => ?_) (fun c68 => ?_)
      · have hal : decide (sgn A n (k2 + 1) = 61) = false := decide_eq_false (fun q => by have := sgn_lt (by decide) q; omega)
        refine Rj_iconst (q := 90) d_M_compare_89 rfl ?_
        refine Rj_istore_n (q := 91) (ls' := [vA 0, vI 60, vI k2, vI 0]) d_M_compare_90 rfl rfl (by decide) rfl ?_
        refine Rj_iload_n (q := 92) d_M_compare_91 rfl rfl rfl ?_
        refine Rj_if_eq (q := 95) (t := 105) d_M_compare_92 rfl (by decide) (by decide) (fun _ => ?_) (fun c => absurd c (by decide))
        refine Rj_aload_n (q := 106) d_M_compare_105 rfl rfl rfl ?_
        refine Rj_iload_n (q := 107) d_M_compare_106 rfl rfl rfl ?_
        refine Rj_vo (q := 110) (z := y_M_makes) (as := [vI k2]) (rest := []) (la := [vA 0, vI k2]) oM_0_M_makes ml_M_182 mw_M_makes mv_M_makes rfl d_M_compare_107 rfl rfl rfl rfl rfl ?_
        refine Rj_aload_n (q := 1) d_M_makes_0 rfl rfl rfl ?_
        refine Rj_gi (q := 4) (ki := 17) (v := vl2) gM_M_161_0 rfl rfl a3.2.2.2.2.2.2.1 d_M_makes_1 rfl ?_
        refine Rj_bipush (q := 6) d_M_makes_4 rfl (by decide +kernel) ?_
        refine Rj_icmp_ne (q := 9) (t := 16) d_M_makes_6 rfl (by decide) (by first | assumption | exact ⟨by omega, by omega⟩ | (have := hX.2 (k2 + 1) (by omega) (by omega); exact ⟨by omega, by omega⟩)) (by decide) (fun c107_6 => ?_) (fun c107_6 => ?_)
        · refine Rj_aload_n (q := 17) d_M_makes_16 rfl rfl rfl ?_
          refine Rj_dup (q := 18) d_M_makes_17 rfl (by intro h; cases h) ?_
          refine Rj_gi (q := 21) (ki := 17) (v := vl2) gM_M_161_0 rfl rfl a3.2.2.2.2.2.2.1 d_M_makes_18 rfl ?_
          refine Rj_iconst (q := 22) d_M_makes_21 rfl ?_
          refine Rj_iadd (q := 23) d_M_makes_22 rfl ?_
          refine Rj_pi (q := 26) (ki := 17) pM_M_161_0 rfl rfl d_M_makes_23 rfl ?_
          refine Rj_iconst (q := 27) d_M_makes_26 rfl ?_
          refine Rj_bret1 d_M_makes_27 rfl ?_
          refine Rj_if_ne (q := 113) (t := 115) d_M_compare_110 rfl (by decide) (by decide) (fun _ => ?_) (fun c => absurd c (by decide))
          refine Rj_iload_n (q := 116) d_M_compare_115 rfl rfl rfl ?_
          refine Rj_bipush (q := 118) d_M_compare_116 rfl (by decide +kernel) ?_
          refine Rj_icmp_ne (q := 121) (t := 133) d_M_compare_118 rfl (by decide) (by decide) (by decide) (fun c => absurd c (by decide)) (fun _ => ?_)
          refine Rj_iload_n (q := 122) d_M_compare_121 rfl rfl rfl ?_
          refine Rj_if_eq (q := 125) (t := 129) d_M_compare_122 rfl (by decide) (by decide) (fun _ => ?_) (fun c => absurd c (by decide))
          refine Rj_iconst (q := 130) d_M_compare_129 rfl ?_
          refine Rj_goto (t := 152) d_M_compare_130 (by decide) ?_
          refine Rj_istore (q := 154) (ls' := [vA 0, vI 60, vI k2, vI 0, vI 0]) d_M_compare_152 rfl (by decide) rfl ?_
          refine Rj_aload_n (q := 155) d_M_compare_154 rfl rfl rfl ?_
          refine Rj_vo (q := 158) (z := y_M_sum) (as := []) (rest := []) (la := [vA 0]) oM_0_M_sum ml_M_195 mw_M_sum mv_M_sum rfl d_M_compare_155 rfl rfl rfl rfl rfl ?_
          have hop : cmpOp (sgn A n k2) (decide (sgn A n (k2 + 1) = 61)) = 12 := by
            rw [cmp_of sg hal]; rfl
          have cv0 : RM ((mset (mset m 0 13 (k2 + 1)) 0 17 (vl2 + 1))) A n t (k2 + 1) cl (vl2 + 1) D c2 := a3.upd (Fr.put (Fr.put (Fr.refl _ _) (by omega)) (by omega)) rfl rfl a3.2.2.2.2.2.2.2.1
          have iv0 : IV n (k2 + 1) (12 :: w) cl (vl2 + 1) 4 D c2 := (a4.push_v (op := 12) (by decide) (fun q => absurd q (by decide)) (by omega) (by omega) (by omega)).at (by decide) (by decide)
          have fr0 : Fr (Wsm t) μ ((mset (mset m 0 13 (k2 + 1)) 0 17 (vl2 + 1))) := Fr.trans a2 (Fr.put (Fr.put (Fr.refl _ _) (by unfold Wsm; omega)) (by unfold Wsm; omega))
          have stp : ∀ x, RUN A n (k2 + 1) (12 :: w) cl (vl2 + 1) 4 D c2 x → RUN A n k w cl vl 6 D c x := fun x g => a1 x (RUN_cmp a6.1 a6.2 hop (by decide) (by omega) (by rw [if_neg (by decide)]) (ltop_stl hlt) g)
          refine s_M_sum (w := 12 :: w) cv0 iv0 (by decide) (fun q => absurd q.1 (by decide)) (show bnd 12 < 5 by decide) (fun e m3 b1 b2 b3 b4 => ?_) (fun m3 k3 vl3 c3 b1 b2 b3 b4 b5 b6 pf2 => ?_)
          · have zz := True.intro
            refine Rj_if_ne (q := 161) (t := 163) d_M_compare_158 rfl (by decide) (by decide) (fun c => absurd c (by decide)) (fun _ => ?_)
            refine Rj_iconst (q := 162) d_M_compare_161 rfl ?_
            refine Rj_bret0 d_M_compare_162 rfl ?_
            exact hE e m3 (stp _ b1) (fr0.trans b2) b3 b4
          · rw [if_neg (by decide)] at b1 b4
            have n1 := b4.1
            have n4 := b4.2.2.2.1
            have nn3 := nM_le D c3
            refine Rj_if_ne (q := 161) (t := 163) d_M_compare_158 rfl (by decide) (by decide) (fun _ => ?_) (fun c => absurd c (by decide))
            refine Rj_aload_n (q := 164) d_M_compare_163 rfl rfl rfl ?_
            refine Rj_bipush (q := 166) d_M_compare_164 rfl (by decide +kernel) ?_
            refine Rj_iload (q := 168) d_M_compare_166 rfl rfl ?_
            refine Rj_iadd (q := 169) d_M_compare_168 rfl ?_
            refine Rj_iconst (q := 170) d_M_compare_169 rfl ?_
            refine Rj_vov (q := 173) (z := y_M_puts) (as := [vI (6 + 0), vI 0]) (rest := []) (la := [vA 0, vI (6 + 0), vI 0]) oM_0_M_puts ml_M_174 mw_M_puts mv_M_puts rfl d_M_compare_170 rfl rfl rfl rfl rfl ?_
            have cv := b3
            refine s_M_puts cv.2.2.2.2.2.1 cv.2.2.2.2.2.2.2.2.1 (cv.2.2.2.2.2.2.2.2.2.trans (nM_len D c3)) (by rw [← nM_len]; omega) (fun m4 fm4 lm4 lm42 => ?_)
            have cm4 := cv.emit (op := 12) fm4 (by rw [show enc 12 = (6 + 0) + 16 * 0 by decide]; exact lm4) lm42
            have fr4 : Fr (Wsm t) μ m4 := Fr.trans (Fr.trans fr0 b2) (Fr.wide fm4 (fun c i q => by unfold Wpu at q; unfold Wsm; omega))
            refine Rj_iconst (q := 174) d_M_compare_173 rfl ?_
            refine Rj_bret1 d_M_compare_174 rfl ?_
            exact hG m4 k3 vl3 (emt 12 c3) (fun x g => stp x (b1 x (RUN_early b6.1 (by decide) (fun _ q => absurd q b6.2) (fun q => absurd q (by decide)) (by decide) (RUN_57 b6.1 b6.2 g)))) fr4 cm4 (b4.down.at (by decide) (by decide)) (by omega) b6.1 (pf1.trans (pf2.trans (PF_emt _ _)))
        · refine Rj_aload_n (q := 10) d_M_makes_9 rfl rfl rfl ?_
          refine Rj_iconst (q := 11) d_M_makes_10 rfl ?_
          refine Rj_iload_n (q := 12) d_M_makes_11 rfl rfl rfl ?_
          refine Rj_vo (q := 15) (z := y_M_fails) (as := [vI 3, vI k2]) (rest := []) (la := [vA 0, vI 3, vI k2]) oM_0_M_fails ml_M_131 mw_M_fails mv_M_fails rfl d_M_makes_12 rfl rfl rfl rfl rfl ?_
          refine s_M_fails a3.2.2.2.2.1 ?_
          refine Rj_bret0 d_M_makes_15 rfl ?_
          refine Rj_if_ne (q := 113) (t := 115) d_M_compare_110 rfl (by decide) (by decide) (fun c => absurd c (by decide)) (fun _ => ?_)
          refine Rj_iconst (q := 114) d_M_compare_113 rfl ?_
          refine Rj_bret0 d_M_compare_114 rfl ?_
          exact hE (1 + 8 * k2 + 3) _ (a1 _ (RUN_cmany a6.1 a6.2 (by rw [cmp_of sg hal]; decide) (by omega))) (Fr.trans a2 (Fr.put (Fr.put (Fr.refl _ _) (by unfold Wsm; omega)) (by unfold Wsm; omega))) rfl (by omega)
      · refine Rj_aload_n (q := 72) d_M_compare_71 rfl rfl rfl ?_
        refine Rj_gr (q := 75) (zd := 1) gM_M_7_0 rfl rfl d_M_compare_72 rfl ?_
        refine Rj_aload_n (q := 76) d_M_compare_75 rfl rfl rfl ?_
        refine Rj_gi (q := 79) (ki := 13) (v := k2 + 1) gM_M_110_0 rfl rfl rfl d_M_compare_76 rfl ?_
        refine Rj_ba (q := 80) (v := A (k2 + 1)) aM_1 rfl (by omega) (congrFun a3.1 _) d_M_compare_79 rfl ?_
        refine Rj_bipush (q := 82) d_M_compare_80 rfl (by decide +kernel) ?_
        refine Rj_icmp_ne (q := 85) (t := 89) d_M_compare_82 rfl (by decide) (by first | assumption | exact ⟨by omega, by omega⟩ | (have := hX.2 (k2 + 1) (by omega) (by omega); exact ⟨by omega, by omega⟩)) (by decide) (fun c82 => ?_) (fun c82 => ?_)
        · have hal : decide (sgn A n (k2 + 1) = 61) = false := decide_eq_false (fun q => c82 ((sgn_eq (by decide)).mp q).2)
          refine Rj_iconst (q := 90) d_M_compare_89 rfl ?_
          refine Rj_istore_n (q := 91) (ls' := [vA 0, vI 60, vI k2, vI 0]) d_M_compare_90 rfl rfl (by decide) rfl ?_
          refine Rj_iload_n (q := 92) d_M_compare_91 rfl rfl rfl ?_
          refine Rj_if_eq (q := 95) (t := 105) d_M_compare_92 rfl (by decide) (by decide) (fun _ => ?_) (fun c => absurd c (by decide))
          refine Rj_aload_n (q := 106) d_M_compare_105 rfl rfl rfl ?_
          refine Rj_iload_n (q := 107) d_M_compare_106 rfl rfl rfl ?_
          refine Rj_vo (q := 110) (z := y_M_makes) (as := [vI k2]) (rest := []) (la := [vA 0, vI k2]) oM_0_M_makes ml_M_182 mw_M_makes mv_M_makes rfl d_M_compare_107 rfl rfl rfl rfl rfl ?_
          refine Rj_aload_n (q := 1) d_M_makes_0 rfl rfl rfl ?_
          refine Rj_gi (q := 4) (ki := 17) (v := vl2) gM_M_161_0 rfl rfl a3.2.2.2.2.2.2.1 d_M_makes_1 rfl ?_
          refine Rj_bipush (q := 6) d_M_makes_4 rfl (by decide +kernel) ?_
          refine Rj_icmp_ne (q := 9) (t := 16) d_M_makes_6 rfl (by decide) (by first | assumption | exact ⟨by omega, by omega⟩ | (have := hX.2 (k2 + 1) (by omega) (by omega); exact ⟨by omega, by omega⟩)) (by decide) (fun c107_6 => ?_) (fun c107_6 => ?_)
          · refine Rj_aload_n (q := 17) d_M_makes_16 rfl rfl rfl ?_
            refine Rj_dup (q := 18) d_M_makes_17 rfl (by intro h; cases h) ?_
            refine Rj_gi (q := 21) (ki := 17) (v := vl2) gM_M_161_0 rfl rfl a3.2.2.2.2.2.2.1 d_M_makes_18 rfl ?_
            refine Rj_iconst (q := 22) d_M_makes_21 rfl ?_
            refine Rj_iadd (q := 23) d_M_makes_22 rfl ?_
            refine Rj_pi (q := 26) (ki := 17) pM_M_161_0 rfl rfl d_M_makes_23 rfl ?_
            refine Rj_iconst (q := 27) d_M_makes_26 rfl ?_
            refine Rj_bret1 d_M_makes_27 rfl ?_
            refine Rj_if_ne (q := 113) (t := 115) d_M_compare_110 rfl (by decide) (by decide) (fun _ => ?_) (fun c => absurd c (by decide))
            refine Rj_iload_n (q := 116) d_M_compare_115 rfl rfl rfl ?_
            refine Rj_bipush (q := 118) d_M_compare_116 rfl (by decide +kernel) ?_
            refine Rj_icmp_ne (q := 121) (t := 133) d_M_compare_118 rfl (by decide) (by decide) (by decide) (fun c => absurd c (by decide)) (fun _ => ?_)
            refine Rj_iload_n (q := 122) d_M_compare_121 rfl rfl rfl ?_
            refine Rj_if_eq (q := 125) (t := 129) d_M_compare_122 rfl (by decide) (by decide) (fun _ => ?_) (fun c => absurd c (by decide))
            refine Rj_iconst (q := 130) d_M_compare_129 rfl ?_
            refine Rj_goto (t := 152) d_M_compare_130 (by decide) ?_
            refine Rj_istore (q := 154) (ls' := [vA 0, vI 60, vI k2, vI 0, vI 0]) d_M_compare_152 rfl (by decide) rfl ?_
            refine Rj_aload_n (q := 155) d_M_compare_154 rfl rfl rfl ?_
            refine Rj_vo (q := 158) (z := y_M_sum) (as := []) (rest := []) (la := [vA 0]) oM_0_M_sum ml_M_195 mw_M_sum mv_M_sum rfl d_M_compare_155 rfl rfl rfl rfl rfl ?_
            have hop : cmpOp (sgn A n k2) (decide (sgn A n (k2 + 1) = 61)) = 12 := by
              rw [cmp_of sg hal]; rfl
            have cv0 : RM ((mset (mset m 0 13 (k2 + 1)) 0 17 (vl2 + 1))) A n t (k2 + 1) cl (vl2 + 1) D c2 := a3.upd (Fr.put (Fr.put (Fr.refl _ _) (by omega)) (by omega)) rfl rfl a3.2.2.2.2.2.2.2.1
            have iv0 : IV n (k2 + 1) (12 :: w) cl (vl2 + 1) 4 D c2 := (a4.push_v (op := 12) (by decide) (fun q => absurd q (by decide)) (by omega) (by omega) (by omega)).at (by decide) (by decide)
            have fr0 : Fr (Wsm t) μ ((mset (mset m 0 13 (k2 + 1)) 0 17 (vl2 + 1))) := Fr.trans a2 (Fr.put (Fr.put (Fr.refl _ _) (by unfold Wsm; omega)) (by unfold Wsm; omega))
            have stp : ∀ x, RUN A n (k2 + 1) (12 :: w) cl (vl2 + 1) 4 D c2 x → RUN A n k w cl vl 6 D c x := fun x g => a1 x (RUN_cmp a6.1 a6.2 hop (by decide) (by omega) (by rw [if_neg (by decide)]) (ltop_stl hlt) g)
            refine s_M_sum (w := 12 :: w) cv0 iv0 (by decide) (fun q => absurd q.1 (by decide)) (show bnd 12 < 5 by decide) (fun e m3 b1 b2 b3 b4 => ?_) (fun m3 k3 vl3 c3 b1 b2 b3 b4 b5 b6 pf2 => ?_)
            · have zz := True.intro
              refine Rj_if_ne (q := 161) (t := 163) d_M_compare_158 rfl (by decide) (by decide) (fun c => absurd c (by decide)) (fun _ => ?_)
              refine Rj_iconst (q := 162) d_M_compare_161 rfl ?_
              refine Rj_bret0 d_M_compare_162 rfl ?_
              exact hE e m3 (stp _ b1) (fr0.trans b2) b3 b4
            · rw [if_neg (by decide)] at b1 b4
              have n1 := b4.1
              have n4 := b4.2.2.2.1
              have nn3 := nM_le D c3
              refine Rj_if_ne (q := 161) (t := 163) d_M_compare_158 rfl (by decide) (by decide) (fun _ => ?_) (fun c => absurd c (by decide))
              refine Rj_aload_n (q := 164) d_M_compare_163 rfl rfl rfl ?_
              refine Rj_bipush (q := 166) d_M_compare_164 rfl (by decide +kernel) ?_
              refine Rj_iload (q := 168) d_M_compare_166 rfl rfl ?_
              refine Rj_iadd (q := 169) d_M_compare_168 rfl ?_
              refine Rj_iconst (q := 170) d_M_compare_169 rfl ?_
              refine Rj_vov (q := 173) (z := y_M_puts) (as := [vI (6 + 0), vI 0]) (rest := []) (la := [vA 0, vI (6 + 0), vI 0]) oM_0_M_puts ml_M_174 mw_M_puts mv_M_puts rfl d_M_compare_170 rfl rfl rfl rfl rfl ?_
              have cv := b3
              refine s_M_puts cv.2.2.2.2.2.1 cv.2.2.2.2.2.2.2.2.1 (cv.2.2.2.2.2.2.2.2.2.trans (nM_len D c3)) (by rw [← nM_len]; omega) (fun m4 fm4 lm4 lm42 => ?_)
              have cm4 := cv.emit (op := 12) fm4 (by rw [show enc 12 = (6 + 0) + 16 * 0 by decide]; exact lm4) lm42
              have fr4 : Fr (Wsm t) μ m4 := Fr.trans (Fr.trans fr0 b2) (Fr.wide fm4 (fun c i q => by unfold Wpu at q; unfold Wsm; omega))
              refine Rj_iconst (q := 174) d_M_compare_173 rfl ?_
              refine Rj_bret1 d_M_compare_174 rfl ?_
              exact hG m4 k3 vl3 (emt 12 c3) (fun x g => stp x (b1 x (RUN_early b6.1 (by decide) (fun _ q => absurd q b6.2) (fun q => absurd q (by decide)) (by decide) (RUN_57 b6.1 b6.2 g)))) fr4 cm4 (b4.down.at (by decide) (by decide)) (by omega) b6.1 (pf1.trans (pf2.trans (PF_emt _ _)))
          · refine Rj_aload_n (q := 10) d_M_makes_9 rfl rfl rfl ?_
            refine Rj_iconst (q := 11) d_M_makes_10 rfl ?_
            refine Rj_iload_n (q := 12) d_M_makes_11 rfl rfl rfl ?_
            refine Rj_vo (q := 15) (z := y_M_fails) (as := [vI 3, vI k2]) (rest := []) (la := [vA 0, vI 3, vI k2]) oM_0_M_fails ml_M_131 mw_M_fails mv_M_fails rfl d_M_makes_12 rfl rfl rfl rfl rfl ?_
            refine s_M_fails a3.2.2.2.2.1 ?_
            refine Rj_bret0 d_M_makes_15 rfl ?_
            refine Rj_if_ne (q := 113) (t := 115) d_M_compare_110 rfl (by decide) (by decide) (fun c => absurd c (by decide)) (fun _ => ?_)
            refine Rj_iconst (q := 114) d_M_compare_113 rfl ?_
            refine Rj_bret0 d_M_compare_114 rfl ?_
            exact hE (1 + 8 * k2 + 3) _ (a1 _ (RUN_cmany a6.1 a6.2 (by rw [cmp_of sg hal]; decide) (by omega))) (Fr.trans a2 (Fr.put (Fr.put (Fr.refl _ _) (by unfold Wsm; omega)) (by unfold Wsm; omega))) rfl (by omega)
        · have hal : decide (sgn A n (k2 + 1) = 61) = true := decide_eq_true ((sgn_eq (by decide)).mpr ⟨by omega, c82⟩)
          refine Rj_iconst (q := 86) d_M_compare_85 rfl ?_
          refine Rj_goto (t := 90) d_M_compare_86 (by decide) ?_
          refine Rj_istore_n (q := 91) (ls' := [vA 0, vI 60, vI k2, vI 1]) d_M_compare_90 rfl rfl (by decide) rfl ?_
          refine Rj_iload_n (q := 92) d_M_compare_91 rfl rfl rfl ?_
          refine Rj_if_eq (q := 95) (t := 105) d_M_compare_92 rfl (by decide) (by decide) (fun c => absurd c (by decide)) (fun _ => ?_)
          refine Rj_aload_n (q := 96) d_M_compare_95 rfl rfl rfl ?_
          refine Rj_dup (q := 97) d_M_compare_96 rfl (by intro h; cases h) ?_
          refine Rj_gi (q := 100) (ki := 13) (v := k2 + 1) gM_M_110_0 rfl rfl rfl d_M_compare_97 rfl ?_
          refine Rj_iconst (q := 101) d_M_compare_100 rfl ?_
          refine Rj_iadd (q := 102) d_M_compare_101 rfl ?_
          refine Rj_pi (q := 105) (ki := 13) pM_M_110_0 rfl rfl d_M_compare_102 rfl ?_
          rw [mset_mset]
          refine Rj_aload_n (q := 106) d_M_compare_105 rfl rfl rfl ?_
          refine Rj_iload_n (q := 107) d_M_compare_106 rfl rfl rfl ?_
          refine Rj_vo (q := 110) (z := y_M_makes) (as := [vI k2]) (rest := []) (la := [vA 0, vI k2]) oM_0_M_makes ml_M_182 mw_M_makes mv_M_makes rfl d_M_compare_107 rfl rfl rfl rfl rfl ?_
          refine Rj_aload_n (q := 1) d_M_makes_0 rfl rfl rfl ?_
          refine Rj_gi (q := 4) (ki := 17) (v := vl2) gM_M_161_0 rfl rfl a3.2.2.2.2.2.2.1 d_M_makes_1 rfl ?_
          refine Rj_bipush (q := 6) d_M_makes_4 rfl (by decide +kernel) ?_
          refine Rj_icmp_ne (q := 9) (t := 16) d_M_makes_6 rfl (by decide) (by first | assumption | exact ⟨by omega, by omega⟩ | (have := hX.2 (k2 + 1) (by omega) (by omega); exact ⟨by omega, by omega⟩)) (by decide) (fun c107_6 => ?_) (fun c107_6 => ?_)
          · refine Rj_aload_n (q := 17) d_M_makes_16 rfl rfl rfl ?_
            refine Rj_dup (q := 18) d_M_makes_17 rfl (by intro h; cases h) ?_
            refine Rj_gi (q := 21) (ki := 17) (v := vl2) gM_M_161_0 rfl rfl a3.2.2.2.2.2.2.1 d_M_makes_18 rfl ?_
            refine Rj_iconst (q := 22) d_M_makes_21 rfl ?_
            refine Rj_iadd (q := 23) d_M_makes_22 rfl ?_
            refine Rj_pi (q := 26) (ki := 17) pM_M_161_0 rfl rfl d_M_makes_23 rfl ?_
            refine Rj_iconst (q := 27) d_M_makes_26 rfl ?_
            refine Rj_bret1 d_M_makes_27 rfl ?_
            refine Rj_if_ne (q := 113) (t := 115) d_M_compare_110 rfl (by decide) (by decide) (fun _ => ?_) (fun c => absurd c (by decide))
            refine Rj_iload_n (q := 116) d_M_compare_115 rfl rfl rfl ?_
            refine Rj_bipush (q := 118) d_M_compare_116 rfl (by decide +kernel) ?_
            refine Rj_icmp_ne (q := 121) (t := 133) d_M_compare_118 rfl (by decide) (by decide) (by decide) (fun c => absurd c (by decide)) (fun _ => ?_)
            refine Rj_iload_n (q := 122) d_M_compare_121 rfl rfl rfl ?_
            refine Rj_if_eq (q := 125) (t := 129) d_M_compare_122 rfl (by decide) (by decide) (fun c => absurd c (by decide)) (fun _ => ?_)
            refine Rj_iconst (q := 126) d_M_compare_125 rfl ?_
            refine Rj_goto (t := 152) d_M_compare_126 (by decide) ?_
            refine Rj_istore (q := 154) (ls' := [vA 0, vI 60, vI k2, vI 1, vI 1]) d_M_compare_152 rfl (by decide) rfl ?_
            refine Rj_aload_n (q := 155) d_M_compare_154 rfl rfl rfl ?_
            refine Rj_vo (q := 158) (z := y_M_sum) (as := []) (rest := []) (la := [vA 0]) oM_0_M_sum ml_M_195 mw_M_sum mv_M_sum rfl d_M_compare_155 rfl rfl rfl rfl rfl ?_
            have hop : cmpOp (sgn A n k2) (decide (sgn A n (k2 + 1) = 61)) = 13 := by
              rw [cmp_of sg hal]; rfl
            have cv0 : RM ((mset (mset m 0 13 ((k2 + 1) + 1)) 0 17 (vl2 + 1))) A n t ((k2 + 1) + 1) cl (vl2 + 1) D c2 := a3.upd (Fr.put (Fr.put (Fr.refl _ _) (by omega)) (by omega)) rfl rfl a3.2.2.2.2.2.2.2.1
            have iv0 : IV n ((k2 + 1) + 1) (13 :: w) cl (vl2 + 1) 4 D c2 := (a4.push_v (op := 13) (by decide) (fun q => absurd q (by decide)) (by omega) (by omega) (by omega)).at (by decide) (by decide)
            have fr0 : Fr (Wsm t) μ ((mset (mset m 0 13 ((k2 + 1) + 1)) 0 17 (vl2 + 1))) := Fr.trans a2 (Fr.put (Fr.put (Fr.refl _ _) (by unfold Wsm; omega)) (by unfold Wsm; omega))
            have stp : ∀ x, RUN A n ((k2 + 1) + 1) (13 :: w) cl (vl2 + 1) 4 D c2 x → RUN A n k w cl vl 6 D c x := fun x g => a1 x (RUN_cmp a6.1 a6.2 hop (by decide) (by omega) (by rw [if_pos (by decide)]; omega) (ltop_stl hlt) g)
            refine s_M_sum (w := 13 :: w) cv0 iv0 (by decide) (fun q => absurd q.1 (by decide)) (show bnd 13 < 5 by decide) (fun e m3 b1 b2 b3 b4 => ?_) (fun m3 k3 vl3 c3 b1 b2 b3 b4 b5 b6 pf2 => ?_)
            · have zz := True.intro
              refine Rj_if_ne (q := 161) (t := 163) d_M_compare_158 rfl (by decide) (by decide) (fun c => absurd c (by decide)) (fun _ => ?_)
              refine Rj_iconst (q := 162) d_M_compare_161 rfl ?_
              refine Rj_bret0 d_M_compare_162 rfl ?_
              exact hE e m3 (stp _ b1) (fr0.trans b2) b3 b4
            · rw [if_neg (by decide)] at b1 b4
              have n1 := b4.1
              have n4 := b4.2.2.2.1
              have nn3 := nM_le D c3
              refine Rj_if_ne (q := 161) (t := 163) d_M_compare_158 rfl (by decide) (by decide) (fun _ => ?_) (fun c => absurd c (by decide))
              refine Rj_aload_n (q := 164) d_M_compare_163 rfl rfl rfl ?_
              refine Rj_bipush (q := 166) d_M_compare_164 rfl (by decide +kernel) ?_
              refine Rj_iload (q := 168) d_M_compare_166 rfl rfl ?_
              refine Rj_iadd (q := 169) d_M_compare_168 rfl ?_
              refine Rj_iconst (q := 170) d_M_compare_169 rfl ?_
              refine Rj_vov (q := 173) (z := y_M_puts) (as := [vI (6 + 1), vI 0]) (rest := []) (la := [vA 0, vI (6 + 1), vI 0]) oM_0_M_puts ml_M_174 mw_M_puts mv_M_puts rfl d_M_compare_170 rfl rfl rfl rfl rfl ?_
              have cv := b3
              refine s_M_puts cv.2.2.2.2.2.1 cv.2.2.2.2.2.2.2.2.1 (cv.2.2.2.2.2.2.2.2.2.trans (nM_len D c3)) (by rw [← nM_len]; omega) (fun m4 fm4 lm4 lm42 => ?_)
              have cm4 := cv.emit (op := 13) fm4 (by rw [show enc 13 = (6 + 1) + 16 * 0 by decide]; exact lm4) lm42
              have fr4 : Fr (Wsm t) μ m4 := Fr.trans (Fr.trans fr0 b2) (Fr.wide fm4 (fun c i q => by unfold Wpu at q; unfold Wsm; omega))
              refine Rj_iconst (q := 174) d_M_compare_173 rfl ?_
              refine Rj_bret1 d_M_compare_174 rfl ?_
              exact hG m4 k3 vl3 (emt 13 c3) (fun x g => stp x (b1 x (RUN_early b6.1 (by decide) (fun _ q => absurd q b6.2) (fun q => absurd q (by decide)) (by decide) (RUN_57 b6.1 b6.2 g)))) fr4 cm4 (b4.down.at (by decide) (by decide)) (by omega) b6.1 (pf1.trans (pf2.trans (PF_emt _ _)))
          · refine Rj_aload_n (q := 10) d_M_makes_9 rfl rfl rfl ?_
            refine Rj_iconst (q := 11) d_M_makes_10 rfl ?_
            refine Rj_iload_n (q := 12) d_M_makes_11 rfl rfl rfl ?_
            refine Rj_vo (q := 15) (z := y_M_fails) (as := [vI 3, vI k2]) (rest := []) (la := [vA 0, vI 3, vI k2]) oM_0_M_fails ml_M_131 mw_M_fails mv_M_fails rfl d_M_makes_12 rfl rfl rfl rfl rfl ?_
            refine s_M_fails a3.2.2.2.2.1 ?_
            refine Rj_bret0 d_M_makes_15 rfl ?_
            refine Rj_if_ne (q := 113) (t := 115) d_M_compare_110 rfl (by decide) (by decide) (fun c => absurd c (by decide)) (fun _ => ?_)
            refine Rj_iconst (q := 114) d_M_compare_113 rfl ?_
            refine Rj_bret0 d_M_compare_114 rfl ?_
            exact hE (1 + 8 * k2 + 3) _ (a1 _ (RUN_cmany a6.1 a6.2 (by rw [cmp_of sg hal]; decide) (by omega))) (Fr.trans a2 (Fr.put (Fr.put (Fr.refl _ _) (by unfold Wsm; omega)) (by unfold Wsm; omega))) rfl (by omega)
    · refine Rj_iload_n (q := 26) d_M_compare_25 rfl rfl rfl ?_
      refine Rj_bipush (q := 28) d_M_compare_26 rfl (by decide +kernel) ?_
      refine Rj_icmp_eq (q := 31) (t := 44) d_M_compare_28 rfl (by decide) (by first | assumption | exact ⟨by omega, by omega⟩ | (have := hX.2 (k2 + 1) (by omega) (by omega); exact ⟨by omega, by omega⟩)) (by decide) (fun c28 => ?_) (fun c28 => ?_)
      · have sg : sgn A n k2 = 61 := (see_sgn hX (by omega) (by decide)).mp c28
        have kn := sgn_lt (by decide) sg
        rw [c28]
        refine Rj_aload_n (q := 45) d_M_compare_44 rfl rfl rfl ?_
        refine Rj_dup (q := 46) d_M_compare_45 rfl (by intro h; cases h) ?_
        refine Rj_gi (q := 49) (ki := 13) (v := k2) gM_M_110_0 rfl rfl a3.2.2.2.1 d_M_compare_46 rfl ?_
        refine Rj_iconst (q := 50) d_M_compare_49 rfl ?_
        refine Rj_iadd (q := 51) d_M_compare_50 rfl ?_
        refine Rj_pi (q := 54) (ki := 13) pM_M_110_0 rfl rfl d_M_compare_51 rfl ?_
        refine Rj_iload_n (q := 55) d_M_compare_54 rfl rfl rfl ?_
        refine Rj_bipush (q := 57) d_M_compare_55 rfl (by decide +kernel) ?_
        refine Rj_icmp_eq (q := 60) (t := 89) d_M_compare_57 rfl (by decide) (by decide) (by decide) (fun _ => ?_) (fun c => absurd c (by decide))
        refine Rj_iconst (q := 90) d_M_compare_89 rfl ?_
        refine Rj_istore_n (q := 91) (ls' := [vA 0, vI 61, vI k2, vI 0]) d_M_compare_90 rfl rfl (by decide) rfl ?_
        refine Rj_iload_n (q := 92) d_M_compare_91 rfl rfl rfl ?_
        refine Rj_if_eq (q := 95) (t := 105) d_M_compare_92 rfl (by decide) (by decide) (fun _ => ?_) (fun c => absurd c (by decide))
        refine Rj_aload_n (q := 106) d_M_compare_105 rfl rfl rfl ?_
        refine Rj_iload_n (q := 107) d_M_compare_106 rfl rfl rfl ?_
        refine Rj_vo (q := 110) (z := y_M_makes) (as := [vI k2]) (rest := []) (la := [vA 0, vI k2]) oM_0_M_makes ml_M_182 mw_M_makes mv_M_makes rfl d_M_compare_107 rfl rfl rfl rfl rfl ?_
        refine Rj_aload_n (q := 1) d_M_makes_0 rfl rfl rfl ?_
        refine Rj_gi (q := 4) (ki := 17) (v := vl2) gM_M_161_0 rfl rfl a3.2.2.2.2.2.2.1 d_M_makes_1 rfl ?_
        refine Rj_bipush (q := 6) d_M_makes_4 rfl (by decide +kernel) ?_
        refine Rj_icmp_ne (q := 9) (t := 16) d_M_makes_6 rfl (by decide) (by first | assumption | exact ⟨by omega, by omega⟩ | (have := hX.2 (k2 + 1) (by omega) (by omega); exact ⟨by omega, by omega⟩)) (by decide) (fun c107_6 => ?_) (fun c107_6 => ?_)
        · refine Rj_aload_n (q := 17) d_M_makes_16 rfl rfl rfl ?_
          refine Rj_dup (q := 18) d_M_makes_17 rfl (by intro h; cases h) ?_
          refine Rj_gi (q := 21) (ki := 17) (v := vl2) gM_M_161_0 rfl rfl a3.2.2.2.2.2.2.1 d_M_makes_18 rfl ?_
          refine Rj_iconst (q := 22) d_M_makes_21 rfl ?_
          refine Rj_iadd (q := 23) d_M_makes_22 rfl ?_
          refine Rj_pi (q := 26) (ki := 17) pM_M_161_0 rfl rfl d_M_makes_23 rfl ?_
          refine Rj_iconst (q := 27) d_M_makes_26 rfl ?_
          refine Rj_bret1 d_M_makes_27 rfl ?_
          refine Rj_if_ne (q := 113) (t := 115) d_M_compare_110 rfl (by decide) (by decide) (fun _ => ?_) (fun c => absurd c (by decide))
          refine Rj_iload_n (q := 116) d_M_compare_115 rfl rfl rfl ?_
          refine Rj_bipush (q := 118) d_M_compare_116 rfl (by decide +kernel) ?_
          refine Rj_icmp_ne (q := 121) (t := 133) d_M_compare_118 rfl (by decide) (by decide) (by decide) (fun _ => ?_) (fun c => absurd c (by decide))
          refine Rj_iload_n (q := 134) d_M_compare_133 rfl rfl rfl ?_
          refine Rj_bipush (q := 136) d_M_compare_134 rfl (by decide +kernel) ?_
          refine Rj_icmp_ne (q := 139) (t := 143) d_M_compare_136 rfl (by decide) (by decide) (by decide) (fun c => absurd c (by decide)) (fun _ => ?_)
          refine Rj_iconst (q := 140) d_M_compare_139 rfl ?_
          refine Rj_goto (t := 152) d_M_compare_140 (by decide) ?_
          refine Rj_istore (q := 154) (ls' := [vA 0, vI 61, vI k2, vI 0, vI 2]) d_M_compare_152 rfl (by decide) rfl ?_
          refine Rj_aload_n (q := 155) d_M_compare_154 rfl rfl rfl ?_
          refine Rj_vo (q := 158) (z := y_M_sum) (as := []) (rest := []) (la := [vA 0]) oM_0_M_sum ml_M_195 mw_M_sum mv_M_sum rfl d_M_compare_155 rfl rfl rfl rfl rfl ?_
          have hop : cmpOp (sgn A n k2) (decide (sgn A n (k2 + 1) = 61)) = 14 := by
            rw [sg]; rfl
          have cv0 : RM ((mset (mset m 0 13 (k2 + 1)) 0 17 (vl2 + 1))) A n t (k2 + 1) cl (vl2 + 1) D c2 := a3.upd (Fr.put (Fr.put (Fr.refl _ _) (by omega)) (by omega)) rfl rfl a3.2.2.2.2.2.2.2.1
          have iv0 : IV n (k2 + 1) (14 :: w) cl (vl2 + 1) 4 D c2 := (a4.push_v (op := 14) (by decide) (fun q => absurd q (by decide)) (by omega) (by omega) (by omega)).at (by decide) (by decide)
          have fr0 : Fr (Wsm t) μ ((mset (mset m 0 13 (k2 + 1)) 0 17 (vl2 + 1))) := Fr.trans a2 (Fr.put (Fr.put (Fr.refl _ _) (by unfold Wsm; omega)) (by unfold Wsm; omega))
          have stp : ∀ x, RUN A n (k2 + 1) (14 :: w) cl (vl2 + 1) 4 D c2 x → RUN A n k w cl vl 6 D c x := fun x g => a1 x (RUN_cmp a6.1 a6.2 hop (by decide) (by omega) (by rw [if_neg (by decide)]) (ltop_stl hlt) g)
          refine s_M_sum (w := 14 :: w) cv0 iv0 (by decide) (fun q => absurd q.1 (by decide)) (show bnd 14 < 5 by decide) (fun e m3 b1 b2 b3 b4 => ?_) (fun m3 k3 vl3 c3 b1 b2 b3 b4 b5 b6 pf2 => ?_)
          · have zz := True.intro
            refine Rj_if_ne (q := 161) (t := 163) d_M_compare_158 rfl (by decide) (by decide) (fun c => absurd c (by decide)) (fun _ => ?_)
            refine Rj_iconst (q := 162) d_M_compare_161 rfl ?_
            refine Rj_bret0 d_M_compare_162 rfl ?_
            exact hE e m3 (stp _ b1) (fr0.trans b2) b3 b4
          · rw [if_neg (by decide)] at b1 b4
            have n1 := b4.1
            have n4 := b4.2.2.2.1
            have nn3 := nM_le D c3
            refine Rj_if_ne (q := 161) (t := 163) d_M_compare_158 rfl (by decide) (by decide) (fun _ => ?_) (fun c => absurd c (by decide))
            refine Rj_aload_n (q := 164) d_M_compare_163 rfl rfl rfl ?_
            refine Rj_bipush (q := 166) d_M_compare_164 rfl (by decide +kernel) ?_
            refine Rj_iload (q := 168) d_M_compare_166 rfl rfl ?_
            refine Rj_iadd (q := 169) d_M_compare_168 rfl ?_
            refine Rj_iconst (q := 170) d_M_compare_169 rfl ?_
            refine Rj_vov (q := 173) (z := y_M_puts) (as := [vI (6 + 2), vI 0]) (rest := []) (la := [vA 0, vI (6 + 2), vI 0]) oM_0_M_puts ml_M_174 mw_M_puts mv_M_puts rfl d_M_compare_170 rfl rfl rfl rfl rfl ?_
            have cv := b3
            refine s_M_puts cv.2.2.2.2.2.1 cv.2.2.2.2.2.2.2.2.1 (cv.2.2.2.2.2.2.2.2.2.trans (nM_len D c3)) (by rw [← nM_len]; omega) (fun m4 fm4 lm4 lm42 => ?_)
            have cm4 := cv.emit (op := 14) fm4 (by rw [show enc 14 = (6 + 2) + 16 * 0 by decide]; exact lm4) lm42
            have fr4 : Fr (Wsm t) μ m4 := Fr.trans (Fr.trans fr0 b2) (Fr.wide fm4 (fun c i q => by unfold Wpu at q; unfold Wsm; omega))
            refine Rj_iconst (q := 174) d_M_compare_173 rfl ?_
            refine Rj_bret1 d_M_compare_174 rfl ?_
            exact hG m4 k3 vl3 (emt 14 c3) (fun x g => stp x (b1 x (RUN_early b6.1 (by decide) (fun _ q => absurd q b6.2) (fun q => absurd q (by decide)) (by decide) (RUN_57 b6.1 b6.2 g)))) fr4 cm4 (b4.down.at (by decide) (by decide)) (by omega) b6.1 (pf1.trans (pf2.trans (PF_emt _ _)))
        · refine Rj_aload_n (q := 10) d_M_makes_9 rfl rfl rfl ?_
          refine Rj_iconst (q := 11) d_M_makes_10 rfl ?_
          refine Rj_iload_n (q := 12) d_M_makes_11 rfl rfl rfl ?_
          refine Rj_vo (q := 15) (z := y_M_fails) (as := [vI 3, vI k2]) (rest := []) (la := [vA 0, vI 3, vI k2]) oM_0_M_fails ml_M_131 mw_M_fails mv_M_fails rfl d_M_makes_12 rfl rfl rfl rfl rfl ?_
          refine s_M_fails a3.2.2.2.2.1 ?_
          refine Rj_bret0 d_M_makes_15 rfl ?_
          refine Rj_if_ne (q := 113) (t := 115) d_M_compare_110 rfl (by decide) (by decide) (fun c => absurd c (by decide)) (fun _ => ?_)
          refine Rj_iconst (q := 114) d_M_compare_113 rfl ?_
          refine Rj_bret0 d_M_compare_114 rfl ?_
          exact hE (1 + 8 * k2 + 3) _ (a1 _ (RUN_cmany a6.1 a6.2 (by rw [sg, show ∀ b, cmpOp 61 b = 14 from fun b => rfl]; decide) (by omega))) (Fr.trans a2 (Fr.put (Fr.put (Fr.refl _ _) (by unfold Wsm; omega)) (by unfold Wsm; omega))) rfl (by omega)
      · refine Rj_iload_n (q := 32) d_M_compare_31 rfl rfl rfl ?_
        refine Rj_bipush (q := 34) d_M_compare_32 rfl (by decide +kernel) ?_
        refine Rj_icmp_eq (q := 37) (t := 44) d_M_compare_34 rfl (by decide) (by first | assumption | exact ⟨by omega, by omega⟩ | (have := hX.2 (k2 + 1) (by omega) (by omega); exact ⟨by omega, by omega⟩)) (by decide) (fun c34 => ?_) (fun c34 => ?_)
        · have sg : sgn A n k2 = 62 := (see_sgn hX (by omega) (by decide)).mp c34
          have kn := sgn_lt (by decide) sg
          rw [c34]
          refine Rj_aload_n (q := 45) d_M_compare_44 rfl rfl rfl ?_
          refine Rj_dup (q := 46) d_M_compare_45 rfl (by intro h; cases h) ?_
          refine Rj_gi (q := 49) (ki := 13) (v := k2) gM_M_110_0 rfl rfl a3.2.2.2.1 d_M_compare_46 rfl ?_
          refine Rj_iconst (q := 50) d_M_compare_49 rfl ?_
          refine Rj_iadd (q := 51) d_M_compare_50 rfl ?_
          refine Rj_pi (q := 54) (ki := 13) pM_M_110_0 rfl rfl d_M_compare_51 rfl ?_
          refine Rj_iload_n (q := 55) d_M_compare_54 rfl rfl rfl ?_
          refine Rj_bipush (q := 57) d_M_compare_55 rfl (by decide +kernel) ?_
          refine Rj_icmp_eq (q := 60) (t := 89) d_M_compare_57 rfl (by decide) (by decide) (by decide) (fun c => absurd c (by decide)) (fun _ => ?_)
          refine Rj_aload_n (q := 61) d_M_compare_60 rfl rfl rfl ?_
          refine Rj_gi (q := 64) (ki := 13) (v := k2 + 1) gM_M_110_0 rfl rfl rfl d_M_compare_61 rfl ?_
          refine Rj_aload_n (q := 65) d_M_compare_64 rfl rfl rfl ?_
          refine Rj_gi (q := 68) (ki := 1) (v := n) gM_M_99_0 rfl rfl a3.2.1 d_M_compare_65 rfl ?_
          refine Rj_icmp_ge (q := 71) (t := 89) d_M_compare_68 rfl (by decide) (by first | assumption | exact ⟨by omega, by omega⟩ | (have := hX.2 (k2 + 1) (by omega) (by omega); exact ⟨by omega, by omega⟩)) (by first | assumption | exact ⟨by omega, by omega⟩ | (have := hX.2 (k2 + 1) (by omega) (by omega); exact ⟨by omega, by omega⟩)) (fun c68 => ?_) (fun c68 => ?_)
          · have hal : decide (sgn A n (k2 + 1) = 61) = false := decide_eq_false (fun q => by have := sgn_lt (by decide) q; omega)
            refine Rj_iconst (q := 90) d_M_compare_89 rfl ?_
            refine Rj_istore_n (q := 91) (ls' := [vA 0, vI 62, vI k2, vI 0]) d_M_compare_90 rfl rfl (by decide) rfl ?_
            refine Rj_iload_n (q := 92) d_M_compare_91 rfl rfl rfl ?_
            refine Rj_if_eq (q := 95) (t := 105) d_M_compare_92 rfl (by decide) (by decide) (fun _ => ?_) (fun c => absurd c (by decide))
            refine Rj_aload_n (q := 106) d_M_compare_105 rfl rfl rfl ?_
            refine Rj_iload_n (q := 107) d_M_compare_106 rfl rfl rfl ?_
            refine Rj_vo (q := 110) (z := y_M_makes) (as := [vI k2]) (rest := []) (la := [vA 0, vI k2]) oM_0_M_makes ml_M_182 mw_M_makes mv_M_makes rfl d_M_compare_107 rfl rfl rfl rfl rfl ?_
            refine Rj_aload_n (q := 1) d_M_makes_0 rfl rfl rfl ?_
            refine Rj_gi (q := 4) (ki := 17) (v := vl2) gM_M_161_0 rfl rfl a3.2.2.2.2.2.2.1 d_M_makes_1 rfl ?_
            refine Rj_bipush (q := 6) d_M_makes_4 rfl (by decide +kernel) ?_
            refine Rj_icmp_ne (q := 9) (t := 16) d_M_makes_6 rfl (by decide) (by first | assumption | exact ⟨by omega, by omega⟩ | (have := hX.2 (k2 + 1) (by omega) (by omega); exact ⟨by omega, by omega⟩)) (by decide) (fun c107_6 => ?_) (fun c107_6 => ?_)
            · refine Rj_aload_n (q := 17) d_M_makes_16 rfl rfl rfl ?_
              refine Rj_dup (q := 18) d_M_makes_17 rfl (by intro h; cases h) ?_
              refine Rj_gi (q := 21) (ki := 17) (v := vl2) gM_M_161_0 rfl rfl a3.2.2.2.2.2.2.1 d_M_makes_18 rfl ?_
              refine Rj_iconst (q := 22) d_M_makes_21 rfl ?_
              refine Rj_iadd (q := 23) d_M_makes_22 rfl ?_
              refine Rj_pi (q := 26) (ki := 17) pM_M_161_0 rfl rfl d_M_makes_23 rfl ?_
              refine Rj_iconst (q := 27) d_M_makes_26 rfl ?_
              refine Rj_bret1 d_M_makes_27 rfl ?_
              refine Rj_if_ne (q := 113) (t := 115) d_M_compare_110 rfl (by decide) (by decide) (fun _ => ?_) (fun c => absurd c (by decide))
              refine Rj_iload_n (q := 116) d_M_compare_115 rfl rfl rfl ?_
              refine Rj_bipush (q := 118) d_M_compare_116 rfl (by decide +kernel) ?_
              refine Rj_icmp_ne (q := 121) (t := 133) d_M_compare_118 rfl (by decide) (by decide) (by decide) (fun _ => ?_) (fun c => absurd c (by decide))
              refine Rj_iload_n (q := 134) d_M_compare_133 rfl rfl rfl ?_
              refine Rj_bipush (q := 136) d_M_compare_134 rfl (by decide +kernel) ?_
              refine Rj_icmp_ne (q := 139) (t := 143) d_M_compare_136 rfl (by decide) (by decide) (by decide) (fun _ => ?_) (fun c => absurd c (by decide))
              refine Rj_iload_n (q := 144) d_M_compare_143 rfl rfl rfl ?_
              refine Rj_if_eq (q := 147) (t := 151) d_M_compare_144 rfl (by decide) (by decide) (fun _ => ?_) (fun c => absurd c (by decide))
              refine Rj_iconst (q := 152) d_M_compare_151 rfl ?_
              refine Rj_istore (q := 154) (ls' := [vA 0, vI 62, vI k2, vI 0, vI 4]) d_M_compare_152 rfl (by decide) rfl ?_
              refine Rj_aload_n (q := 155) d_M_compare_154 rfl rfl rfl ?_
              refine Rj_vo (q := 158) (z := y_M_sum) (as := []) (rest := []) (la := [vA 0]) oM_0_M_sum ml_M_195 mw_M_sum mv_M_sum rfl d_M_compare_155 rfl rfl rfl rfl rfl ?_
              have hop : cmpOp (sgn A n k2) (decide (sgn A n (k2 + 1) = 61)) = 16 := by
                rw [cmp_of sg hal]; rfl
              have cv0 : RM ((mset (mset m 0 13 (k2 + 1)) 0 17 (vl2 + 1))) A n t (k2 + 1) cl (vl2 + 1) D c2 := a3.upd (Fr.put (Fr.put (Fr.refl _ _) (by omega)) (by omega)) rfl rfl a3.2.2.2.2.2.2.2.1
              have iv0 : IV n (k2 + 1) (16 :: w) cl (vl2 + 1) 4 D c2 := (a4.push_v (op := 16) (by decide) (fun q => absurd q (by decide)) (by omega) (by omega) (by omega)).at (by decide) (by decide)
              have fr0 : Fr (Wsm t) μ ((mset (mset m 0 13 (k2 + 1)) 0 17 (vl2 + 1))) := Fr.trans a2 (Fr.put (Fr.put (Fr.refl _ _) (by unfold Wsm; omega)) (by unfold Wsm; omega))
              have stp : ∀ x, RUN A n (k2 + 1) (16 :: w) cl (vl2 + 1) 4 D c2 x → RUN A n k w cl vl 6 D c x := fun x g => a1 x (RUN_cmp a6.1 a6.2 hop (by decide) (by omega) (by rw [if_neg (by decide)]) (ltop_stl hlt) g)
              refine s_M_sum (w := 16 :: w) cv0 iv0 (by decide) (fun q => absurd q.1 (by decide)) (show bnd 16 < 5 by decide) (fun e m3 b1 b2 b3 b4 => ?_) (fun m3 k3 vl3 c3 b1 b2 b3 b4 b5 b6 pf2 => ?_)
              · have zz := True.intro
                refine Rj_if_ne (q := 161) (t := 163) d_M_compare_158 rfl (by decide) (by decide) (fun c => absurd c (by decide)) (fun _ => ?_)
                refine Rj_iconst (q := 162) d_M_compare_161 rfl ?_
                refine Rj_bret0 d_M_compare_162 rfl ?_
                exact hE e m3 (stp _ b1) (fr0.trans b2) b3 b4
              · rw [if_neg (by decide)] at b1 b4
                have n1 := b4.1
                have n4 := b4.2.2.2.1
                have nn3 := nM_le D c3
                refine Rj_if_ne (q := 161) (t := 163) d_M_compare_158 rfl (by decide) (by decide) (fun _ => ?_) (fun c => absurd c (by decide))
                refine Rj_aload_n (q := 164) d_M_compare_163 rfl rfl rfl ?_
                refine Rj_bipush (q := 166) d_M_compare_164 rfl (by decide +kernel) ?_
                refine Rj_iload (q := 168) d_M_compare_166 rfl rfl ?_
                refine Rj_iadd (q := 169) d_M_compare_168 rfl ?_
                refine Rj_iconst (q := 170) d_M_compare_169 rfl ?_
                refine Rj_vov (q := 173) (z := y_M_puts) (as := [vI (6 + 4), vI 0]) (rest := []) (la := [vA 0, vI (6 + 4), vI 0]) oM_0_M_puts ml_M_174 mw_M_puts mv_M_puts rfl d_M_compare_170 rfl rfl rfl rfl rfl ?_
                have cv := b3
                refine s_M_puts cv.2.2.2.2.2.1 cv.2.2.2.2.2.2.2.2.1 (cv.2.2.2.2.2.2.2.2.2.trans (nM_len D c3)) (by rw [← nM_len]; omega) (fun m4 fm4 lm4 lm42 => ?_)
                have cm4 := cv.emit (op := 16) fm4 (by rw [show enc 16 = (6 + 4) + 16 * 0 by decide]; exact lm4) lm42
                have fr4 : Fr (Wsm t) μ m4 := Fr.trans (Fr.trans fr0 b2) (Fr.wide fm4 (fun c i q => by unfold Wpu at q; unfold Wsm; omega))
                refine Rj_iconst (q := 174) d_M_compare_173 rfl ?_
                refine Rj_bret1 d_M_compare_174 rfl ?_
                exact hG m4 k3 vl3 (emt 16 c3) (fun x g => stp x (b1 x (RUN_early b6.1 (by decide) (fun _ q => absurd q b6.2) (fun q => absurd q (by decide)) (by decide) (RUN_57 b6.1 b6.2 g)))) fr4 cm4 (b4.down.at (by decide) (by decide)) (by omega) b6.1 (pf1.trans (pf2.trans (PF_emt _ _)))
            · refine Rj_aload_n (q := 10) d_M_makes_9 rfl rfl rfl ?_
              refine Rj_iconst (q := 11) d_M_makes_10 rfl ?_
              refine Rj_iload_n (q := 12) d_M_makes_11 rfl rfl rfl ?_
              refine Rj_vo (q := 15) (z := y_M_fails) (as := [vI 3, vI k2]) (rest := []) (la := [vA 0, vI 3, vI k2]) oM_0_M_fails ml_M_131 mw_M_fails mv_M_fails rfl d_M_makes_12 rfl rfl rfl rfl rfl ?_
              refine s_M_fails a3.2.2.2.2.1 ?_
              refine Rj_bret0 d_M_makes_15 rfl ?_
              refine Rj_if_ne (q := 113) (t := 115) d_M_compare_110 rfl (by decide) (by decide) (fun c => absurd c (by decide)) (fun _ => ?_)
              refine Rj_iconst (q := 114) d_M_compare_113 rfl ?_
              refine Rj_bret0 d_M_compare_114 rfl ?_
              exact hE (1 + 8 * k2 + 3) _ (a1 _ (RUN_cmany a6.1 a6.2 (by rw [cmp_of sg hal]; decide) (by omega))) (Fr.trans a2 (Fr.put (Fr.put (Fr.refl _ _) (by unfold Wsm; omega)) (by unfold Wsm; omega))) rfl (by omega)
          · refine Rj_aload_n (q := 72) d_M_compare_71 rfl rfl rfl ?_
            refine Rj_gr (q := 75) (zd := 1) gM_M_7_0 rfl rfl d_M_compare_72 rfl ?_
            refine Rj_aload_n (q := 76) d_M_compare_75 rfl rfl rfl ?_
            refine Rj_gi (q := 79) (ki := 13) (v := k2 + 1) gM_M_110_0 rfl rfl rfl d_M_compare_76 rfl ?_
            refine Rj_ba (q := 80) (v := A (k2 + 1)) aM_1 rfl (by omega) (congrFun a3.1 _) d_M_compare_79 rfl ?_
            refine Rj_bipush (q := 82) d_M_compare_80 rfl (by decide +kernel) ?_
            refine Rj_icmp_ne (q := 85) (t := 89) d_M_compare_82 rfl (by decide) (by first | assumption | exact ⟨by omega, by omega⟩ | (have := hX.2 (k2 + 1) (by omega) (by omega); exact ⟨by omega, by omega⟩)) (by decide) (fun c82 => ?_) (fun c82 => ?_)
            · have hal : decide (sgn A n (k2 + 1) = 61) = false := decide_eq_false (fun q => c82 ((sgn_eq (by decide)).mp q).2)
              refine Rj_iconst (q := 90) d_M_compare_89 rfl ?_
              refine Rj_istore_n (q := 91) (ls' := [vA 0, vI 62, vI k2, vI 0]) d_M_compare_90 rfl rfl (by decide) rfl ?_
              refine Rj_iload_n (q := 92) d_M_compare_91 rfl rfl rfl ?_
              refine Rj_if_eq (q := 95) (t := 105) d_M_compare_92 rfl (by decide) (by decide) (fun _ => ?_) (fun c => absurd c (by decide))
              refine Rj_aload_n (q := 106) d_M_compare_105 rfl rfl rfl ?_
              refine Rj_iload_n (q := 107) d_M_compare_106 rfl rfl rfl ?_
              refine Rj_vo (q := 110) (z := y_M_makes) (as := [vI k2]) (rest := []) (la := [vA 0, vI k2]) oM_0_M_makes ml_M_182 mw_M_makes mv_M_makes rfl d_M_compare_107 rfl rfl rfl rfl rfl ?_
              refine Rj_aload_n (q := 1) d_M_makes_0 rfl rfl rfl ?_
              refine Rj_gi (q := 4) (ki := 17) (v := vl2) gM_M_161_0 rfl rfl a3.2.2.2.2.2.2.1 d_M_makes_1 rfl ?_
              refine Rj_bipush (q := 6) d_M_makes_4 rfl (by decide +kernel) ?_
              refine Rj_icmp_ne (q := 9) (t := 16) d_M_makes_6 rfl (by decide) (by first | assumption | exact ⟨by omega, by omega⟩ | (have := hX.2 (k2 + 1) (by omega) (by omega); exact ⟨by omega, by omega⟩)) (by decide) (fun c107_6 => ?_) (fun c107_6 => ?_)
              · refine Rj_aload_n (q := 17) d_M_makes_16 rfl rfl rfl ?_
                refine Rj_dup (q := 18) d_M_makes_17 rfl (by intro h; cases h) ?_
                refine Rj_gi (q := 21) (ki := 17) (v := vl2) gM_M_161_0 rfl rfl a3.2.2.2.2.2.2.1 d_M_makes_18 rfl ?_
                refine Rj_iconst (q := 22) d_M_makes_21 rfl ?_
                refine Rj_iadd (q := 23) d_M_makes_22 rfl ?_
                refine Rj_pi (q := 26) (ki := 17) pM_M_161_0 rfl rfl d_M_makes_23 rfl ?_
                refine Rj_iconst (q := 27) d_M_makes_26 rfl ?_
                refine Rj_bret1 d_M_makes_27 rfl ?_
                refine Rj_if_ne (q := 113) (t := 115) d_M_compare_110 rfl (by decide) (by decide) (fun _ => ?_) (fun c => absurd c (by decide))
                refine Rj_iload_n (q := 116) d_M_compare_115 rfl rfl rfl ?_
                refine Rj_bipush (q := 118) d_M_compare_116 rfl (by decide +kernel) ?_
                refine Rj_icmp_ne (q := 121) (t := 133) d_M_compare_118 rfl (by decide) (by decide) (by decide) (fun _ => ?_) (fun c => absurd c (by decide))
                refine Rj_iload_n (q := 134) d_M_compare_133 rfl rfl rfl ?_
                refine Rj_bipush (q := 136) d_M_compare_134 rfl (by decide +kernel) ?_
                refine Rj_icmp_ne (q := 139) (t := 143) d_M_compare_136 rfl (by decide) (by decide) (by decide) (fun _ => ?_) (fun c => absurd c (by decide))
                refine Rj_iload_n (q := 144) d_M_compare_143 rfl rfl rfl ?_
                refine Rj_if_eq (q := 147) (t := 151) d_M_compare_144 rfl (by decide) (by decide) (fun _ => ?_) (fun c => absurd c (by decide))
                refine Rj_iconst (q := 152) d_M_compare_151 rfl ?_
                refine Rj_istore (q := 154) (ls' := [vA 0, vI 62, vI k2, vI 0, vI 4]) d_M_compare_152 rfl (by decide) rfl ?_
                refine Rj_aload_n (q := 155) d_M_compare_154 rfl rfl rfl ?_
                refine Rj_vo (q := 158) (z := y_M_sum) (as := []) (rest := []) (la := [vA 0]) oM_0_M_sum ml_M_195 mw_M_sum mv_M_sum rfl d_M_compare_155 rfl rfl rfl rfl rfl ?_
                have hop : cmpOp (sgn A n k2) (decide (sgn A n (k2 + 1) = 61)) = 16 := by
                  rw [cmp_of sg hal]; rfl
                have cv0 : RM ((mset (mset m 0 13 (k2 + 1)) 0 17 (vl2 + 1))) A n t (k2 + 1) cl (vl2 + 1) D c2 := a3.upd (Fr.put (Fr.put (Fr.refl _ _) (by omega)) (by omega)) rfl rfl a3.2.2.2.2.2.2.2.1
                have iv0 : IV n (k2 + 1) (16 :: w) cl (vl2 + 1) 4 D c2 := (a4.push_v (op := 16) (by decide) (fun q => absurd q (by decide)) (by omega) (by omega) (by omega)).at (by decide) (by decide)
                have fr0 : Fr (Wsm t) μ ((mset (mset m 0 13 (k2 + 1)) 0 17 (vl2 + 1))) := Fr.trans a2 (Fr.put (Fr.put (Fr.refl _ _) (by unfold Wsm; omega)) (by unfold Wsm; omega))
                have stp : ∀ x, RUN A n (k2 + 1) (16 :: w) cl (vl2 + 1) 4 D c2 x → RUN A n k w cl vl 6 D c x := fun x g => a1 x (RUN_cmp a6.1 a6.2 hop (by decide) (by omega) (by rw [if_neg (by decide)]) (ltop_stl hlt) g)
                refine s_M_sum (w := 16 :: w) cv0 iv0 (by decide) (fun q => absurd q.1 (by decide)) (show bnd 16 < 5 by decide) (fun e m3 b1 b2 b3 b4 => ?_) (fun m3 k3 vl3 c3 b1 b2 b3 b4 b5 b6 pf2 => ?_)
                · have zz := True.intro
                  refine Rj_if_ne (q := 161) (t := 163) d_M_compare_158 rfl (by decide) (by decide) (fun c => absurd c (by decide)) (fun _ => ?_)
                  refine Rj_iconst (q := 162) d_M_compare_161 rfl ?_
                  refine Rj_bret0 d_M_compare_162 rfl ?_
                  exact hE e m3 (stp _ b1) (fr0.trans b2) b3 b4
                · rw [if_neg (by decide)] at b1 b4
                  have n1 := b4.1
                  have n4 := b4.2.2.2.1
                  have nn3 := nM_le D c3
                  refine Rj_if_ne (q := 161) (t := 163) d_M_compare_158 rfl (by decide) (by decide) (fun _ => ?_) (fun c => absurd c (by decide))
                  refine Rj_aload_n (q := 164) d_M_compare_163 rfl rfl rfl ?_
                  refine Rj_bipush (q := 166) d_M_compare_164 rfl (by decide +kernel) ?_
                  refine Rj_iload (q := 168) d_M_compare_166 rfl rfl ?_
                  refine Rj_iadd (q := 169) d_M_compare_168 rfl ?_
                  refine Rj_iconst (q := 170) d_M_compare_169 rfl ?_
                  refine Rj_vov (q := 173) (z := y_M_puts) (as := [vI (6 + 4), vI 0]) (rest := []) (la := [vA 0, vI (6 + 4), vI 0]) oM_0_M_puts ml_M_174 mw_M_puts mv_M_puts rfl d_M_compare_170 rfl rfl rfl rfl rfl ?_
                  have cv := b3
                  refine s_M_puts cv.2.2.2.2.2.1 cv.2.2.2.2.2.2.2.2.1 (cv.2.2.2.2.2.2.2.2.2.trans (nM_len D c3)) (by rw [← nM_len]; omega) (fun m4 fm4 lm4 lm42 => ?_)
                  have cm4 := cv.emit (op := 16) fm4 (by rw [show enc 16 = (6 + 4) + 16 * 0 by decide]; exact lm4) lm42
                  have fr4 : Fr (Wsm t) μ m4 := Fr.trans (Fr.trans fr0 b2) (Fr.wide fm4 (fun c i q => by unfold Wpu at q; unfold Wsm; omega))
                  refine Rj_iconst (q := 174) d_M_compare_173 rfl ?_
                  refine Rj_bret1 d_M_compare_174 rfl ?_
                  exact hG m4 k3 vl3 (emt 16 c3) (fun x g => stp x (b1 x (RUN_early b6.1 (by decide) (fun _ q => absurd q b6.2) (fun q => absurd q (by decide)) (by decide) (RUN_57 b6.1 b6.2 g)))) fr4 cm4 (b4.down.at (by decide) (by decide)) (by omega) b6.1 (pf1.trans (pf2.trans (PF_emt _ _)))
              · refine Rj_aload_n (q := 10) d_M_makes_9 rfl rfl rfl ?_
                refine Rj_iconst (q := 11) d_M_makes_10 rfl ?_
                refine Rj_iload_n (q := 12) d_M_makes_11 rfl rfl rfl ?_
                refine Rj_vo (q := 15) (z := y_M_fails) (as := [vI 3, vI k2]) (rest := []) (la := [vA 0, vI 3, vI k2]) oM_0_M_fails ml_M_131 mw_M_fails mv_M_fails rfl d_M_makes_12 rfl rfl rfl rfl rfl ?_
                refine s_M_fails a3.2.2.2.2.1 ?_
                refine Rj_bret0 d_M_makes_15 rfl ?_
                refine Rj_if_ne (q := 113) (t := 115) d_M_compare_110 rfl (by decide) (by decide) (fun c => absurd c (by decide)) (fun _ => ?_)
                refine Rj_iconst (q := 114) d_M_compare_113 rfl ?_
                refine Rj_bret0 d_M_compare_114 rfl ?_
                exact hE (1 + 8 * k2 + 3) _ (a1 _ (RUN_cmany a6.1 a6.2 (by rw [cmp_of sg hal]; decide) (by omega))) (Fr.trans a2 (Fr.put (Fr.put (Fr.refl _ _) (by unfold Wsm; omega)) (by unfold Wsm; omega))) rfl (by omega)
            · have hal : decide (sgn A n (k2 + 1) = 61) = true := decide_eq_true ((sgn_eq (by decide)).mpr ⟨by omega, c82⟩)
              refine Rj_iconst (q := 86) d_M_compare_85 rfl ?_
              refine Rj_goto (t := 90) d_M_compare_86 (by decide) ?_
              refine Rj_istore_n (q := 91) (ls' := [vA 0, vI 62, vI k2, vI 1]) d_M_compare_90 rfl rfl (by decide) rfl ?_
              refine Rj_iload_n (q := 92) d_M_compare_91 rfl rfl rfl ?_
              refine Rj_if_eq (q := 95) (t := 105) d_M_compare_92 rfl (by decide) (by decide) (fun c => absurd c (by decide)) (fun _ => ?_)
              refine Rj_aload_n (q := 96) d_M_compare_95 rfl rfl rfl ?_
              refine Rj_dup (q := 97) d_M_compare_96 rfl (by intro h; cases h) ?_
              refine Rj_gi (q := 100) (ki := 13) (v := k2 + 1) gM_M_110_0 rfl rfl rfl d_M_compare_97 rfl ?_
              refine Rj_iconst (q := 101) d_M_compare_100 rfl ?_
              refine Rj_iadd (q := 102) d_M_compare_101 rfl ?_
              refine Rj_pi (q := 105) (ki := 13) pM_M_110_0 rfl rfl d_M_compare_102 rfl ?_
              rw [mset_mset]
              refine Rj_aload_n (q := 106) d_M_compare_105 rfl rfl rfl ?_
              refine Rj_iload_n (q := 107) d_M_compare_106 rfl rfl rfl ?_
              refine Rj_vo (q := 110) (z := y_M_makes) (as := [vI k2]) (rest := []) (la := [vA 0, vI k2]) oM_0_M_makes ml_M_182 mw_M_makes mv_M_makes rfl d_M_compare_107 rfl rfl rfl rfl rfl ?_
              refine Rj_aload_n (q := 1) d_M_makes_0 rfl rfl rfl ?_
              refine Rj_gi (q := 4) (ki := 17) (v := vl2) gM_M_161_0 rfl rfl a3.2.2.2.2.2.2.1 d_M_makes_1 rfl ?_
              refine Rj_bipush (q := 6) d_M_makes_4 rfl (by decide +kernel) ?_
              refine Rj_icmp_ne (q := 9) (t := 16) d_M_makes_6 rfl (by decide) (by first | assumption | exact ⟨by omega, by omega⟩ | (have := hX.2 (k2 + 1) (by omega) (by omega); exact ⟨by omega, by omega⟩)) (by decide) (fun c107_6 => ?_) (fun c107_6 => ?_)
              · refine Rj_aload_n (q := 17) d_M_makes_16 rfl rfl rfl ?_
                refine Rj_dup (q := 18) d_M_makes_17 rfl (by intro h; cases h) ?_
                refine Rj_gi (q := 21) (ki := 17) (v := vl2) gM_M_161_0 rfl rfl a3.2.2.2.2.2.2.1 d_M_makes_18 rfl ?_
                refine Rj_iconst (q := 22) d_M_makes_21 rfl ?_
                refine Rj_iadd (q := 23) d_M_makes_22 rfl ?_
                refine Rj_pi (q := 26) (ki := 17) pM_M_161_0 rfl rfl d_M_makes_23 rfl ?_
                refine Rj_iconst (q := 27) d_M_makes_26 rfl ?_
                refine Rj_bret1 d_M_makes_27 rfl ?_
                refine Rj_if_ne (q := 113) (t := 115) d_M_compare_110 rfl (by decide) (by decide) (fun _ => ?_) (fun c => absurd c (by decide))
                refine Rj_iload_n (q := 116) d_M_compare_115 rfl rfl rfl ?_
                refine Rj_bipush (q := 118) d_M_compare_116 rfl (by decide +kernel) ?_
                refine Rj_icmp_ne (q := 121) (t := 133) d_M_compare_118 rfl (by decide) (by decide) (by decide) (fun _ => ?_) (fun c => absurd c (by decide))
                refine Rj_iload_n (q := 134) d_M_compare_133 rfl rfl rfl ?_
                refine Rj_bipush (q := 136) d_M_compare_134 rfl (by decide +kernel) ?_
                refine Rj_icmp_ne (q := 139) (t := 143) d_M_compare_136 rfl (by decide) (by decide) (by decide) (fun _ => ?_) (fun c => absurd c (by decide))
                refine Rj_iload_n (q := 144) d_M_compare_143 rfl rfl rfl ?_
                refine Rj_if_eq (q := 147) (t := 151) d_M_compare_144 rfl (by decide) (by decide) (fun c => absurd c (by decide)) (fun _ => ?_)
                refine Rj_iconst (q := 148) d_M_compare_147 rfl ?_
                refine Rj_goto (t := 152) d_M_compare_148 (by decide) ?_
                refine Rj_istore (q := 154) (ls' := [vA 0, vI 62, vI k2, vI 1, vI 3]) d_M_compare_152 rfl (by decide) rfl ?_
                refine Rj_aload_n (q := 155) d_M_compare_154 rfl rfl rfl ?_
                refine Rj_vo (q := 158) (z := y_M_sum) (as := []) (rest := []) (la := [vA 0]) oM_0_M_sum ml_M_195 mw_M_sum mv_M_sum rfl d_M_compare_155 rfl rfl rfl rfl rfl ?_
                have hop : cmpOp (sgn A n k2) (decide (sgn A n (k2 + 1) = 61)) = 15 := by
                  rw [cmp_of sg hal]; rfl
                have cv0 : RM ((mset (mset m 0 13 ((k2 + 1) + 1)) 0 17 (vl2 + 1))) A n t ((k2 + 1) + 1) cl (vl2 + 1) D c2 := a3.upd (Fr.put (Fr.put (Fr.refl _ _) (by omega)) (by omega)) rfl rfl a3.2.2.2.2.2.2.2.1
                have iv0 : IV n ((k2 + 1) + 1) (15 :: w) cl (vl2 + 1) 4 D c2 := (a4.push_v (op := 15) (by decide) (fun q => absurd q (by decide)) (by omega) (by omega) (by omega)).at (by decide) (by decide)
                have fr0 : Fr (Wsm t) μ ((mset (mset m 0 13 ((k2 + 1) + 1)) 0 17 (vl2 + 1))) := Fr.trans a2 (Fr.put (Fr.put (Fr.refl _ _) (by unfold Wsm; omega)) (by unfold Wsm; omega))
                have stp : ∀ x, RUN A n ((k2 + 1) + 1) (15 :: w) cl (vl2 + 1) 4 D c2 x → RUN A n k w cl vl 6 D c x := fun x g => a1 x (RUN_cmp a6.1 a6.2 hop (by decide) (by omega) (by rw [if_pos (by decide)]; omega) (ltop_stl hlt) g)
                refine s_M_sum (w := 15 :: w) cv0 iv0 (by decide) (fun q => absurd q.1 (by decide)) (show bnd 15 < 5 by decide) (fun e m3 b1 b2 b3 b4 => ?_) (fun m3 k3 vl3 c3 b1 b2 b3 b4 b5 b6 pf2 => ?_)
                · have zz := True.intro
                  refine Rj_if_ne (q := 161) (t := 163) d_M_compare_158 rfl (by decide) (by decide) (fun c => absurd c (by decide)) (fun _ => ?_)
                  refine Rj_iconst (q := 162) d_M_compare_161 rfl ?_
                  refine Rj_bret0 d_M_compare_162 rfl ?_
                  exact hE e m3 (stp _ b1) (fr0.trans b2) b3 b4
                · rw [if_neg (by decide)] at b1 b4
                  have n1 := b4.1
                  have n4 := b4.2.2.2.1
                  have nn3 := nM_le D c3
                  refine Rj_if_ne (q := 161) (t := 163) d_M_compare_158 rfl (by decide) (by decide) (fun _ => ?_) (fun c => absurd c (by decide))
                  refine Rj_aload_n (q := 164) d_M_compare_163 rfl rfl rfl ?_
                  refine Rj_bipush (q := 166) d_M_compare_164 rfl (by decide +kernel) ?_
                  refine Rj_iload (q := 168) d_M_compare_166 rfl rfl ?_
                  refine Rj_iadd (q := 169) d_M_compare_168 rfl ?_
                  refine Rj_iconst (q := 170) d_M_compare_169 rfl ?_
                  refine Rj_vov (q := 173) (z := y_M_puts) (as := [vI (6 + 3), vI 0]) (rest := []) (la := [vA 0, vI (6 + 3), vI 0]) oM_0_M_puts ml_M_174 mw_M_puts mv_M_puts rfl d_M_compare_170 rfl rfl rfl rfl rfl ?_
                  have cv := b3
                  refine s_M_puts cv.2.2.2.2.2.1 cv.2.2.2.2.2.2.2.2.1 (cv.2.2.2.2.2.2.2.2.2.trans (nM_len D c3)) (by rw [← nM_len]; omega) (fun m4 fm4 lm4 lm42 => ?_)
                  have cm4 := cv.emit (op := 15) fm4 (by rw [show enc 15 = (6 + 3) + 16 * 0 by decide]; exact lm4) lm42
                  have fr4 : Fr (Wsm t) μ m4 := Fr.trans (Fr.trans fr0 b2) (Fr.wide fm4 (fun c i q => by unfold Wpu at q; unfold Wsm; omega))
                  refine Rj_iconst (q := 174) d_M_compare_173 rfl ?_
                  refine Rj_bret1 d_M_compare_174 rfl ?_
                  exact hG m4 k3 vl3 (emt 15 c3) (fun x g => stp x (b1 x (RUN_early b6.1 (by decide) (fun _ q => absurd q b6.2) (fun q => absurd q (by decide)) (by decide) (RUN_57 b6.1 b6.2 g)))) fr4 cm4 (b4.down.at (by decide) (by decide)) (by omega) b6.1 (pf1.trans (pf2.trans (PF_emt _ _)))
              · refine Rj_aload_n (q := 10) d_M_makes_9 rfl rfl rfl ?_
                refine Rj_iconst (q := 11) d_M_makes_10 rfl ?_
                refine Rj_iload_n (q := 12) d_M_makes_11 rfl rfl rfl ?_
                refine Rj_vo (q := 15) (z := y_M_fails) (as := [vI 3, vI k2]) (rest := []) (la := [vA 0, vI 3, vI k2]) oM_0_M_fails ml_M_131 mw_M_fails mv_M_fails rfl d_M_makes_12 rfl rfl rfl rfl rfl ?_
                refine s_M_fails a3.2.2.2.2.1 ?_
                refine Rj_bret0 d_M_makes_15 rfl ?_
                refine Rj_if_ne (q := 113) (t := 115) d_M_compare_110 rfl (by decide) (by decide) (fun c => absurd c (by decide)) (fun _ => ?_)
                refine Rj_iconst (q := 114) d_M_compare_113 rfl ?_
                refine Rj_bret0 d_M_compare_114 rfl ?_
                exact hE (1 + 8 * k2 + 3) _ (a1 _ (RUN_cmany a6.1 a6.2 (by rw [cmp_of sg hal]; decide) (by omega))) (Fr.trans a2 (Fr.put (Fr.put (Fr.refl _ _) (by unfold Wsm; omega)) (by unfold Wsm; omega))) rfl (by omega)
        · refine Rj_aload_n (q := 38) d_M_compare_37 rfl rfl rfl ?_
          refine Rj_iconst (q := 39) d_M_compare_38 rfl ?_
          refine Rj_iload_n (q := 40) d_M_compare_39 rfl rfl rfl ?_
          refine Rj_vo (q := 43) (z := y_M_fails) (as := [vI 0, vI k2]) (rest := []) (la := [vA 0, vI 0, vI k2]) oM_0_M_fails ml_M_131 mw_M_fails mv_M_fails rfl d_M_compare_40 rfl rfl rfl rfl rfl ?_
          refine s_M_fails a3.2.2.2.2.1 ?_
          refine Rj_bret0 d_M_compare_43 rfl ?_
          have hop : cmpOp (sgn A n k2) (decide (sgn A n (k2 + 1) = 61)) = -1 := by
            unfold cmpOp
            rw [if_neg (fun q => c22 ((see_sgn hX (by omega) (by decide)).mpr q)), if_neg (fun q => c34 ((see_sgn hX (by omega) (by decide)).mpr q)), if_neg (fun q => c28 ((see_sgn hX (by omega) (by decide)).mpr q))]
          exact hE (1 + 8 * k2 + 0) _ (a1 _ (RUN_cbad a6.1 a6.2 hop)) (Fr.trans a2 (Fr.put (Fr.refl _ _) (by unfold Wsm; omega))) rfl (by omega)
