theorem pM_M_99_0 : PI YM "DoorsOnCogsModel" 99 0 1 none .int := ⟨by decide, _, _, _, fl_M_99, fp_10_1, cM_0, by decide, rfl⟩
theorem oM_0_M_clauseHere : OI YM 0 y_M_clauseHere := ⟨by decide, _, _, _, cM_0, rfl⟩
theorem gM_M_17_0 : GI YM "DoorsOnCogsModel" 17 0 4 (some (some 3)) := ⟨by decide, _, _, _, fl_M_17, cM_0, by decide, rfl⟩
theorem aM_3 : AI YM 3 (.int) 7 := ⟨by decide, cM_3, by decide⟩
theorem pM_M_161_0 : PI YM "DoorsOnCogsModel" 161 0 17 none .int := ⟨by decide, _, _, _, fl_M_161, fp_10_17, cM_0, by decide, rfl⟩
/-! the reference reads a street's text to its end -/
abbrev Wra (c : Nat) (i : Int) : Prop := (c = 0 ∧ (i = 1 ∨ i = 13 ∨ i = 14 ∨ i = 15 ∨ i = 17 ∨ i = 19 ∨ (7 ≤ i ∧ i ≤ 10))) ∨ (c = 3 ∧ i = 6) ∨ c = 6 ∨ c = 7
theorem wd_st_ra : ∀ c i, Wst c i → Wra c i := fun c i h => by unfold Wst at h; unfold Wra; omega
set_option maxHeartbeats 4000000 in
theorem s_M_readsSt_bad {μ : Mem} {Q : PV → Mem → Prop} {w : Int} (hw : μ 0 14 = w) (hw1 : 1 ≤ w ∧ w ≤ 4000) (hQ : Q (vI 0) (mset μ 0 1 0)) : Rj YM y_M_readsAll 66 [vA 0, vI 0] [] μ Q := by
  subst hw
  refine Rj_iload_n (q := 67) d_M_readsAll_66 rfl rfl rfl ?_
  refine Rj_if_eq (q := 70) (t := 88) d_M_readsAll_67 rfl (by decide) (by decide) (fun _ => ?_) (fun c => absurd c (by decide))
  refine Rj_iload_n (q := 89) d_M_readsAll_88 rfl rfl rfl ?_
  refine Rj_if_eq (q := 92) (t := 118) d_M_readsAll_89 rfl (by decide) (by decide) (fun _ => ?_) (fun c => absurd c (by decide))
  refine Rj_aload_n (q := 119) d_M_readsAll_118 rfl rfl rfl ?_
  refine Rj_iconst (q := 120) d_M_readsAll_119 rfl ?_
  refine Rj_pi (q := 123) (ki := 1) pM_M_99_0 rfl rfl d_M_readsAll_120 rfl ?_
  refine Rj_aload_n (q := 124) d_M_readsAll_123 rfl rfl rfl ?_
  refine Rj_gi (q := 127) (ki := 14) (v := μ 0 14) gM_M_107_0 rfl rfl rfl d_M_readsAll_124 rfl ?_
  refine Rj_if_ne (q := 130) (t := 134) d_M_readsAll_127 rfl (by decide) ⟨by omega, by omega⟩ (fun c127 => ?_) (fun c127 => ?_)
  · refine Rj_iconst (q := 135) d_M_readsAll_134 rfl ?_
    refine Rj_bret0 d_M_readsAll_135 rfl ?_
    exact hQ
  · exact absurd c127 (by omega)
set_option maxHeartbeats 4000000 in
theorem s_M_readsSt_l : ∀ (f : Nat) {μ : Mem} {Q : PV → Mem → Prop}, ((μ 0 1 - μ 0 13).toNat < f) → (TX (μ 1) (μ 0 1)) → (μ 0 14 = 0) → (μ 0 16 = 6) → (StOK (μ 0 1) (srOf μ)) → (∀ μ' σ, stLoop (μ 1) (μ 0 1) f (srOf μ) = .ok σ → srOf μ' = σ → Fr Wra μ μ' → μ' 0 14 = 0 → μ' 0 1 = 0 → Q (vI 1) μ') → (∀ wr μ', stLoop (μ 1) (μ 0 1) f (srOf μ) = .error wr → Fr Wra μ μ' → μ' 0 14 = wr → μ' 0 1 = 0 → Q (vI 0) μ') → Rj YM y_M_readsAll 35 [vA 0, vI 1] [] μ Q := by
  intro f
  induction f with
  | zero => intro μ Q hf hX hw0 ht hO h1 h2; exact absurd hf (by omega)
  | succ f ih =>
    intro μ Q hf hX hw0 ht hO h1 h2
    obtain ⟨hX1, hX2⟩ := id hX
    have h0 : 0 ≤ μ 0 13 ∧ μ 0 13 ≤ μ 0 1 := hO.1
    have hL : 0 ≤ μ 0 19 ∧ μ 0 19 ≤ 32 := hO.2.1
    have hD : 0 ≤ μ 0 7 ∧ μ 0 7 ≤ 12 := hO.2.2.1
    have hsb := sk_bd (μ 1) (n := μ 0 1) (k := μ 0 13) h0.2
    have hk0 : 0 ≤ sk (μ 1) (μ 0 1) (μ 0 13) := by omega
    refine Rj_iload_n (q := 36) d_M_readsAll_35 rfl rfl rfl ?_
    refine Rj_if_eq (q := 39) (t := 66) d_M_readsAll_36 rfl (by decide) (by decide) (fun c => absurd c (by decide)) (fun _ => ?_)
    refine Rj_aload_n (q := 40) d_M_readsAll_39 rfl rfl rfl ?_
    refine Rj_vo (q := 43) (z := y_M_see) (as := []) (rest := []) (la := [vA 0]) oM_0_M_see ml_M_113 mw_M_see mv_M_see rfl d_M_readsAll_40 rfl rfl rfl rfl rfl ?_
    refine s_M_see (μ := μ) (A := (μ 1)) (n := (μ 0 1)) (k := μ 0 13) hX rfl rfl rfl (by omega) ?_
    have r40 := sk_bd (μ 1) (n := (μ 0 1)) (k := μ 0 13) (by omega)
    refine Rj_bipush (q := 45) d_M_readsAll_43 rfl (by decide +kernel) ?_
    refine Rj_icmp_ne (q := 48) (t := 66) d_M_readsAll_45 rfl (by decide) (by first | exact ⟨by omega, by omega⟩ | exact seeV_32 hX hk0) (by decide) (fun c45 => ?_) (fun c45 => ?_)
    · have hs59 : ¬ (sk (μ 1) (μ 0 1) (μ 0 13) < μ 0 1 ∧ μ 1 (sk (μ 1) (μ 0 1) (μ 0 13)) = 59) := fun h => c45 ((seeV_eq hX hk0 (by decide)).mpr h)
      refine Rj_iload_n (q := 67) d_M_readsAll_66 rfl rfl rfl ?_
      refine Rj_if_eq (q := 70) (t := 88) d_M_readsAll_67 rfl (by decide) (by decide) (fun c => absurd c (by decide)) (fun _ => ?_)
      refine Rj_aload_n (q := 71) d_M_readsAll_70 rfl rfl rfl ?_
      refine Rj_vo (q := 74) (z := y_M_see) (as := []) (rest := []) (la := [vA 0]) oM_0_M_see ml_M_113 mw_M_see mv_M_see rfl d_M_readsAll_71 rfl rfl rfl rfl rfl ?_
      refine s_M_see (μ := (mset μ 0 13 (sk (μ 1) (μ 0 1) (μ 0 13)))) (A := (μ 1)) (n := (μ 0 1)) (k := sk (μ 1) (μ 0 1) (μ 0 13)) hX rfl rfl rfl (by omega) ?_
      have r71 := sk_bd (μ 1) (n := (μ 0 1)) (k := sk (μ 1) (μ 0 1) (μ 0 13)) (by omega)
      rw [sk_idem]
      refine Rj_eqm (μ' := (mset μ 0 13 (sk (μ 1) (μ 0 1) (μ 0 13)))) (mset_idv rfl) ?_
      refine Rj_iconst (q := 75) d_M_readsAll_74 rfl ?_
      refine Rj_icmp_eq (q := 78) (t := 88) d_M_readsAll_75 rfl (by decide) (by first | exact ⟨by omega, by omega⟩ | exact seeV_32 hX hk0) (by decide) (fun c75 => ?_) (fun c75 => ?_)
      · have hs75 : ¬ sk (μ 1) (μ 0 1) (μ 0 13) < μ 0 1 := (seeV_none hX hk0).mp c75
        refine Rj_iload_n (q := 89) d_M_readsAll_88 rfl rfl rfl ?_
        refine Rj_if_eq (q := 92) (t := 118) d_M_readsAll_89 rfl (by decide) (by decide) (fun c => absurd c (by decide)) (fun _ => ?_)
        refine Rj_aload_n (q := 93) d_M_readsAll_92 rfl rfl rfl ?_
        refine Rj_gi (q := 96) (ki := 16) (v := μ 0 16) gM_M_158_0 rfl rfl rfl d_M_readsAll_93 rfl ?_
        refine Rj_bipush (q := 98) d_M_readsAll_96 rfl (by decide +kernel) ?_
        refine Rj_icmp_ne (q := 101) (t := 118) d_M_readsAll_98 rfl (by decide) (by first | exact ⟨by omega, by omega⟩ | exact seeV_32 hX hk0) (by decide) (fun c98 => ?_) (fun c98 => ?_)
        · exact absurd ht c98
        · refine Rj_aload_n (q := 102) d_M_readsAll_101 rfl rfl rfl ?_
          refine Rj_gi (q := 105) (ki := 7) (v := μ 0 7) gM_M_230_0 rfl rfl rfl d_M_readsAll_102 rfl ?_
          refine Rj_if_ne (q := 108) (t := 118) d_M_readsAll_105 rfl (by decide) (by first | exact ⟨by omega, by omega⟩ | exact seeV_32 hX hk0) (fun c105 => ?_) (fun c105 => ?_)
          · refine Rj_aload_n (q := 119) d_M_readsAll_118 rfl rfl rfl ?_
            refine Rj_iconst (q := 120) d_M_readsAll_119 rfl ?_
            refine Rj_pi (q := 123) (ki := 1) pM_M_99_0 rfl rfl d_M_readsAll_120 rfl ?_
            refine Rj_aload_n (q := 124) d_M_readsAll_123 rfl rfl rfl ?_
            refine Rj_gi (q := 127) (ki := 14) (v := μ 0 14) gM_M_107_0 rfl rfl rfl d_M_readsAll_124 rfl ?_
            refine Rj_if_ne (q := 130) (t := 134) d_M_readsAll_127 rfl (by decide) (by first | exact ⟨by omega, by omega⟩ | exact seeV_32 hX hk0) (fun c127 => ?_) (fun c127 => ?_)
            · exact absurd hw0 c127
            · refine Rj_iconst (q := 131) d_M_readsAll_130 rfl ?_
              refine Rj_goto (t := 135) d_M_readsAll_131 (by decide) ?_
              refine Rj_bret1 d_M_readsAll_135 rfl ?_
              refine h1 _ _ ?_ rfl (Fr.put (Fr.put (Fr.refl _ _) (by decide)) (by decide)) hw0 rfl
              unfold stLoop
              exact ((if_neg hs59).trans (if_neg hs75)).trans (if_neg c105)
          · refine Rj_aload_n (q := 109) d_M_readsAll_108 rfl rfl rfl ?_
            refine Rj_iconst (q := 110) d_M_readsAll_109 rfl ?_
            refine Rj_aload_n (q := 111) d_M_readsAll_110 rfl rfl rfl ?_
            refine Rj_gi (q := 114) (ki := 13) (v := sk (μ 1) (μ 0 1) (μ 0 13)) gM_M_110_0 rfl rfl rfl d_M_readsAll_111 rfl ?_
            refine Rj_vo (q := 117) (z := y_M_fails) (as := [vI 0, vI (sk (μ 1) (μ 0 1) (μ 0 13))]) (rest := []) (la := [vA 0, vI 0, vI (sk (μ 1) (μ 0 1) (μ 0 13))]) oM_0_M_fails ml_M_131 mw_M_fails mv_M_fails rfl d_M_readsAll_114 rfl rfl rfl rfl rfl ?_
            refine s_M_fails hw0 ?_
            refine Rj_pop (q := 118) d_M_readsAll_117 rfl (by intro h; cases h) ?_
            refine Rj_aload_n (q := 119) d_M_readsAll_118 rfl rfl rfl ?_
            refine Rj_iconst (q := 120) d_M_readsAll_119 rfl ?_
            refine Rj_pi (q := 123) (ki := 1) pM_M_99_0 rfl rfl d_M_readsAll_120 rfl ?_
            refine Rj_aload_n (q := 124) d_M_readsAll_123 rfl rfl rfl ?_
            refine Rj_gi (q := 127) (ki := 14) (v := 1 + 8 * (sk (μ 1) (μ 0 1) (μ 0 13)) + 0) gM_M_107_0 rfl rfl rfl d_M_readsAll_124 rfl ?_
            refine Rj_if_ne (q := 130) (t := 134) d_M_readsAll_127 rfl (by decide) (by first | exact ⟨by omega, by omega⟩ | exact seeV_32 hX hk0) (fun c127 => ?_) (fun c127 => ?_)
            · refine Rj_iconst (q := 135) d_M_readsAll_134 rfl ?_
              refine Rj_bret0 d_M_readsAll_135 rfl ?_
              refine h2 _ _ ?_ (Fr.put (Fr.put (Fr.put (Fr.refl _ _) (by decide)) (by decide)) (by decide)) rfl rfl
              unfold stLoop
              first | exact (if_neg hs59).trans (if_pos hs75) | exact ((if_neg hs59).trans (if_neg hs75)).trans (if_pos c105)
            · exact absurd c127 (by omega)
      · have hs75 : sk (μ 1) (μ 0 1) (μ 0 13) < μ 0 1 := Classical.byContradiction (fun h => c75 ((seeV_none hX hk0).mpr h))
        refine Rj_aload_n (q := 79) d_M_readsAll_78 rfl rfl rfl ?_
        refine Rj_iconst (q := 80) d_M_readsAll_79 rfl ?_
        refine Rj_aload_n (q := 81) d_M_readsAll_80 rfl rfl rfl ?_
        refine Rj_gi (q := 84) (ki := 13) (v := sk (μ 1) (μ 0 1) (μ 0 13)) gM_M_110_0 rfl rfl rfl d_M_readsAll_81 rfl ?_
        refine Rj_vo (q := 87) (z := y_M_fails) (as := [vI 0, vI (sk (μ 1) (μ 0 1) (μ 0 13))]) (rest := []) (la := [vA 0, vI 0, vI (sk (μ 1) (μ 0 1) (μ 0 13))]) oM_0_M_fails ml_M_131 mw_M_fails mv_M_fails rfl d_M_readsAll_84 rfl rfl rfl rfl rfl ?_
        refine s_M_fails hw0 ?_
        refine Rj_istore_n (q := 88) (ls' := [vA 0, vI 0]) d_M_readsAll_87 rfl rfl (by decide) rfl ?_
        refine Rj_iload_n (q := 89) d_M_readsAll_88 rfl rfl rfl ?_
        refine Rj_if_eq (q := 92) (t := 118) d_M_readsAll_89 rfl (by decide) (by decide) (fun _ => ?_) (fun c => absurd c (by decide))
        refine Rj_aload_n (q := 119) d_M_readsAll_118 rfl rfl rfl ?_
        refine Rj_iconst (q := 120) d_M_readsAll_119 rfl ?_
        refine Rj_pi (q := 123) (ki := 1) pM_M_99_0 rfl rfl d_M_readsAll_120 rfl ?_
        refine Rj_aload_n (q := 124) d_M_readsAll_123 rfl rfl rfl ?_
        refine Rj_gi (q := 127) (ki := 14) (v := 1 + 8 * (sk (μ 1) (μ 0 1) (μ 0 13)) + 0) gM_M_107_0 rfl rfl rfl d_M_readsAll_124 rfl ?_
        refine Rj_if_ne (q := 130) (t := 134) d_M_readsAll_127 rfl (by decide) (by first | exact ⟨by omega, by omega⟩ | exact seeV_32 hX hk0) (fun c127 => ?_) (fun c127 => ?_)
        · refine Rj_iconst (q := 135) d_M_readsAll_134 rfl ?_
          refine Rj_bret0 d_M_readsAll_135 rfl ?_
          refine h2 _ _ ?_ (Fr.put (Fr.put (Fr.put (Fr.refl _ _) (by decide)) (by decide)) (by decide)) rfl rfl
          unfold stLoop
          first | exact (if_neg hs59).trans (if_pos hs75) | exact ((if_neg hs59).trans (if_neg hs75)).trans (if_pos c105)
        · exact absurd c127 (by omega)
    · have hs59 := (seeV_eq hX hk0 (by decide)).mp c45
      have hO1 : StOK (μ 0 1) (sk (μ 1) (μ 0 1) (μ 0 13) + 1, (srOf μ).2) := ⟨⟨by dsimp only; omega, by dsimp only; omega⟩, hO.2⟩
      refine Rj_aload_n (q := 49) d_M_readsAll_48 rfl rfl rfl ?_
      refine Rj_dup (q := 50) d_M_readsAll_49 rfl (by intro h; cases h) ?_
      refine Rj_gi (q := 53) (ki := 13) (v := sk (μ 1) (μ 0 1) (μ 0 13)) gM_M_110_0 rfl rfl rfl d_M_readsAll_50 rfl ?_
      refine Rj_iconst (q := 54) d_M_readsAll_53 rfl ?_
      refine Rj_iadd (q := 55) d_M_readsAll_54 rfl ?_
      refine Rj_pi (q := 58) (ki := 13) pM_M_110_0 rfl rfl d_M_readsAll_55 rfl ?_
      rw [mset_mset]
      refine Rj_aload_n (q := 59) d_M_readsAll_58 rfl rfl rfl ?_
      refine Rj_vo (q := 62) (z := y_M_clauseHere) (as := []) (rest := []) (la := [vA 0]) oM_0_M_clauseHere ml_M_270 mw_M_clauseHere mv_M_clauseHere rfl d_M_readsAll_59 rfl rfl rfl rfl rfl ?_
      refine s_M_clauseSt (μ := (mset μ 0 13 ((sk (μ 1) (μ 0 1) (μ 0 13)) + 1))) hX (show 0 ≤ sk (μ 1) (μ 0 1) (μ 0 13) + 1 ∧ sk (μ 1) (μ 0 1) (μ 0 13) + 1 ≤ μ 0 1 by omega) hw0 hO.2.2.1 hO.2.2.2.1 hO.2.2.2.2.1 ht hO.2.1 (fun m59 q59 f59 g59 => ?_) (fun w59 m59 q59 f59 g59 => ?_)
      · have z59 := True.intro
        refine Rj_istore_n (q := 63) (ls' := [vA 0, vI 1]) d_M_readsAll_62 rfl rfl (by decide) rfl ?_
        refine Rj_goto (t := 35) d_M_readsAll_63 (by decide) ?_
        have hA5 : m59 1 = μ 1 := f59.row (by intro i; unfold Wst; omega)
        have hn5 : m59 0 1 = μ 0 1 := f59 0 1 (by unfold Wst; omega)
        obtain ⟨hO5, hlt5⟩ := stClause_ok hO1 q59
        have hlt5 : sk (μ 1) (μ 0 1) (μ 0 13) + 1 < m59 0 13 := hlt5
        have hun : stLoop (μ 1) (μ 0 1) (f + 1) (srOf μ) = stLoop (μ 1) (μ 0 1) f (srOf m59) := stLoop_go hs59 q59
        rw [hun] at h1 h2
        exact ih (μ := m59) (by rw [hn5]; omega) (by rw [hA5, hn5]; exact hX) g59 (by rw [f59 0 16 (by unfold Wst; omega)]; exact ht) (by rw [hn5]; exact hO5) (by rw [hA5, hn5]; exact fun μ' σ a b c d e => h1 μ' σ a b (Fr.trans (Fr.trans (Fr.put (Fr.refl _ _) (by decide)) (Fr.wide f59 wd_st_ra)) c) d e) (by rw [hA5, hn5]; exact fun wr μ' a b d e => h2 wr μ' a (Fr.trans (Fr.trans (Fr.put (Fr.refl _ _) (by decide)) (Fr.wide f59 wd_st_ra)) b) d e)
      · have z59 := True.intro
        have hb59 := stClause_err hO1 q59
        refine Rj_istore_n (q := 63) (ls' := [vA 0, vI 0]) d_M_readsAll_62 rfl rfl (by decide) rfl ?_
        refine Rj_goto (t := 35) d_M_readsAll_63 (by decide) ?_
        refine Rj_iload_n (q := 36) d_M_readsAll_35 rfl rfl rfl ?_
        refine Rj_if_eq (q := 39) (t := 66) d_M_readsAll_36 rfl (by decide) (by decide) (fun _ => ?_) (fun c => absurd c (by decide))
        exact s_M_readsSt_bad g59 (by omega) (h2 _ _ (stLoop_bad hs59 q59) (Fr.put (Fr.trans (Fr.put (Fr.refl _ _) (by decide)) (Fr.wide f59 wd_st_ra)) (by decide)) g59 rfl)
set_option maxHeartbeats 4000000 in
theorem s_M_readsSt {μ : Mem} {Q : PV → Mem → Prop} (hX : TX (μ 1) (μ 0 1)) (ht : μ 0 16 = 6) (hD : μ 0 7 = 0) (hJ : μ 0 8 = 0) (hXX : μ 0 9 = 0) (hFF : μ 0 10 = 0) (h1 : ∀ μ' σ, stAll (μ 1) (μ 0 1) (μ 6) (μ 7) = .ok σ → srOf μ' = σ → Fr Wra μ μ' → μ' 0 14 = 0 → μ' 0 1 = 0 → Q (vI 1) μ') (h2 : ∀ wr μ', stAll (μ 1) (μ 0 1) (μ 6) (μ 7) = .error wr → Fr Wra μ μ' → μ' 0 14 = wr → μ' 0 1 = 0 → Q (vI 0) μ') : Rj YM y_M_readsAll 0 [vA 0] [] μ Q := by
  obtain ⟨hX1, hX2⟩ := id hX
  have hO0 : StOK (μ 0 1) (0, 0, 0, 0, 0, 0, μ 6, μ 7) := ⟨⟨Int.le_refl 0, hX1.1⟩, (show (0 : Int) ≤ 0 ∧ (0 : Int) ≤ 32 by decide), (show (0 : Int) ≤ 0 ∧ (0 : Int) ≤ 12 by decide), (show (0 : Int) ≤ 0 ∧ (0 : Int) ≤ 16 by decide), (show (0 : Int) ≤ 0 ∧ (0 : Int) ≤ 3 by decide), fun d h1 h2 => by dsimp only at h2; omega, fun j h1 h2 => by dsimp only at h2; omega⟩
  refine Rj_aload_n (q := 1) d_M_readsAll_0 rfl rfl rfl ?_
  refine Rj_gr (q := 4) (zd := 3) gM_M_17_0 rfl rfl d_M_readsAll_1 rfl ?_
  refine Rj_aload_n (q := 5) d_M_readsAll_4 rfl rfl rfl ?_
  refine Rj_gi (q := 8) (ki := 16) (v := μ 0 16) gM_M_158_0 rfl rfl rfl d_M_readsAll_5 rfl ?_
  refine Rj_iconst (q := 9) d_M_readsAll_8 rfl ?_
  refine Rj_is (q := 10) aM_3 rfl (by rw [ht]; decide) d_M_readsAll_9 rfl ?_
  refine Rj_aload_n (q := 11) d_M_readsAll_10 rfl rfl rfl ?_
  refine Rj_iconst (q := 12) d_M_readsAll_11 rfl ?_
  refine Rj_pi (q := 15) (ki := 19) pM_M_255_0 rfl rfl d_M_readsAll_12 rfl ?_
  refine Rj_aload_n (q := 16) d_M_readsAll_15 rfl rfl rfl ?_
  refine Rj_iconst (q := 17) d_M_readsAll_16 rfl ?_
  refine Rj_pi (q := 20) (ki := 13) pM_M_110_0 rfl rfl d_M_readsAll_17 rfl ?_
  refine Rj_aload_n (q := 21) d_M_readsAll_20 rfl rfl rfl ?_
  refine Rj_iconst (q := 22) d_M_readsAll_21 rfl ?_
  refine Rj_pi (q := 25) (ki := 14) pM_M_107_0 rfl rfl d_M_readsAll_22 rfl ?_
  refine Rj_aload_n (q := 26) d_M_readsAll_25 rfl rfl rfl ?_
  refine Rj_iconst (q := 27) d_M_readsAll_26 rfl ?_
  refine Rj_pi (q := 30) (ki := 17) pM_M_161_0 rfl rfl d_M_readsAll_27 rfl ?_
  refine Rj_aload_n (q := 31) d_M_readsAll_30 rfl rfl rfl ?_
  refine Rj_vo (q := 34) (z := y_M_clauseHere) (as := []) (rest := []) (la := [vA 0]) oM_0_M_clauseHere ml_M_270 mw_M_clauseHere mv_M_clauseHere rfl d_M_readsAll_31 rfl rfl rfl rfl rfl ?_
  refine s_M_clauseSt (μ := (mset (mset (mset (mset (mset μ 3 (μ 0 16) 0) 0 19 0) 0 13 0) 0 14 0) 0 17 0)) hX ⟨Int.le_refl 0, hX1.1⟩ rfl (show 0 ≤ μ 0 7 ∧ μ 0 7 ≤ 12 by omega) (show 0 ≤ μ 0 8 ∧ μ 0 8 ≤ 16 by omega) (show 0 ≤ μ 0 9 ∧ μ 0 9 ≤ 3 by omega) ht (show (0 : Int) ≤ 0 ∧ (0 : Int) ≤ 32 by decide) (fun m31 q31 f31 g31 => ?_) (fun w31 m31 q31 f31 g31 => ?_)
  · have z31 := True.intro
    refine Rj_istore_n (q := 35) (ls' := [vA 0, vI 1]) d_M_readsAll_34 rfl rfl (by decide) rfl ?_
    have hq : stClause (μ 1) (μ 0 1) (0, 0, 0, 0, 0, 0, μ 6, μ 7) = .ok (srOf m31) := by
      have := q31
      rw [show srOf (mset (mset (mset (mset (mset μ 3 (μ 0 16) 0) 0 19 0) 0 13 0) 0 14 0) 0 17 0) = (0, 0, μ 0 7, μ 0 8, μ 0 9, μ 0 10, μ 6, μ 7) from rfl, hD, hJ, hXX, hFF] at this
      exact this
    obtain ⟨hO3, hlt3⟩ := stClause_ok hO0 hq
    have hA3 : m31 1 = μ 1 := f31.row (by intro i; unfold Wst; omega)
    have hn3 : m31 0 1 = μ 0 1 := f31 0 1 (by unfold Wst; omega)
    have hall : stAll (μ 1) (μ 0 1) (μ 6) (μ 7) = stLoop (μ 1) (μ 0 1) 401 (srOf m31) := by unfold stAll; rw [hq]
    rw [hall] at h1 h2
    have h13 : 0 ≤ m31 0 13 := hO3.1.1
    exact s_M_readsSt_l 401 (by rw [hn3]; omega) (by rw [hA3, hn3]; exact hX) g31 (by rw [f31 0 16 (by unfold Wst; omega)]; exact ht) (by rw [hn3]; exact hO3) (by rw [hA3, hn3]; exact fun μ' σ a b c d e => h1 μ' σ a b (Fr.trans (Fr.trans (Fr.put (Fr.put (Fr.put (Fr.put (Fr.put (Fr.refl _ _) (by simp [Wra, ht])) (by decide)) (by decide)) (by decide)) (by decide)) (Fr.wide f31 wd_st_ra)) c) d e) (by rw [hA3, hn3]; exact fun wr μ' a b d e => h2 wr μ' a (Fr.trans (Fr.trans (Fr.put (Fr.put (Fr.put (Fr.put (Fr.put (Fr.refl _ _) (by simp [Wra, ht])) (by decide)) (by decide)) (by decide)) (by decide)) (Fr.wide f31 wd_st_ra)) b) d e)
  · have z31 := True.intro
    have hq : stClause (μ 1) (μ 0 1) (0, 0, 0, 0, 0, 0, μ 6, μ 7) = .error w31 := by
          have := q31
          rw [show srOf (mset (mset (mset (mset (mset μ 3 (μ 0 16) 0) 0 19 0) 0 13 0) 0 14 0) 0 17 0) = (0, 0, μ 0 7, μ 0 8, μ 0 9, μ 0 10, μ 6, μ 7) from rfl, hD, hJ, hXX, hFF] at this
          exact this
    have hb31 := stClause_err hO0 hq
    refine Rj_istore_n (q := 35) (ls' := [vA 0, vI 0]) d_M_readsAll_34 rfl rfl (by decide) rfl ?_
    refine Rj_iload_n (q := 36) d_M_readsAll_35 rfl rfl rfl ?_
    refine Rj_if_eq (q := 39) (t := 66) d_M_readsAll_36 rfl (by decide) (by decide) (fun _ => ?_) (fun c => absurd c (by decide))
    exact s_M_readsSt_bad g31 (by omega) (h2 _ _ (by unfold stAll; rw [hq]) (Fr.put (Fr.trans (Fr.put (Fr.put (Fr.put (Fr.put (Fr.put (Fr.refl _ _) (by simp [Wra, ht])) (by decide)) (by decide)) (by decide)) (by decide)) (Fr.wide f31 wd_st_ra)) (by decide)) g31 rfl)
