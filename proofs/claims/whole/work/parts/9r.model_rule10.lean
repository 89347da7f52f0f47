theorem oM_0_M_isPushHere : OI YM 0 y_M_isPushHere := ⟨by decide, _, _, _, cM_0, rfl⟩
/-! the reference reads a rule, whole -/
set_option maxHeartbeats 4000000 in
theorem s_M_clauseRu {μ : Mem} {Q : PV → Mem → Prop} {A : Int → Int} {n t k cl vl : Int} {D : List CLS} (hC : RM μ A n t k cl vl D ([], none)) (hT : TBL μ t D) (h0 : 0 ≤ k ∧ k ≤ n ∧ n ≤ 400) (hcl : (D.length : Int) = cl ∧ cl ≤ 12) (hvl : 0 ≤ vl ∧ vl ≤ 60) (hlen : nC D ([], none) ≤ k) (hE : ∀ e μ', RUNN A n k cl vl D (.error e) → Fr (Wcl t) μ μ' → μ' 0 14 = e → (1 ≤ e ∧ e ≤ 5000) → Q (vI 0) μ') (hG : ∀ μ' k' nx' vl' c', (∀ x, RUN A n k' [] (cl + 1) vl' nx' D c' x → RUNN A n k cl vl D x) → Fr (Wcl t) μ μ' → RM μ' A n t k' (cl + 1) vl' (D ++ [c']) ([], none) → TBL μ' t (D ++ [c']) → IV n k' [] (cl + 1) vl' nx' D c' → k < k' → sk A n k' = k' → nmo A n k' nx' → Q (vI 1) μ') : Rj YM y_M_clauseHere 0 [vA 0] [] μ Q := by
  obtain ⟨hA, hn, hX, hk, hw0, ht, hv, hc, hL, hl⟩ := id hC
  have hX1 := hX.1
  refine Rj_aload_n (q := 1) d_M_clauseHere_0 rfl rfl rfl ?_
  refine Rj_vo (q := 4) (z := y_M_see) (as := []) (rest := []) (la := [vA 0]) oM_0_M_see ml_M_113 mw_M_see mv_M_see rfl d_M_clauseHere_1 rfl rfl rfl rfl rfl ?_
  refine s_M_see (μ := μ) (A := A) (n := n) (k := k) hX hA hn hk (by omega) ?_
  have r1 := sk_bd A (n := n) (k := k) (by omega)
  have v1 := seeV_32 (n := n) hX (k := sk A n k) (by omega)
  refine Rj_pop (q := 5) d_M_clauseHere_4 rfl (by intro h; cases h) ?_
  refine Rj_aload_n (q := 6) d_M_clauseHere_5 rfl rfl rfl ?_
  refine Rj_gi (q := 9) (ki := 13) (v := sk A n k) gM_M_110_0 rfl rfl rfl d_M_clauseHere_6 rfl ?_
  refine Rj_istore_n (q := 10) (ls' := [vA 0, vI (sk A n k)]) d_M_clauseHere_9 rfl rfl (by decide) rfl ?_
  refine Rj_aload_n (q := 11) d_M_clauseHere_10 rfl rfl rfl ?_
  refine Rj_gi (q := 14) (ki := 16) (v := t) gM_M_158_0 rfl rfl ht.1 d_M_clauseHere_11 rfl ?_
  refine Rj_bipush (q := 16) d_M_clauseHere_14 rfl (by decide +kernel) ?_
  refine Rj_icmp_ne (q := 19) (t := 23) d_M_clauseHere_16 rfl (by decide) ⟨by omega, by omega⟩ (by decide) (fun c16 => ?_) (fun c16 => ?_)
  · refine Rj_iconst (q := 24) d_M_clauseHere_23 rfl ?_
    refine Rj_istore_n (q := 25) (ls' := [vA 0, vI (sk A n k), vI 0]) d_M_clauseHere_24 rfl rfl (by decide) rfl ?_
    refine Rj_iload_n (q := 26) d_M_clauseHere_25 rfl rfl rfl ?_
    refine Rj_if_eq (q := 29) (t := 64) d_M_clauseHere_26 rfl (by decide) (by decide) (fun _ => ?_) (fun c => absurd c (by decide))
    refine Rj_aload_n (q := 65) d_M_clauseHere_64 rfl rfl rfl ?_
    refine Rj_ldc2 (q := 68) k_M_253 d_M_clauseHere_65 rfl ?_
    refine Rj_vo (q := 71) (z := y_M_isWord) (as := [vL 1886745448]) (rest := []) (la := [vA 0, vL 1886745448, vU]) oM_0_M_isWord ml_M_121 mw_M_isWord mv_M_isWord rfl d_M_clauseHere_68 rfl rfl rfl rfl rfl ?_
    refine s_M_isWord (μ := (mset μ 0 13 (sk A n k))) (A := A) (n := n) (k := sk A n k) hX hA hn rfl (by omega) (w := 1886745448) (by decide) ?_
    rw [sk_idem]
    by_cases w68 : wat A n (sk A n k) 1886745448 = true
    · rw [bI_t w68]
      refine Rj_eqm (μ' := (mset μ 0 13 (sk A n k))) (mset_idv rfl) ?_
      refine Rj_istore_n (q := 72) (ls' := [vA 0, vI (sk A n k), vI 0, vI 1]) d_M_clauseHere_71 rfl rfl (by decide) rfl ?_
      refine Rj_iload_n (q := 73) d_M_clauseHere_72 rfl rfl rfl ?_
      refine Rj_if_ne (q := 76) (t := 83) d_M_clauseHere_73 rfl (by decide) (by decide) (fun _ => ?_) (fun c => absurd c (by decide))
      refine Rj_aload_n (q := 84) d_M_clauseHere_83 rfl rfl rfl ?_
      refine Rj_gi (q := 87) (ki := 19) (v := cl) gM_M_255_0 rfl rfl hc d_M_clauseHere_84 rfl ?_
      refine Rj_iload_n (q := 88) d_M_clauseHere_87 rfl rfl rfl ?_
      refine Rj_if_eq (q := 91) (t := 96) d_M_clauseHere_88 rfl (by decide) (by decide) (fun _ => ?_) (fun c => absurd c (by decide))
      refine Rj_bipush (q := 98) d_M_clauseHere_96 rfl (by decide +kernel) ?_
      refine Rj_icmp_ne (q := 101) (t := 108) d_M_clauseHere_98 rfl (by decide) ⟨by omega, by omega⟩ (by decide) (fun c98 => ?_) (fun c98 => ?_)
      · refine Rj_aload_n (q := 109) d_M_clauseHere_108 rfl rfl rfl ?_
        refine Rj_dup (q := 110) d_M_clauseHere_109 rfl (by intro h; cases h) ?_
        refine Rj_gi (q := 113) (ki := 19) (v := cl) gM_M_255_0 rfl rfl hc d_M_clauseHere_110 rfl ?_
        refine Rj_iconst (q := 114) d_M_clauseHere_113 rfl ?_
        refine Rj_iadd (q := 115) d_M_clauseHere_114 rfl ?_
        refine Rj_pi (q := 118) (ki := 19) pM_M_255_0 rfl rfl d_M_clauseHere_115 rfl ?_
        refine Rj_iload_n (q := 119) d_M_clauseHere_118 rfl rfl rfl ?_
        refine Rj_if_ne (q := 122) (t := 127) d_M_clauseHere_119 rfl (by decide) (by decide) (fun c => absurd c (by decide)) (fun _ => ?_)
        refine Rj_aload_n (q := 123) d_M_clauseHere_122 rfl rfl rfl ?_
        refine Rj_vo (q := 126) (z := y_M_isPushHere) (as := []) (rest := []) (la := [vA 0]) oM_0_M_isPushHere ml_M_258 mw_M_isPushHere mv_M_isPushHere rfl d_M_clauseHere_123 rfl rfl rfl rfl rfl ?_
        have el := WAT_end (w := 5) (by decide) ((WAT_iff (by decide)).mp (by rw [wN_5]; exact w68))
        rw [sLn_5] at el
        have lb := lend_bd A (n := n) (k := sk A n k) (by omega)
        have cv : RM ((mset (mset μ 0 13 (sk A n k)) 0 19 (cl + 1))) A n t (sk A n k) (cl + 1) vl D ([], none) := hC.upd (Fr.put (Fr.put (Fr.refl _ _) (by omega)) (by omega)) rfl hv rfl
        have fr0 : Fr (Wcl t) μ ((mset (mset μ 0 13 (sk A n k)) 0 19 (cl + 1))) := (Fr.put (Fr.put (Fr.refl _ _) (by unfold Wcl; omega)) (by unfold Wcl; omega))
        have nn := nC_nn D ([], none)
        have iv : IV n (lend A n (sk A n k)) [] (cl + 1) vl 0 D ([], none) := ⟨by omega, by omega, hvl, by simp; omega, (fun op q => absurd q (by simp)), by decide, ⟨fun _ => by decide, fun _ => rfl⟩, fun _ => rfl⟩
        refine s_M_isPushHere cv ⟨hT.1, hT.2⟩ w68 iv (by omega) (fun e m a1 a2 a3 a4 => ?_) (fun m k2 nx2 vl2 c2 a1 a2 a3 a4 a5 a6 a7 a8 => ?_)
        · have zz := True.intro
          refine Rj_bret0 d_M_clauseHere_126 rfl ?_
          exact hE e m (RUNN_go rfl w68 (by omega) a1) (fr0.trans a2) a3 a4
        · have zz := True.intro
          refine Rj_bret1 d_M_clauseHere_126 rfl ?_
          exact hG m k2 nx2 vl2 c2 (fun x g => RUNN_go rfl w68 (by omega) (a1 x g)) (fr0.trans a2) a3 a4 a5 (by omega) a7 a8
      · refine Rj_aload_n (q := 102) d_M_clauseHere_101 rfl rfl rfl ?_
        refine Rj_iconst (q := 103) d_M_clauseHere_102 rfl ?_
        refine Rj_iload_n (q := 104) d_M_clauseHere_103 rfl rfl rfl ?_
        refine Rj_vo (q := 107) (z := y_M_fails) (as := [vI 4, vI (sk A n k)]) (rest := []) (la := [vA 0, vI 4, vI (sk A n k)]) oM_0_M_fails ml_M_131 mw_M_fails mv_M_fails rfl d_M_clauseHere_104 rfl rfl rfl rfl rfl ?_
        refine s_M_fails hw0 ?_
        refine Rj_bret0 d_M_clauseHere_107 rfl ?_
        exact hE (1 + 8 * (sk A n k) + 4) _ (RUNN_many rfl w68 (by omega)) (Fr.put (Fr.put (Fr.refl _ _) (by unfold Wcl; omega)) (by unfold Wcl; omega)) rfl (by omega)
    · rw [bI_f (bool_f w68)]
      refine Rj_eqm (μ' := (mset μ 0 13 (sk A n k))) (mset_idv rfl) ?_
      refine Rj_istore_n (q := 72) (ls' := [vA 0, vI (sk A n k), vI 0, vI 0]) d_M_clauseHere_71 rfl rfl (by decide) rfl ?_
      refine Rj_iload_n (q := 73) d_M_clauseHere_72 rfl rfl rfl ?_
      refine Rj_if_ne (q := 76) (t := 83) d_M_clauseHere_73 rfl (by decide) (by decide) (fun c => absurd c (by decide)) (fun _ => ?_)
      refine Rj_aload_n (q := 77) d_M_clauseHere_76 rfl rfl rfl ?_
      refine Rj_iconst (q := 78) d_M_clauseHere_77 rfl ?_
      refine Rj_iload_n (q := 79) d_M_clauseHere_78 rfl rfl rfl ?_
      refine Rj_vo (q := 82) (z := y_M_fails) (as := [vI 0, vI (sk A n k)]) (rest := []) (la := [vA 0, vI 0, vI (sk A n k)]) oM_0_M_fails ml_M_131 mw_M_fails mv_M_fails rfl d_M_clauseHere_79 rfl rfl rfl rfl rfl ?_
      refine s_M_fails hw0 ?_
      refine Rj_bret0 d_M_clauseHere_82 rfl ?_
      exact hE (1 + 8 * (sk A n k) + 0) _ (RUNN_bad rfl w68) (Fr.put (Fr.put (Fr.refl _ _) (by unfold Wcl; omega)) (by unfold Wcl; omega)) rfl (by omega)
  · exact absurd c16 (by omega)
set_option maxHeartbeats 4000000 in
theorem s_M_readsRu_bad {μ : Mem} {Q : PV → Mem → Prop} {w : Int} (hw : μ 0 14 = w) (hw1 : 1 ≤ w ∧ w ≤ 5000) (hQ : Q (vI 0) (mset μ 0 1 0)) : Rj YM y_M_readsAll 35 [vA 0, vI 0] [] μ Q := by
  refine Rj_iload_n (q := 36) d_M_readsAll_35 rfl rfl rfl ?_
  refine Rj_if_eq (q := 39) (t := 66) d_M_readsAll_36 rfl (by decide) (by decide) (fun _ => ?_) (fun c => absurd c (by decide))
  refine Rj_iload_n (q := 67) d_M_readsAll_66 rfl rfl rfl ?_
  refine Rj_if_eq (q := 70) (t := 88) d_M_readsAll_67 rfl (by decide) (by decide) (fun _ => ?_) (fun c => absurd c (by decide))
  refine Rj_iload_n (q := 89) d_M_readsAll_88 rfl rfl rfl ?_
  refine Rj_if_eq (q := 92) (t := 118) d_M_readsAll_89 rfl (by decide) (by decide) (fun _ => ?_) (fun c => absurd c (by decide))
  refine Rj_aload_n (q := 119) d_M_readsAll_118 rfl rfl rfl ?_
  refine Rj_iconst (q := 120) d_M_readsAll_119 rfl ?_
  refine Rj_pi (q := 123) (ki := 1) pM_M_99_0 rfl rfl d_M_readsAll_120 rfl ?_
  refine Rj_aload_n (q := 124) d_M_readsAll_123 rfl rfl rfl ?_
  refine Rj_gi (q := 127) (ki := 14) (v := w) gM_M_107_0 rfl rfl hw d_M_readsAll_124 rfl ?_
  refine Rj_if_ne (q := 130) (t := 134) d_M_readsAll_127 rfl (by decide) ⟨by omega, by omega⟩ (fun c127 => ?_) (fun c127 => ?_)
  · refine Rj_iconst (q := 135) d_M_readsAll_134 rfl ?_
    refine Rj_bret0 d_M_readsAll_135 rfl ?_
    exact hQ
  · exact absurd c127 (by omega)
set_option maxHeartbeats 4000000 in
theorem s_M_readsRu_35 : ∀ (f : Nat) {μ : Mem} {Q : PV → Mem → Prop} {A : Int → Int} {n t k cl vl nx : Int} {D : List CLS} {c : CLS}, ((n - k).toNat < f) → (RM μ A n t k cl vl (D ++ [c]) ([], none)) → (TBL μ t (D ++ [c])) → (IV n k [] cl vl nx D c) → (sk A n k = k) → (nmo A n k nx) → (∀ e μ', RUN A n k [] cl vl nx D c (.error e) → Fr (fun c i => Wcl t c i ∨ (c = 0 ∧ i = 1)) μ μ' → μ' 0 14 = e → μ' 0 1 = 0 → (1 ≤ e ∧ e ≤ 5000) → Q (vI 0) μ') → (∀ μ' D', RUN A n k [] cl vl nx D c (.ok D') → Fr (fun c i => Wcl t c i ∨ (c = 0 ∧ i = 1)) μ μ' → μ' 0 14 = 0 → μ' 0 1 = 0 → LST (μ' 2) (400 * t) ((flM D').map enc) → μ' 3 t = ((flM D').length : Int) → TBL μ' t D' → Q (vI 1) μ') → Rj YM y_M_readsAll 35 [vA 0, vI 1] [] μ Q := by
  intro f
  induction f with
  | zero => intro μ Q A n t k cl vl nx D c hf hC hT hI hs hm hE hF; exact absurd hf (by omega)
  | succ f ih =>
    intro μ Q A n t k cl vl nx D c hf hC hT hI hs hm hE hF
    obtain ⟨hA, hn, hX, hk, hw0, ht, hv, hc, hL, hl⟩ := id hC
    obtain ⟨i1, i2, i3, i4, i5, i6, i7, i8⟩ := id hI
    have hX1 := hX.1
    have nn := nC_nn D c
    refine Rj_iload_n (q := 36) d_M_readsAll_35 rfl rfl rfl ?_
    refine Rj_if_eq (q := 39) (t := 66) d_M_readsAll_36 rfl (by decide) (by decide) (fun c => absurd c (by decide)) (fun _ => ?_)
    refine Rj_aload_n (q := 40) d_M_readsAll_39 rfl rfl rfl ?_
    refine Rj_vo (q := 43) (z := y_M_see) (as := []) (rest := []) (la := [vA 0]) oM_0_M_see ml_M_113 mw_M_see mv_M_see rfl d_M_readsAll_40 rfl rfl rfl rfl rfl ?_
    refine s_M_see (μ := μ) (A := A) (n := n) (k := k) hX hA hn hk (by omega) ?_
    have r40 := sk_bd A (n := n) (k := k) (by omega)
    have v40 := seeV_32 (n := n) hX (k := sk A n k) (by omega)
    refine Rj_bipush (q := 45) d_M_readsAll_43 rfl (by decide +kernel) ?_
    refine Rj_icmp_ne (q := 48) (t := 66) d_M_readsAll_45 rfl (by decide) (by first | assumption | exact ⟨by omega, by omega⟩) (by decide) (fun c45 => ?_) (fun c45 => ?_)
    · refine Rj_iload_n (q := 67) d_M_readsAll_66 rfl rfl rfl ?_
      refine Rj_if_eq (q := 70) (t := 88) d_M_readsAll_67 rfl (by decide) (by decide) (fun c => absurd c (by decide)) (fun _ => ?_)
      refine Rj_aload_n (q := 71) d_M_readsAll_70 rfl rfl rfl ?_
      refine Rj_vo (q := 74) (z := y_M_see) (as := []) (rest := []) (la := [vA 0]) oM_0_M_see ml_M_113 mw_M_see mv_M_see rfl d_M_readsAll_71 rfl rfl rfl rfl rfl ?_
      refine s_M_see (μ := (mset μ 0 13 (sk A n k))) (A := A) (n := n) (k := sk A n k) hX hA hn rfl (by omega) ?_
      rw [sk_idem]
      have v71 := seeV_32 (n := n) hX (k := sk A n k) (by omega)
      refine Rj_eqm (μ' := (mset μ 0 13 (sk A n k))) (mset_idv rfl) ?_
      refine Rj_iconst (q := 75) d_M_readsAll_74 rfl ?_
      refine Rj_icmp_eq (q := 78) (t := 88) d_M_readsAll_75 rfl (by decide) (by first | assumption | exact ⟨by omega, by omega⟩) (by decide) (fun c75 => ?_) (fun c75 => ?_)
      · refine Rj_iload_n (q := 89) d_M_readsAll_88 rfl rfl rfl ?_
        refine Rj_if_eq (q := 92) (t := 118) d_M_readsAll_89 rfl (by decide) (by decide) (fun c => absurd c (by decide)) (fun _ => ?_)
        refine Rj_aload_n (q := 93) d_M_readsAll_92 rfl rfl rfl ?_
        refine Rj_gi (q := 96) (ki := 16) (v := t) gM_M_158_0 rfl rfl ht.1 d_M_readsAll_93 rfl ?_
        refine Rj_bipush (q := 98) d_M_readsAll_96 rfl (by decide +kernel) ?_
        refine Rj_icmp_ne (q := 101) (t := 118) d_M_readsAll_98 rfl (by decide) (by first | assumption | exact ⟨by omega, by omega⟩) (by decide) (fun c98 => ?_) (fun c98 => ?_)
        · refine Rj_aload_n (q := 119) d_M_readsAll_118 rfl rfl rfl ?_
          refine Rj_iconst (q := 120) d_M_readsAll_119 rfl ?_
          refine Rj_pi (q := 123) (ki := 1) pM_M_99_0 rfl rfl d_M_readsAll_120 rfl ?_
          refine Rj_aload_n (q := 124) d_M_readsAll_123 rfl rfl rfl ?_
          refine Rj_gi (q := 127) (ki := 14) (v := 0) gM_M_107_0 rfl rfl hw0 d_M_readsAll_124 rfl ?_
          refine Rj_if_ne (q := 130) (t := 134) d_M_readsAll_127 rfl (by decide) (by decide) (fun c => absurd c (by decide)) (fun _ => ?_)
          refine Rj_iconst (q := 131) d_M_readsAll_130 rfl ?_
          refine Rj_goto (t := 135) d_M_readsAll_131 (by decide) ?_
          refine Rj_bret1 d_M_readsAll_135 rfl ?_
          have ll := hC.2.2.2.2.2.2.2.2.1
          rw [show cuC ([], none) = [] from rfl, List.append_nil] at ll
          exact hF _ (D ++ [c]) (RUN_end hs hm (show ¬ 0 < brn [] by decide) (by rw [seeV_none hX (by omega), hs] at c75; exact c75) rfl) (Fr.put (Fr.put (Fr.refl _ _) (Or.inl (by unfold Wcl; omega))) (Or.inr ⟨rfl, rfl⟩)) hw0 rfl ll (hC.2.2.2.2.2.2.2.2.2.trans (nM_flM _)) ⟨hT.1, hT.2⟩
        · exact absurd c98 (by omega)
      · refine Rj_aload_n (q := 79) d_M_readsAll_78 rfl rfl rfl ?_
        refine Rj_iconst (q := 80) d_M_readsAll_79 rfl ?_
        refine Rj_aload_n (q := 81) d_M_readsAll_80 rfl rfl rfl ?_
        refine Rj_gi (q := 84) (ki := 13) (v := sk A n k) gM_M_110_0 rfl rfl rfl d_M_readsAll_81 rfl ?_
        refine Rj_vo (q := 87) (z := y_M_fails) (as := [vI 0, vI (sk A n k)]) (rest := []) (la := [vA 0, vI 0, vI (sk A n k)]) oM_0_M_fails ml_M_131 mw_M_fails mv_M_fails rfl d_M_readsAll_84 rfl rfl rfl rfl rfl ?_
        refine s_M_fails hw0 ?_
        refine Rj_istore_n (q := 88) (ls' := [vA 0, vI 0]) d_M_readsAll_87 rfl rfl (by decide) rfl ?_
        refine Rj_iload_n (q := 89) d_M_readsAll_88 rfl rfl rfl ?_
        refine Rj_if_eq (q := 92) (t := 118) d_M_readsAll_89 rfl (by decide) (by decide) (fun _ => ?_) (fun c => absurd c (by decide))
        refine Rj_aload_n (q := 119) d_M_readsAll_118 rfl rfl rfl ?_
        refine Rj_iconst (q := 120) d_M_readsAll_119 rfl ?_
        refine Rj_pi (q := 123) (ki := 1) pM_M_99_0 rfl rfl d_M_readsAll_120 rfl ?_
        refine Rj_aload_n (q := 124) d_M_readsAll_123 rfl rfl rfl ?_
        refine Rj_gi (q := 127) (ki := 14) (v := 1 + 8 * (sk A n k) + 0) gM_M_107_0 rfl rfl rfl d_M_readsAll_124 rfl ?_
        refine Rj_if_ne (q := 130) (t := 134) d_M_readsAll_127 rfl (by decide) (by first | assumption | exact ⟨by omega, by omega⟩) (fun c127 => ?_) (fun c127 => ?_)
        · refine Rj_iconst (q := 135) d_M_readsAll_134 rfl ?_
          refine Rj_bret0 d_M_readsAll_135 rfl ?_
          have q75 : k < n := Classical.byContradiction (fun q => c75 (by rw [seeV_none hX (by omega), hs]; exact q))
          exact hE (1 + 8 * (sk A n k) + 0) _ (by rw [hs]; exact RUN_junk hs hm (show ¬ 0 < brn [] by decide) (fun q => c45 ((see_sgn hX (by omega) (by decide)).mpr (by rw [hs]; exact q))) q75) (Fr.put (Fr.put (Fr.put (Fr.refl _ _) (Or.inl (by unfold Wcl; omega))) (Or.inl (by unfold Wcl; omega))) (Or.inr ⟨rfl, rfl⟩)) rfl rfl (by omega)
        · exact absurd c127 (by omega)
    · refine Rj_aload_n (q := 49) d_M_readsAll_48 rfl rfl rfl ?_
      refine Rj_dup (q := 50) d_M_readsAll_49 rfl (by intro h; cases h) ?_
      refine Rj_gi (q := 53) (ki := 13) (v := sk A n k) gM_M_110_0 rfl rfl rfl d_M_readsAll_50 rfl ?_
      refine Rj_iconst (q := 54) d_M_readsAll_53 rfl ?_
      refine Rj_iadd (q := 55) d_M_readsAll_54 rfl ?_
      refine Rj_pi (q := 58) (ki := 13) pM_M_110_0 rfl rfl d_M_readsAll_55 rfl ?_
      rw [mset_mset]
      refine Rj_aload_n (q := 59) d_M_readsAll_58 rfl rfl rfl ?_
      refine Rj_vo (q := 62) (z := y_M_clauseHere) (as := []) (rest := []) (la := [vA 0]) oM_0_M_clauseHere ml_M_270 mw_M_clauseHere mv_M_clauseHere rfl d_M_readsAll_59 rfl rfl rfl rfl rfl ?_
      have sg : sgn A n (sk A n k) = 59 := (see_sgn hX (by omega) (by decide)).mp c45
      have kn := sgn_lt (by decide) sg
      have cv : RM ((mset μ 0 13 ((sk A n k) + 1))) A n t (sk A n k + 1) cl vl (D ++ [c]) ([], none) := hC.upd (Fr.put (Fr.refl _ _) (by omega)) rfl hv hc
      have fr0 : Fr (Wcl t) μ ((mset μ 0 13 ((sk A n k) + 1))) := (Fr.put (Fr.refl _ _) (by unfold Wcl; omega))
      have nN := nC_N D c
      have lN : (((D ++ [c]).length : Nat) : Int) = (D.length : Int) + 1 := by simp
      have zl : (([] : List Int).length : Int) = 0 := rfl
      have stp : ∀ x, RUNN A n (sk A n k + 1) cl vl (D ++ [c]) x → RUN A n k [] cl vl nx D c x := fun x g => RUN_semi hs (by rw [hs] at *; exact hm) (show ¬ 0 < brn [] by decide) (by rw [hs] at sg; exact sg) rfl (by rw [hs] at g; exact g)
      refine s_M_clauseRu cv ⟨hT.1, hT.2⟩ (by omega) (by omega) i3 (by omega) (fun e m a1 a2 a3 a4 => ?_) (fun m k2 nx2 vl2 c2 a1 a2 a3 a4 a5 a6 a7 a8 => ?_)
      · have zz := True.intro
        refine Rj_istore_n (q := 63) (ls' := [vA 0, vI 0]) d_M_readsAll_62 rfl rfl (by decide) rfl ?_
        refine Rj_goto (t := 35) d_M_readsAll_63 (by decide) ?_
        exact s_M_readsRu_bad a3 a4 (hE e (mset m 0 1 0) (stp _ a1) (Fr.put (Fr.trans (Fr.wide fr0 (fun c i q => Or.inl q)) (Fr.wide a2 (fun c i q => Or.inl q))) (Or.inr ⟨rfl, rfl⟩)) a3 rfl a4)
      · have zz := True.intro
        refine Rj_istore_n (q := 63) (ls' := [vA 0, vI 1]) d_M_readsAll_62 rfl rfl (by decide) rfl ?_
        refine Rj_goto (t := 35) d_M_readsAll_63 (by decide) ?_
        have fr2 : Fr (fun c i => Wcl t c i ∨ (c = 0 ∧ i = 1)) μ m := Fr.trans (Fr.wide fr0 (fun c i q => Or.inl q)) (Fr.wide a2 (fun c i q => Or.inl q))
        exact ih (μ := m) (k := k2) (D := D ++ [c]) (c := c2) (by have := a5.1; omega) a3 a4 a5 a7 a8 (fun e m3 b1 b2 b3 b4 b5 => hE e m3 (stp _ (a1 _ b1)) (fr2.trans b2) b3 b4 b5) (fun m3 D3 b1 b2 b3 b4 b5 b6 b7 => hF m3 D3 (stp _ (a1 _ b1)) (fr2.trans b2) b3 b4 b5 b6 b7)
