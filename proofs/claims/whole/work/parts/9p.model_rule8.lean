theorem oM_0_M_fact : OI YM 0 y_M_fact := ⟨by decide, _, _, _, cM_0, rfl⟩
theorem oM_0_M_closes : OI YM 0 y_M_closes := ⟨by decide, _, _, _, cM_0, rfl⟩
/-! the reference reads a rule: tests -/
theorem iv4_push {n k k' cl vl nx b op : Int} {w w' : List Int} {D : List CLS} {c c' : CLS} (h : IV n k w cl vl nx D c) (es : stl b w c = (w', c')) (ho : okw op) (hx : nx ≤ 1 → op ≠ 22) (hk : k + 1 ≤ k') (hk' : k' ≤ n) : IV n k' (op :: w') cl vl nx D c' := (h.settE es).push ho hx hk hk'
set_option maxHeartbeats 4000000 in
theorem s_M_tested_12 : ∀ (f : Nat) {μ : Mem} {Q : PV → Mem → Prop} {A : Int → Int} {n t k cl vl : Int} {w : List Int} {D : List CLS} {c : CLS}, ((n - k).toNat < f) → (RM μ A n t k cl vl D c) → (IV n k w cl vl 6 D c) → (OST μ w) → (OPW w) → (dpn w ≤ 10) → (∀ e μ', RUN A n k w cl vl 6 D c (.error e) → Fr (Wte t) μ μ' → μ' 0 14 = e → (1 ≤ e ∧ e ≤ 5000) → Q (vI 0) μ') → (∀ μ' k' vl' c', (∀ x, RUN A n k' [] cl vl' 7 D c' x → RUN A n k w cl vl 6 D c x) → Fr (Wte t) μ μ' → RM μ' A n t k' cl vl' D c' → IV n k' [] cl vl' 7 D c' → k < k' → sk A n k' = k' → nmo A n k' 7 → PF c c' → Q (vI 1) μ') → Rj YM y_M_tested 12 [vA 0, vI 1] [] μ Q := by
  intro f
  induction f with
  | zero => intro μ Q A n t k cl vl w D c hf hC hI hO hp hd hE hG; exact absurd hf (by omega)
  | succ f ih =>
    intro μ Q A n t k cl vl w D c hf hC hI hO hp hd hE hG
    obtain ⟨hA, hn, hX, hk, hw0, ht, hv, hc, hL, hl⟩ := id hC
    obtain ⟨i1, i2, i3, i4, i5, i6, i7, i8⟩ := id hI
    have nn := nM_le D c
    have hX1 := hX.1
    have dw := dpn_bd w
    refine Rj_iload_n (q := 13) d_M_tested_12 rfl rfl rfl ?_
    refine Rj_if_eq (q := 16) (t := 112) d_M_tested_13 rfl (by decide) (by decide) (fun c => absurd c (by decide)) (fun _ => ?_)
    refine Rj_aload_n (q := 17) d_M_tested_16 rfl rfl rfl ?_
    refine Rj_vo (q := 20) (z := y_M_fact) (as := []) (rest := []) (la := [vA 0]) oM_0_M_fact ml_M_212 mw_M_fact mv_M_fact rfl d_M_tested_17 rfl rfl rfl rfl rfl ?_
    refine s_M_fact hC hI hO hp hd (fun e m a1 a2 a3 a4 => ?_) (fun m k2 w2 vl2 c2 a1 a2 a3 a4 a5 a6 a7 a8 a9 pf1 => ?_)
    · have zz := True.intro
      refine Rj_if_ne (q := 23) (t := 25) d_M_tested_20 rfl (by decide) (by decide) (fun c => absurd c (by decide)) (fun _ => ?_)
      refine Rj_iconst (q := 24) d_M_tested_23 rfl ?_
      refine Rj_bret0 d_M_tested_24 rfl ?_
      exact hE e m a1 a2 a3 a4
    · have zz := True.intro
      refine Rj_if_ne (q := 23) (t := 25) d_M_tested_20 rfl (by decide) (by decide) (fun _ => ?_) (fun c => absurd c (by decide))
      refine Rj_aload_n (q := 26) d_M_tested_25 rfl rfl rfl ?_
      refine Rj_vov (q := 29) (z := y_M_closes) (as := []) (rest := []) (la := [vA 0]) oM_0_M_closes ml_M_215 mw_M_closes mv_M_closes rfl d_M_tested_26 rfl rfl rfl rfl rfl ?_
      refine s_M_closes a3 a4 a5 a6 a7 (fun m3 k3 w3 c3 b1 b2 b3 b4 b5 b6 b7 b8 b9 b10 pf2 => ?_)
      have stp : ∀ x, RUN A n k3 w3 cl vl2 7 D c3 x → RUN A n k w cl vl 6 D c x := fun x g => a1 x (b1 x g)
      have fr3 : Fr (Wte t) μ m3 := Fr.trans a2 b2
      have y1 := b4.1
      have y3 := b4.2.2.1
      have y4 := b4.2.2.2.1
      have z3 := nC_nn D c3
      have d3 := dpn_bd w3
      refine Rj_aload_n (q := 30) d_M_tested_29 rfl rfl rfl ?_
      refine Rj_ldc2 (q := 33) k_M_218 d_M_tested_30 rfl ?_
      refine Rj_vo (q := 36) (z := y_M_isWord) (as := [vL 6385252]) (rest := []) (la := [vA 0, vL 6385252, vU]) oM_0_M_isWord ml_M_121 mw_M_isWord mv_M_isWord rfl d_M_tested_33 rfl rfl rfl rfl rfl ?_
      refine s_M_isWord (μ := m3) (A := A) (n := n) (k := k3) hX b3.1 b3.2.1 b3.2.2.2.1 (by omega) (w := 6385252) (by decide) ?_
      rw [b9]
      by_cases w33 : wat A n k3 6385252 = true
      · rw [bI_t w33]
        refine Rj_eqm (μ' := m3) (mset_idv b3.2.2.2.1) ?_
        refine Rj_if_ne (q := 39) (t := 49) d_M_tested_36 rfl (by decide) (by decide) (fun _ => ?_) (fun c => absurd c (by decide))
        refine Rj_iconst (q := 50) d_M_tested_49 rfl ?_
        refine Rj_goto (t := 54) d_M_tested_50 (by decide) ?_
        refine Rj_istore_n (q := 55) (ls' := [vA 0, vI 1]) d_M_tested_54 rfl rfl (by decide) rfl ?_
        refine Rj_iload_n (q := 56) d_M_tested_55 rfl rfl rfl ?_
        refine Rj_if_eq (q := 59) (t := 12) d_M_tested_56 rfl (by decide) (by decide) (fun c => absurd c (by decide)) (fun _ => ?_)
        refine Rj_aload_n (q := 60) d_M_tested_59 rfl rfl rfl ?_
        refine Rj_ldc2 (q := 63) k_M_218 d_M_tested_60 rfl ?_
        refine Rj_vo (q := 66) (z := y_M_isWord) (as := [vL 6385252]) (rest := []) (la := [vA 0, vL 6385252, vU]) oM_0_M_isWord ml_M_121 mw_M_isWord mv_M_isWord rfl d_M_tested_63 rfl rfl rfl rfl rfl ?_
        refine s_M_isWord (μ := m3) (A := A) (n := n) (k := k3) hX b3.1 b3.2.1 b3.2.2.2.1 (by omega) (w := 6385252) (by decide) ?_
        rw [b9]
        rw [bI_t w33]
        refine Rj_eqm (μ' := m3) (mset_idv b3.2.2.2.1) ?_
        refine Rj_if_eq (q := 69) (t := 74) d_M_tested_66 rfl (by decide) (by decide) (fun c => absurd c (by decide)) (fun _ => ?_)
        refine Rj_bipush (q := 71) d_M_tested_69 rfl (by decide +kernel) ?_
        refine Rj_goto (t := 76) d_M_tested_71 (by decide) ?_
        refine Rj_istore_n (q := 77) (ls' := [vA 0, vI 1, vI 12]) d_M_tested_76 rfl rfl (by decide) rfl ?_
        refine Rj_aload_n (q := 78) d_M_tested_77 rfl rfl rfl ?_
        refine Rj_vov (q := 81) (z := y_M_passWord) (as := []) (rest := []) (la := [vA 0]) oM_0_M_passWord ml_M_125 mw_M_passWord mv_M_passWord rfl d_M_tested_78 rfl rfl rfl rfl rfl ?_
        refine s_M_passWord (μ := m3) (A := A) (n := n) (k := k3) hX b3.1 b3.2.1 b3.2.2.2.1 (by omega) ?_
        have lb78 := lend_bd A (n := n) (k := k3) (by omega)
        refine Rj_aload_n (q := 82) d_M_tested_81 rfl rfl rfl ?_
        refine Rj_iload_n (q := 83) d_M_tested_82 rfl rfl rfl ?_
        refine Rj_cs (q := 86) (z := y_M_strength) (as := [vI 12]) (rest := [vA 0]) (la := [vI 12]) ml_M_170 mw_M_strength ms_M_strength d_M_tested_83 rfl rfl rfl rfl rfl ?_
        refine Rj_iload_n (q := 1) d_M_strength_0 rfl rfl rfl ?_
        refine Rj_bipush (q := 3) d_M_strength_1 rfl (by decide +kernel) ?_
        refine Rj_icmp_ne (q := 6) (t := 10) d_M_strength_3 rfl (by decide) (by decide) (by decide) (fun _ => ?_) (fun c => absurd c (by decide))
        refine Rj_iload_n (q := 11) d_M_strength_10 rfl rfl rfl ?_
        refine Rj_bipush (q := 13) d_M_strength_11 rfl (by decide +kernel) ?_
        refine Rj_icmp_ne (q := 16) (t := 20) d_M_strength_13 rfl (by decide) (by decide) (by decide) (fun c => absurd c (by decide)) (fun _ => ?_)
        refine Rj_iconst (q := 17) d_M_strength_16 rfl ?_
        refine Rj_goto (t := 31) d_M_strength_17 (by decide) ?_
        refine Rj_iret d_M_strength_31 rfl ?_
        refine Rj_vov (q := 89) (z := y_M_settles) (as := [vI 2]) (rest := []) (la := [vA 0, vI 2]) oM_0_M_settles ml_M_206 mw_M_settles mv_M_settles rfl d_M_tested_86 rfl rfl rfl rfl rfl ?_
        have wl := wat_len w33
        have cv : RM ((mset m3 0 13 (lend A n k3))) A n t (lend A n k3) cl vl2 D c3 := b3.upd (Fr.put (Fr.refl _ _) (by omega)) rfl b3.2.2.2.2.2.2.1 b3.2.2.2.2.2.2.2.1
        have iv : IV n (lend A n k3) w3 cl vl2 7 D c3 := b4.to (by omega) (by omega)
        obtain ⟨w', c', es⟩ : ∃ w' c', stl 2 w3 c3 = (w', c') := ⟨_, _, rfl⟩
        refine s_M_settles (b := 2) cv iv (b5.te rfl rfl rfl) b6 (by decide) (fun m4 f4 cm4 om4 => ?_)
        rw [es] at cm4 om4
        dsimp only at cm4 om4
        have iv4 := iv.settE es
        have p4 : OPW w' := by have q := b6.stl (b := 2) (c := c3); rw [es] at q; exact q
        have d4 : dpn w' ≤ 10 := by have q := dpn_stl (b := 2) (w := w3) (c := c3); rw [es] at q; dsimp only at q; omega
        have x4 := iv4.2.2.2.1
        have z4 := nC_nn D c'
        have fr4 : Fr (Wte t) μ m4 := Fr.trans (Fr.trans fr3 (Fr.put (Fr.refl _ _) (by unfold Wte; omega))) f4
        refine Rj_aload_n (q := 90) d_M_tested_89 rfl rfl rfl ?_
        refine Rj_gr (q := 93) (zd := 8) gM_M_32_0 rfl rfl d_M_tested_90 rfl ?_
        refine Rj_aload_n (q := 94) d_M_tested_93 rfl rfl rfl ?_
        refine Rj_gi (q := 97) (ki := 21) (v := (w'.length : Int)) gM_M_167_0 rfl rfl om4.1 d_M_tested_94 rfl ?_
        refine Rj_iload_n (q := 98) d_M_tested_97 rfl rfl rfl ?_
        refine Rj_is (q := 99) aM_8 rfl (by omega) d_M_tested_98 rfl ?_
        refine Rj_aload_n (q := 100) d_M_tested_99 rfl rfl rfl ?_
        refine Rj_dup (q := 101) d_M_tested_100 rfl (by intro h; cases h) ?_
        refine Rj_gi (q := 104) (ki := 21) (v := (w'.length : Int)) gM_M_167_0 rfl rfl om4.1 d_M_tested_101 rfl ?_
        refine Rj_iconst (q := 105) d_M_tested_104 rfl ?_
        refine Rj_iadd (q := 106) d_M_tested_105 rfl ?_
        refine Rj_pi (q := 109) (ki := 21) pM_M_167_0 rfl rfl d_M_tested_106 rfl ?_
        refine Rj_goto (t := 12) d_M_tested_109 (by decide) ?_
        refine Rj_pre (ls' := [vA 0, vI 1]) (t := [vI 12]) rfl ?_
        have cv5 : RM ((mset (mset m4 8 (w'.length : Int) 12) 0 21 ((w'.length : Int) + 1))) A n t (lend A n k3) cl vl2 D c' := cm4.upd2 (Fr.put (Fr.put (Fr.refl _ _) (by omega)) (by omega)) cm4.2.2.2.1 cm4.2.2.2.2.2.2.1 cm4.2.2.2.2.2.2.2.1
        have iv5 : IV n (lend A n k3) (17 :: w') cl vl2 6 D c' := (iv4_push b4 es (by decide) (by decide) (by omega) (by omega)).at (by decide) (by decide)
        have ov5 : OST ((mset (mset m4 8 (w'.length : Int) 12) 0 21 ((w'.length : Int) + 1))) (17 :: w') := om4.push rfl (by rw [if_neg (by decide)]; exact om4.2.1.trans (Int.add_zero _).symm) (mset_same _ _ _ _) (fun i hi => mset_ne _ _ _ _ _ hi)
        exact ih (μ := (mset (mset m4 8 (w'.length : Int) 12) 0 21 ((w'.length : Int) + 1))) (k := lend A n k3) (w := 17 :: w') (c := c') (vl := vl2) (by omega) cv5 iv5 ov5 (p4.cons (by decide)) (by rw [dpn_cons, if_neg (by decide)]; omega) (fun e m6 g1 g2 g3 g4 => hE e m6 (stp _ ((fun g => RUN_and b9 ⟨Or.inl rfl, Or.inr rfl⟩ w33 es g) g1)) (Fr.trans (Fr.trans fr4 (Fr.put (Fr.put (Fr.refl _ _) (by unfold Wte; omega)) (by unfold Wte; omega))) g2) g3 g4) (fun m6 k6 v6 c6 g1 g2 g3 g4 g5 g6 g7 g8 => hG m6 k6 v6 c6 (fun x g0 => stp x ((fun g => RUN_and b9 ⟨Or.inl rfl, Or.inr rfl⟩ w33 es g) (g1 x g0))) (Fr.trans (Fr.trans fr4 (Fr.put (Fr.put (Fr.refl _ _) (by unfold Wte; omega)) (by unfold Wte; omega))) g2) g3 g4 (by omega) g6 g7 ((pf1.trans pf2).trans ((PF_stE es).trans g8)))
      · rw [bI_f (bool_f w33)]
        refine Rj_eqm (μ' := m3) (mset_idv b3.2.2.2.1) ?_
        refine Rj_if_ne (q := 39) (t := 49) d_M_tested_36 rfl (by decide) (by decide) (fun c => absurd c (by decide)) (fun _ => ?_)
        refine Rj_aload_n (q := 40) d_M_tested_39 rfl rfl rfl ?_
        refine Rj_ldc2 (q := 43) k_M_220 d_M_tested_40 rfl ?_
        refine Rj_vo (q := 46) (z := y_M_isWord) (as := [vL 28530]) (rest := []) (la := [vA 0, vL 28530, vU]) oM_0_M_isWord ml_M_121 mw_M_isWord mv_M_isWord rfl d_M_tested_43 rfl rfl rfl rfl rfl ?_
        refine s_M_isWord (μ := m3) (A := A) (n := n) (k := k3) hX b3.1 b3.2.1 b3.2.2.2.1 (by omega) (w := 28530) (by decide) ?_
        rw [b9]
        by_cases w43 : wat A n k3 28530 = true
        · rw [bI_t w43]
          refine Rj_eqm (μ' := m3) (mset_idv b3.2.2.2.1) ?_
          refine Rj_if_eq (q := 49) (t := 53) d_M_tested_46 rfl (by decide) (by decide) (fun c => absurd c (by decide)) (fun _ => ?_)
          refine Rj_iconst (q := 50) d_M_tested_49 rfl ?_
          refine Rj_goto (t := 54) d_M_tested_50 (by decide) ?_
          refine Rj_istore_n (q := 55) (ls' := [vA 0, vI 1]) d_M_tested_54 rfl rfl (by decide) rfl ?_
          refine Rj_iload_n (q := 56) d_M_tested_55 rfl rfl rfl ?_
          refine Rj_if_eq (q := 59) (t := 12) d_M_tested_56 rfl (by decide) (by decide) (fun c => absurd c (by decide)) (fun _ => ?_)
          refine Rj_aload_n (q := 60) d_M_tested_59 rfl rfl rfl ?_
          refine Rj_ldc2 (q := 63) k_M_218 d_M_tested_60 rfl ?_
          refine Rj_vo (q := 66) (z := y_M_isWord) (as := [vL 6385252]) (rest := []) (la := [vA 0, vL 6385252, vU]) oM_0_M_isWord ml_M_121 mw_M_isWord mv_M_isWord rfl d_M_tested_63 rfl rfl rfl rfl rfl ?_
          refine s_M_isWord (μ := m3) (A := A) (n := n) (k := k3) hX b3.1 b3.2.1 b3.2.2.2.1 (by omega) (w := 6385252) (by decide) ?_
          rw [b9]
          rw [bI_f (bool_f w33)]
          refine Rj_eqm (μ' := m3) (mset_idv b3.2.2.2.1) ?_
          refine Rj_if_eq (q := 69) (t := 74) d_M_tested_66 rfl (by decide) (by decide) (fun _ => ?_) (fun c => absurd c (by decide))
          refine Rj_bipush (q := 76) d_M_tested_74 rfl (by decide +kernel) ?_
          refine Rj_istore_n (q := 77) (ls' := [vA 0, vI 1, vI 13]) d_M_tested_76 rfl rfl (by decide) rfl ?_
          refine Rj_aload_n (q := 78) d_M_tested_77 rfl rfl rfl ?_
          refine Rj_vov (q := 81) (z := y_M_passWord) (as := []) (rest := []) (la := [vA 0]) oM_0_M_passWord ml_M_125 mw_M_passWord mv_M_passWord rfl d_M_tested_78 rfl rfl rfl rfl rfl ?_
          refine s_M_passWord (μ := m3) (A := A) (n := n) (k := k3) hX b3.1 b3.2.1 b3.2.2.2.1 (by omega) ?_
          have lb78 := lend_bd A (n := n) (k := k3) (by omega)
          refine Rj_aload_n (q := 82) d_M_tested_81 rfl rfl rfl ?_
          refine Rj_iload_n (q := 83) d_M_tested_82 rfl rfl rfl ?_
          refine Rj_cs (q := 86) (z := y_M_strength) (as := [vI 13]) (rest := [vA 0]) (la := [vI 13]) ml_M_170 mw_M_strength ms_M_strength d_M_tested_83 rfl rfl rfl rfl rfl ?_
          refine Rj_iload_n (q := 1) d_M_strength_0 rfl rfl rfl ?_
          refine Rj_bipush (q := 3) d_M_strength_1 rfl (by decide +kernel) ?_
          refine Rj_icmp_ne (q := 6) (t := 10) d_M_strength_3 rfl (by decide) (by decide) (by decide) (fun c => absurd c (by decide)) (fun _ => ?_)
          refine Rj_iconst (q := 7) d_M_strength_6 rfl ?_
          refine Rj_goto (t := 31) d_M_strength_7 (by decide) ?_
          refine Rj_iret d_M_strength_31 rfl ?_
          refine Rj_vov (q := 89) (z := y_M_settles) (as := [vI 1]) (rest := []) (la := [vA 0, vI 1]) oM_0_M_settles ml_M_206 mw_M_settles mv_M_settles rfl d_M_tested_86 rfl rfl rfl rfl rfl ?_
          have wl := wat_len w43
          have cv : RM ((mset m3 0 13 (lend A n k3))) A n t (lend A n k3) cl vl2 D c3 := b3.upd (Fr.put (Fr.refl _ _) (by omega)) rfl b3.2.2.2.2.2.2.1 b3.2.2.2.2.2.2.2.1
          have iv : IV n (lend A n k3) w3 cl vl2 7 D c3 := b4.to (by omega) (by omega)
          obtain ⟨w', c', es⟩ : ∃ w' c', stl 1 w3 c3 = (w', c') := ⟨_, _, rfl⟩
          refine s_M_settles (b := 1) cv iv (b5.te rfl rfl rfl) b6 (by decide) (fun m4 f4 cm4 om4 => ?_)
          rw [es] at cm4 om4
          dsimp only at cm4 om4
          have iv4 := iv.settE es
          have p4 : OPW w' := by have q := b6.stl (b := 1) (c := c3); rw [es] at q; exact q
          have d4 : dpn w' ≤ 10 := by have q := dpn_stl (b := 1) (w := w3) (c := c3); rw [es] at q; dsimp only at q; omega
          have x4 := iv4.2.2.2.1
          have z4 := nC_nn D c'
          have fr4 : Fr (Wte t) μ m4 := Fr.trans (Fr.trans fr3 (Fr.put (Fr.refl _ _) (by unfold Wte; omega))) f4
          refine Rj_aload_n (q := 90) d_M_tested_89 rfl rfl rfl ?_
          refine Rj_gr (q := 93) (zd := 8) gM_M_32_0 rfl rfl d_M_tested_90 rfl ?_
          refine Rj_aload_n (q := 94) d_M_tested_93 rfl rfl rfl ?_
          refine Rj_gi (q := 97) (ki := 21) (v := (w'.length : Int)) gM_M_167_0 rfl rfl om4.1 d_M_tested_94 rfl ?_
          refine Rj_iload_n (q := 98) d_M_tested_97 rfl rfl rfl ?_
          refine Rj_is (q := 99) aM_8 rfl (by omega) d_M_tested_98 rfl ?_
          refine Rj_aload_n (q := 100) d_M_tested_99 rfl rfl rfl ?_
          refine Rj_dup (q := 101) d_M_tested_100 rfl (by intro h; cases h) ?_
          refine Rj_gi (q := 104) (ki := 21) (v := (w'.length : Int)) gM_M_167_0 rfl rfl om4.1 d_M_tested_101 rfl ?_
          refine Rj_iconst (q := 105) d_M_tested_104 rfl ?_
          refine Rj_iadd (q := 106) d_M_tested_105 rfl ?_
          refine Rj_pi (q := 109) (ki := 21) pM_M_167_0 rfl rfl d_M_tested_106 rfl ?_
          refine Rj_goto (t := 12) d_M_tested_109 (by decide) ?_
          refine Rj_pre (ls' := [vA 0, vI 1]) (t := [vI 13]) rfl ?_
          have cv5 : RM ((mset (mset m4 8 (w'.length : Int) 13) 0 21 ((w'.length : Int) + 1))) A n t (lend A n k3) cl vl2 D c' := cm4.upd2 (Fr.put (Fr.put (Fr.refl _ _) (by omega)) (by omega)) cm4.2.2.2.1 cm4.2.2.2.2.2.2.1 cm4.2.2.2.2.2.2.2.1
          have iv5 : IV n (lend A n k3) (18 :: w') cl vl2 6 D c' := (iv4_push b4 es (by decide) (by decide) (by omega) (by omega)).at (by decide) (by decide)
          have ov5 : OST ((mset (mset m4 8 (w'.length : Int) 13) 0 21 ((w'.length : Int) + 1))) (18 :: w') := om4.push rfl (by rw [if_neg (by decide)]; exact om4.2.1.trans (Int.add_zero _).symm) (mset_same _ _ _ _) (fun i hi => mset_ne _ _ _ _ _ hi)
          exact ih (μ := (mset (mset m4 8 (w'.length : Int) 13) 0 21 ((w'.length : Int) + 1))) (k := lend A n k3) (w := 18 :: w') (c := c') (vl := vl2) (by omega) cv5 iv5 ov5 (p4.cons (by decide)) (by rw [dpn_cons, if_neg (by decide)]; omega) (fun e m6 g1 g2 g3 g4 => hE e m6 (stp _ ((fun g => RUN_or b9 ⟨Or.inl rfl, Or.inr rfl⟩ w33 w43 es g) g1)) (Fr.trans (Fr.trans fr4 (Fr.put (Fr.put (Fr.refl _ _) (by unfold Wte; omega)) (by unfold Wte; omega))) g2) g3 g4) (fun m6 k6 v6 c6 g1 g2 g3 g4 g5 g6 g7 g8 => hG m6 k6 v6 c6 (fun x g0 => stp x ((fun g => RUN_or b9 ⟨Or.inl rfl, Or.inr rfl⟩ w33 w43 es g) (g1 x g0))) (Fr.trans (Fr.trans fr4 (Fr.put (Fr.put (Fr.refl _ _) (by unfold Wte; omega)) (by unfold Wte; omega))) g2) g3 g4 (by omega) g6 g7 ((pf1.trans pf2).trans ((PF_stE es).trans g8)))
        · rw [bI_f (bool_f w43)]
          refine Rj_eqm (μ' := m3) (mset_idv b3.2.2.2.1) ?_
          refine Rj_if_eq (q := 49) (t := 53) d_M_tested_46 rfl (by decide) (by decide) (fun _ => ?_) (fun c => absurd c (by decide))
          refine Rj_iconst (q := 54) d_M_tested_53 rfl ?_
          refine Rj_istore_n (q := 55) (ls' := [vA 0, vI 0]) d_M_tested_54 rfl rfl (by decide) rfl ?_
          refine Rj_iload_n (q := 56) d_M_tested_55 rfl rfl rfl ?_
          refine Rj_if_eq (q := 59) (t := 12) d_M_tested_56 rfl (by decide) (by decide) (fun _ => ?_) (fun c => absurd c (by decide))
          refine Rj_iload_n (q := 13) d_M_tested_12 rfl rfl rfl ?_
          refine Rj_if_eq (q := 16) (t := 112) d_M_tested_13 rfl (by decide) (by decide) (fun _ => ?_) (fun c => absurd c (by decide))
          refine Rj_aload_n (q := 113) d_M_tested_112 rfl rfl rfl ?_
          refine Rj_vo (q := 116) (z := y_M_isInside) (as := []) (rest := []) (la := [vA 0]) oM_0_M_isInside ml_M_209 mw_M_isInside mv_M_isInside rfl d_M_tested_113 rfl rfl rfl rfl rfl ?_
          refine s_M_isInside b5 b6 (by omega) (fun q113 => ?_) (fun q113 => ?_)
          · have hm : nmo A n k3 7 := Or.inr ⟨⟨Or.inl rfl, Or.inr rfl⟩, w33, w43⟩
            refine Rj_if_eq (q := 119) (t := 134) d_M_tested_116 rfl (by decide) (by decide) (fun c => absurd c (by decide)) (fun _ => ?_)
            refine Rj_aload_n (q := 120) d_M_tested_119 rfl rfl rfl ?_
            refine Rj_vo (q := 123) (z := y_M_see) (as := []) (rest := []) (la := [vA 0]) oM_0_M_see ml_M_113 mw_M_see mv_M_see rfl d_M_tested_120 rfl rfl rfl rfl rfl ?_
            refine s_M_see (μ := m3) (A := A) (n := n) (k := k3) hX b3.1 b3.2.1 b3.2.2.2.1 (by omega) ?_
            rw [b9]
            have v120 := seeV_32 (n := n) hX (k := k3) (by omega)
            refine Rj_eqm (μ' := m3) (mset_idv b3.2.2.2.1) ?_
            refine Rj_pop (q := 124) d_M_tested_123 rfl (by intro h; cases h) ?_
            refine Rj_aload_n (q := 125) d_M_tested_124 rfl rfl rfl ?_
            refine Rj_iconst (q := 126) d_M_tested_125 rfl ?_
            refine Rj_aload_n (q := 127) d_M_tested_126 rfl rfl rfl ?_
            refine Rj_gi (q := 130) (ki := 13) (v := k3) gM_M_110_0 rfl rfl b3.2.2.2.1 d_M_tested_127 rfl ?_
            refine Rj_vo (q := 133) (z := y_M_fails) (as := [vI 0, vI k3]) (rest := []) (la := [vA 0, vI 0, vI k3]) oM_0_M_fails ml_M_131 mw_M_fails mv_M_fails rfl d_M_tested_130 rfl rfl rfl rfl rfl ?_
            refine s_M_fails b3.2.2.2.2.1 ?_
            refine Rj_bret0 d_M_tested_133 rfl ?_
            exact hE (1 + 8 * k3 + 0) _ (stp _ (RUN_nclose b9 hm q113 (b10.resolve_right (fun q => q q113)))) (Fr.trans fr3 (Fr.put (Fr.refl _ _) (by unfold Wte; omega))) rfl (by omega)
          · have hm : nmo A n k3 7 := Or.inr ⟨⟨Or.inl rfl, Or.inr rfl⟩, w33, w43⟩
            refine Rj_if_eq (q := 119) (t := 134) d_M_tested_116 rfl (by decide) (by decide) (fun _ => ?_) (fun c => absurd c (by decide))
            refine Rj_aload_n (q := 135) d_M_tested_134 rfl rfl rfl ?_
            refine Rj_iconst (q := 136) d_M_tested_135 rfl ?_
            refine Rj_vov (q := 139) (z := y_M_settles) (as := [vI 1]) (rest := []) (la := [vA 0, vI 1]) oM_0_M_settles ml_M_206 mw_M_settles mv_M_settles rfl d_M_tested_136 rfl rfl rfl rfl rfl ?_
            obtain ⟨c', es⟩ : ∃ c', stl 1 w3 c3 = ([], c') := ⟨(stl 1 w3 c3).2, by rw [← stl_nb (c := c3) b4.2.2.2.2.1 q113]⟩
            refine s_M_settles (b := 1) b3 b4 b5 b6 (by decide) (fun m5 f5 cm5 om5 => ?_)
            rw [es] at cm5 om5
            dsimp only at cm5 om5
            refine Rj_iconst (q := 140) d_M_tested_139 rfl ?_
            refine Rj_bret1 d_M_tested_140 rfl ?_
            exact hG m5 k3 vl2 c' (fun x g => stp x (RUN_stl1 b9 hm q113 es g)) (Fr.trans fr3 f5) cm5 (b4.settE es) (by omega) b9 hm ((pf1.trans pf2).trans (PF_stE es))
set_option maxHeartbeats 4000000 in
theorem s_M_tested {μ : Mem} {Q : PV → Mem → Prop} {A : Int → Int} {n t k cl vl : Int} {D : List CLS} {c : CLS} (hC : RM μ A n t k cl vl D c) (hI : IV n k [] cl vl 6 D c) (hE : ∀ e μ', RUN A n k [] cl vl 6 D c (.error e) → Fr (Wte t) μ μ' → μ' 0 14 = e → (1 ≤ e ∧ e ≤ 5000) → Q (vI 0) μ') (hG : ∀ μ' k' vl' c', (∀ x, RUN A n k' [] cl vl' 7 D c' x → RUN A n k [] cl vl 6 D c x) → Fr (Wte t) μ μ' → RM μ' A n t k' cl vl' D c' → IV n k' [] cl vl' 7 D c' → k < k' → sk A n k' = k' → nmo A n k' 7 → PF c c' → Q (vI 1) μ') : Rj YM y_M_tested 0 [vA 0] [] μ Q := by
  obtain ⟨hA, hn, hX, hk, hw0, ht, hv, hc, hL, hl⟩ := id hC
  refine Rj_aload_n (q := 1) d_M_tested_0 rfl rfl rfl ?_
  refine Rj_iconst (q := 2) d_M_tested_1 rfl ?_
  refine Rj_pi (q := 5) (ki := 21) pM_M_167_0 rfl rfl d_M_tested_2 rfl ?_
  refine Rj_aload_n (q := 6) d_M_tested_5 rfl rfl rfl ?_
  refine Rj_iconst (q := 7) d_M_tested_6 rfl ?_
  refine Rj_pi (q := 10) (ki := 18) pM_M_164_0 rfl rfl d_M_tested_7 rfl ?_
  refine Rj_iconst (q := 11) d_M_tested_10 rfl ?_
  refine Rj_istore_n (q := 12) (ls' := [vA 0, vI 1]) d_M_tested_11 rfl rfl (by decide) rfl ?_
  have fr0 : Fr (Wte t) μ ((mset (mset μ 0 21 0) 0 18 0)) := (Fr.put (Fr.put (Fr.refl _ _) (by unfold Wte; omega)) (by unfold Wte; omega))
  exact s_M_tested_12 (μ := (mset (mset μ 0 21 0) 0 18 0)) _ (Nat.lt_succ_self _) (hC.upd (Fr.put (Fr.put (Fr.refl _ _) (by omega)) (by omega)) hk hv hc) hI ⟨rfl, rfl, trivial⟩ (fun o ho => absurd ho (by simp)) (by decide) (fun e m b1 b2 b3 b4 => hE e m b1 (fr0.trans b2) b3 b4) (fun m3 k3 v3 c3 b1 b2 b3 b4 b5 b6 b7 b8 => hG m3 k3 v3 c3 b1 (fr0.trans b2) b3 b4 b5 b6 b7 b8)
