theorem oD_84_Rr_endClause : OI YD 84 y_Rr_endClause := ⟨by decide, _, _, _, cD_84, rfl⟩
theorem oD_84_Rr_readClosing : OI YD 84 y_Rr_readClosing := ⟨by decide, _, _, _, cD_84, rfl⟩
theorem oD_84_Rr_readComparison : OI YD 84 y_Rr_readComparison := ⟨by decide, _, _, _, cD_84, rfl⟩
/-! the class reads a rule: what stands behind a value -/
theorem recOp_rng (s : Int) : recOp s = -1 ∨ (8 ≤ recOp s ∧ recOp s ≤ 11) := by
  unfold recOp
  (repeat' split) <;> omega
theorem rec_lt {A : Int → Int} {n k : Int} (h : 0 ≤ recOp (sgn A n k)) : k < n := by
  refine Classical.byContradiction (fun q => ?_)
  unfold sgn at h
  rw [if_neg q] at h
  exact absurd h (by decide)
set_option maxHeartbeats 4000000 in
theorem s_reckoningOf {μ : Mem} {Q : PV → Mem → Prop} {s : Int} (hs : -1 ≤ s ∧ s ≤ 255) (hQ : Q (vI (recOp s)) μ) : Rj YD y_Bo_reckoningOf 0 [vI s] [] μ Q := by
  refine Rj_iload_n (q := 1) d_Bo_reckoningOf_0 rfl rfl rfl ?_
  rcases (show s = 42 ∨ s = 43 ∨ s = 44 ∨ s = 45 ∨ s = 46 ∨ s = 47 ∨ (s < 42 ∨ 47 < s) by omega) with hs1 | hs1 | hs1 | hs1 | hs1 | hs1 | hs1
  · refine Rj_tsI (t := 46) d_Bo_reckoningOf_1 ⟨by omega, by omega⟩ (by omega) (by omega) (by rw [hs1]; rfl) (by decide) ?_
    refine Rj_bipush (q := 48) d_Bo_reckoningOf_46 rfl (by decide +kernel) ?_
    refine Rj_iret d_Bo_reckoningOf_48 rfl ?_
    exact fin_I hQ (by unfold recOp; (repeat' split) <;> omega)
  · refine Rj_tsI (t := 40) d_Bo_reckoningOf_1 ⟨by omega, by omega⟩ (by omega) (by omega) (by rw [hs1]; rfl) (by decide) ?_
    refine Rj_bipush (q := 42) d_Bo_reckoningOf_40 rfl (by decide +kernel) ?_
    refine Rj_iret d_Bo_reckoningOf_42 rfl ?_
    exact fin_I hQ (by unfold recOp; (repeat' split) <;> omega)
  · refine Rj_tsI (t := 52) d_Bo_reckoningOf_1 ⟨by omega, by omega⟩ (by omega) (by omega) (by rw [hs1]; rfl) (by decide) ?_
    refine Rj_iconst (q := 53) d_Bo_reckoningOf_52 rfl ?_
    refine Rj_iret d_Bo_reckoningOf_53 rfl ?_
    exact fin_I hQ (by unfold recOp; (repeat' split) <;> omega)
  · refine Rj_tsI (t := 43) d_Bo_reckoningOf_1 ⟨by omega, by omega⟩ (by omega) (by omega) (by rw [hs1]; rfl) (by decide) ?_
    refine Rj_bipush (q := 45) d_Bo_reckoningOf_43 rfl (by decide +kernel) ?_
    refine Rj_iret d_Bo_reckoningOf_45 rfl ?_
    exact fin_I hQ (by unfold recOp; (repeat' split) <;> omega)
  · refine Rj_tsI (t := 52) d_Bo_reckoningOf_1 ⟨by omega, by omega⟩ (by omega) (by omega) (by rw [hs1]; rfl) (by decide) ?_
    refine Rj_iconst (q := 53) d_Bo_reckoningOf_52 rfl ?_
    refine Rj_iret d_Bo_reckoningOf_53 rfl ?_
    exact fin_I hQ (by unfold recOp; (repeat' split) <;> omega)
  · refine Rj_tsI (t := 49) d_Bo_reckoningOf_1 ⟨by omega, by omega⟩ (by omega) (by omega) (by rw [hs1]; rfl) (by decide) ?_
    refine Rj_bipush (q := 51) d_Bo_reckoningOf_49 rfl (by decide +kernel) ?_
    refine Rj_iret d_Bo_reckoningOf_51 rfl ?_
    exact fin_I hQ (by unfold recOp; (repeat' split) <;> omega)
  · refine Rj_tsO (t := 52) d_Bo_reckoningOf_1 ⟨by omega, by omega⟩ hs1 (by decide) ?_
    refine Rj_iconst (q := 53) d_Bo_reckoningOf_52 rfl ?_
    refine Rj_iret d_Bo_reckoningOf_53 rfl ?_
    exact fin_I hQ (by unfold recOp; (repeat' split) <;> omega)
set_option maxHeartbeats 4000000 in
theorem s_rb_1 {μ : Mem} {Q : PV → Mem → Prop} {A : Int → Int} {n r k cl vl : Int} {w : List Int} {D : List CLS} {c : CLS} (hC : RC μ A n r k w cl vl 1 D c) (hI : IV n k w cl vl 1 D c) (hs : sk A n k = k) (hE : ∀ e μ', RUN A n k w cl vl 1 D c (.error e) → Fr (Wru r) μ μ' → μ' 2 3 = e → (1 ≤ e ∧ e ≤ 5000) → Q vU μ') (hG : ∀ μ' k' w' cl' vl' nx' D' c', (∀ x, RUN A n k' w' cl' vl' nx' D' c' x → RUN A n k w cl vl 1 D c x) → Fr (Wru r) μ μ' → RC μ' A n r k' w' cl' vl' nx' D' c' → IV n k' w' cl' vl' nx' D' c' → k < k' → Q vU μ') (hF : ∀ μ' D', RUN A n k w cl vl 1 D c (.ok D') → Fr (Wru r) μ μ' → FIN μ' r D' → Q vU μ') : Rj YD y_Rr_readBehind 7 [vA 84] [vI (nsV μ n k)] μ Q := by
  obtain ⟨hT, hk, hf0, h3, h4, h5, h6, h7, h8, hW, hr, hL, hl⟩ := id hC
  obtain ⟨i1, i2, i3, i4, i5, i6, i7, i8⟩ := id hI
  have hn := hT.2.1
  have hX := hT.1.1
  have dw := dpn_bd w
  have bw := brn_bd w
  have nn := nC_nn D c
  have vk := nsV_rng hT (k := k) (by omega)
  refine Rj_istore_n (q := 8) (ls' := [vA 84, vI (nsV μ n k)]) d_Rr_readBehind_7 rfl rfl (by decide) rfl ?_
  refine Rj_aload_n (q := 9) d_Rr_readBehind_8 rfl rfl rfl ?_
  refine Rj_gi (q := 12) (ki := 8) (v := 1) gD_Rr_39_84 rfl rfl h8 d_Rr_readBehind_9 rfl ?_
  refine Rj_bipush (q := 14) d_Rr_readBehind_12 rfl (by decide +kernel) ?_
  refine Rj_icmp_ne (q := 17) (t := 21) d_Rr_readBehind_14 rfl (by decide) (by decide) (by decide) (fun _ => ?_) (fun c => absurd c (by decide))
  refine Rj_iload_n (q := 22) d_Rr_readBehind_21 rfl rfl rfl ?_
  refine Rj_cs (q := 25) (z := y_Bo_reckoningOf) (as := [vI (nsV μ n k)]) (rest := []) (la := [vI (nsV μ n k)]) ml_Rr_115 mw_Bo_reckoningOf ms_Bo_reckoningOf d_Rr_readBehind_22 rfl rfl rfl rfl rfl ?_
  refine s_reckoningOf (by omega) ?_
  rw [rec_ns hT (by omega)]
  have rr := recOp_rng (sgn A n k)
  refine Rj_istore_n (q := 26) (ls' := [vA 84, vI (nsV μ n k), vI (recOp (sgn A n k))]) d_Rr_readBehind_25 rfl rfl (by decide) rfl ?_
  refine Rj_iload_n (q := 27) d_Rr_readBehind_26 rfl rfl rfl ?_
  refine Rj_iconst (q := 28) d_Rr_readBehind_27 rfl ?_
  refine Rj_icmp_eq (q := 31) (t := 58) d_Rr_readBehind_28 rfl (by decide) ⟨by omega, by omega⟩ (by decide) (fun c28 => ?_) (fun c28 => ?_)
  · refine Rj_aload_n (q := 59) d_Rr_readBehind_58 rfl rfl rfl ?_
    refine Rj_gi (q := 62) (ki := 8) (v := 1) gD_Rr_39_84 rfl rfl h8 d_Rr_readBehind_59 rfl ?_
    refine Rj_iconst (q := 63) d_Rr_readBehind_62 rfl ?_
    refine Rj_icmp_ne (q := 66) (t := 74) d_Rr_readBehind_63 rfl (by decide) (by decide) (by decide) (fun _ => ?_) (fun c => absurd c (by decide))
    refine Rj_aload_n (q := 75) d_Rr_readBehind_74 rfl rfl rfl ?_
    refine Rj_gi (q := 78) (ki := 8) (v := 1) gD_Rr_39_84 rfl rfl h8 d_Rr_readBehind_75 rfl ?_
    refine Rj_iconst (q := 79) d_Rr_readBehind_78 rfl ?_
    refine Rj_icmp_ne (q := 82) (t := 109) d_Rr_readBehind_79 rfl (by decide) (by decide) (by decide) (fun c => absurd c (by decide)) (fun _ => ?_)
    refine Rj_aload_n (q := 83) d_Rr_readBehind_82 rfl rfl rfl ?_
    refine Rj_gr (q := 86) (zd := 2) gD_Rr_15_84 rfl rfl d_Rr_readBehind_83 rfl ?_
    refine Rj_ldcS (q := 88) (tx := "if") (k := 14) (z := 14) (by decide) rfl d_Rr_readBehind_86 rfl ?_
    refine Rj_vo (q := 91) (z := y_Sp_takeWord) (as := [vK 14]) (rest := []) (la := [vA 2, vK 14]) oD_2_Sp_takeWord ml_Rr_76 mw_Sp_takeWord mv_Sp_takeWord rfl d_Rr_readBehind_88 rfl rfl rfl rfl rfl ?_
    refine s_takeWord (μ := μ) (A := A) (n := n) (k := k) (w := 14) (hT.keep rfl rfl) hk (by omega) rfl (by decide) ?_
    rw [wN_14]
    rw [hs]
    have t88 := lend_bd A (n := n) (k := k) (by omega)
    by_cases w88 : wat A n k 26982 = true
    · rw [if_pos w88, bI_t w88]
      refine Rj_if_eq (q := 94) (t := 109) d_Rr_readBehind_91 rfl (by decide) (by decide) (fun c => absurd c (by decide)) (fun _ => ?_)
      refine Rj_aload_n (q := 95) d_Rr_readBehind_94 rfl rfl rfl ?_
      refine Rj_bipush (q := 97) d_Rr_readBehind_95 rfl (by decide +kernel) ?_
      refine Rj_vov (q := 100) (z := y_Rr_settle) (as := [vI 18]) (rest := []) (la := [vA 84, vI 18]) oD_84_Rr_settle ml_Rr_127 mw_Rr_settle mv_Rr_settle rfl d_Rr_readBehind_97 rfl rfl rfl rfl rfl ?_
      have wl := wat_len w88
      have cv : RC ((mset μ 2 2 (lend A n k))) A n r (lend A n k) w cl vl 1 D c := hC.upd (Fr.put (Fr.refl _ _) (by omega)) rfl h3 h4 h5 h6 h7 h8
      have fr0 : Fr (Wru r) μ ((mset μ 2 2 (lend A n k))) := (Fr.put (Fr.refl _ _) (by unfold Wru; omega))
      obtain ⟨w', c', es⟩ : ∃ w' c', stl 1 w c = (w', c') := ⟨_, _, rfl⟩
      have iv : IV n (lend A n k) w cl vl 1 D c := hI.to (by omega) (by omega)
      refine s_settle (b := 1) cv iv (by decide) (by decide) (by decide) (fun m fm cm => ?_)
      rw [es] at cm
      dsimp only at cm
      have hIm := iv.settE es
      have xm := hIm.2.2.2.1
      have ym := hIm.1
      have zm := nC_nn D c'
      have dprm := dpn_bd (w')
      have bprm := brn_bd (w')
      refine Rj_aload_n (q := 101) d_Rr_readBehind_100 rfl rfl rfl ?_
      refine Rj_bipush (q := 103) d_Rr_readBehind_101 rfl (by decide +kernel) ?_
      refine Rj_pi (q := 106) (ki := 8) pD_Rr_39_84 rfl rfl d_Rr_readBehind_103 rfl ?_
      refine Rj_goto (t := 189) d_Rr_readBehind_106 (by decide) ?_
      refine Rj_vret d_Rr_readBehind_189 rfl ?_
      have ect : c'.2 = none := hIm.2.2.2.2.2.2.1.mpr (by decide)
      have ca := cm.iff ect
      exact hG _ (lend A n k) w' cl vl 6 D (c'.1, some []) (fun x g => RUN_if hs (by omega) w88 es g) (Fr.trans fr0 (Fr.trans fm (Fr.put (Fr.refl _ _) (by unfold Wru; omega)))) (ca.upd (Fr.put (Fr.refl _ _) (by omega)) (show m 2 2 = _ from cm.2.1) (show m 84 3 = _ from cm.2.2.2.1) (show m 84 4 = _ from cm.2.2.2.2.1) (show m 84 5 = _ from cm.2.2.2.2.2.1) (show m 84 6 = _ from cm.2.2.2.2.2.2.1) (show m 84 7 = _ from cm.2.2.2.2.2.2.2.1) rfl) (hIm.iff ect (by decide)) (by omega)
    · rw [if_neg w88, bI_f (bool_f w88)]
      refine Rj_eqm (μ' := μ) (mset_idv hk) ?_
      refine Rj_if_eq (q := 94) (t := 109) d_Rr_readBehind_91 rfl (by decide) (by decide) (fun _ => ?_) (fun c => absurd c (by decide))
      refine Rj_aload_n (q := 110) d_Rr_readBehind_109 rfl rfl rfl ?_
      refine Rj_gi (q := 113) (ki := 8) (v := 1) gD_Rr_39_84 rfl rfl h8 d_Rr_readBehind_110 rfl ?_
      refine Rj_iconst (q := 114) d_Rr_readBehind_113 rfl ?_
      refine Rj_icmp_eq (q := 117) (t := 140) d_Rr_readBehind_114 rfl (by decide) (by decide) (by decide) (fun _ => ?_) (fun c => absurd c (by decide))
      refine Rj_aload_n (q := 141) d_Rr_readBehind_140 rfl rfl rfl ?_
      refine Rj_gi (q := 144) (ki := 8) (v := 1) gD_Rr_39_84 rfl rfl h8 d_Rr_readBehind_141 rfl ?_
      refine Rj_iconst (q := 145) d_Rr_readBehind_144 rfl ?_
      refine Rj_icmp_eq (q := 148) (t := 171) d_Rr_readBehind_145 rfl (by decide) (by decide) (by decide) (fun _ => ?_) (fun c => absurd c (by decide))
      refine Rj_aload_n (q := 172) d_Rr_readBehind_171 rfl rfl rfl ?_
      refine Rj_gi (q := 175) (ki := 5) (v := brn w) gD_Rr_30_84 rfl rfl h5 d_Rr_readBehind_172 rfl ?_
      refine Rj_if_le (q := 178) (t := 185) d_Rr_readBehind_175 rfl (by decide) ⟨by omega, by omega⟩ (fun c175 => ?_) (fun c175 => ?_)
      · refine Rj_aload_n (q := 186) d_Rr_readBehind_185 rfl rfl rfl ?_
        refine Rj_vov (q := 189) (z := y_Rr_endClause) (as := []) (rest := []) (la := [vA 84]) oD_84_Rr_endClause ml_Rr_137 mw_Rr_endClause mv_Rr_endClause rfl d_Rr_readBehind_186 rfl rfl rfl rfl rfl ?_
        refine s_endClause hC hI hs (Or.inl ⟨rfl, by omega, w88⟩) (by omega) (fun e m a1 a2 a3 a4 => ?_) (fun m k2 w2 cl2 vl2 nx2 D2 c2 a1 a2 a3 a4 a5 => ?_) (fun m D2 a1 a2 a3 => ?_)
        · have zz := True.intro
          refine Rj_vret d_Rr_readBehind_189 rfl ?_
          exact hE e m a1 a2 a3 a4
        · have zz := True.intro
          refine Rj_vret d_Rr_readBehind_189 rfl ?_
          exact hG m k2 w2 cl2 vl2 nx2 D2 c2 a1 a2 a3 a4 a5
        · have zz := True.intro
          refine Rj_vret d_Rr_readBehind_189 rfl ?_
          exact hF m D2 a1 a2 a3
      · refine Rj_aload_n (q := 179) d_Rr_readBehind_178 rfl rfl rfl ?_
        refine Rj_vov (q := 182) (z := y_Rr_readClosing) (as := []) (rest := []) (la := [vA 84]) oD_84_Rr_readClosing ml_Rr_134 mw_Rr_readClosing mv_Rr_readClosing rfl d_Rr_readBehind_179 rfl rfl rfl rfl rfl ?_
        exfalso
        have := i8 (by decide)
        omega
  · refine Rj_aload_n (q := 32) d_Rr_readBehind_31 rfl rfl rfl ?_
    refine Rj_gr (q := 35) (zd := 2) gD_Rr_15_84 rfl rfl d_Rr_readBehind_32 rfl ?_
    refine Rj_dup (q := 36) d_Rr_readBehind_35 rfl (by intro h; cases h) ?_
    refine Rj_gi (q := 39) (ki := 2) (v := k) gD_Rr_69_2 rfl rfl hk d_Rr_readBehind_36 rfl ?_
    refine Rj_iconst (q := 40) d_Rr_readBehind_39 rfl ?_
    refine Rj_iadd (q := 41) d_Rr_readBehind_40 rfl ?_
    refine Rj_pi (q := 44) (ki := 2) pD_Rr_69_2 rfl rfl d_Rr_readBehind_41 rfl ?_
    refine Rj_aload_n (q := 45) d_Rr_readBehind_44 rfl rfl rfl ?_
    refine Rj_iload_n (q := 46) d_Rr_readBehind_45 rfl rfl rfl ?_
    refine Rj_aload_n (q := 47) d_Rr_readBehind_46 rfl rfl rfl ?_
    refine Rj_gi (q := 50) (ki := 8) (v := 1) gD_Rr_39_84 rfl rfl h8 d_Rr_readBehind_47 rfl ?_
    refine Rj_iconst (q := 51) d_Rr_readBehind_50 rfl ?_
    refine Rj_isub (q := 52) d_Rr_readBehind_51 rfl ?_
    refine Rj_vov (q := 55) (z := y_Rr_joinBy) (as := [vI (recOp (sgn A n k)), vI (1 - 1)]) (rest := []) (la := [vA 84, vI (recOp (sgn A n k)), vI (1 - 1)]) oD_84_Rr_joinBy ml_Rr_119 mw_Rr_joinBy mv_Rr_joinBy rfl d_Rr_readBehind_52 rfl rfl rfl rfl rfl ?_
    have kn := rec_lt (A := A) (n := n) (k := k) (by omega)
    have cv : RC ((mset μ 2 2 (k + 1))) A n r (k + 1) w cl vl 1 D c := hC.upd (Fr.put (Fr.refl _ _) (by omega)) rfl h3 h4 h5 h6 h7 h8
    have fr0 : Fr (Wru r) μ ((mset μ 2 2 (k + 1))) := (Fr.put (Fr.refl _ _) (by unfold Wru; omega))
    refine s_joinBy (op := recOp (sgn A n k)) (nx' := 1 - 1) cv (hI.to (by omega) (by omega)) (by omega) rfl (fun m fm cm => ?_)
    have frm : Fr (Wru r) μ m := Fr.trans fr0 fm
    refine Rj_goto (t := 189) d_Rr_readBehind_55 (by decide) ?_
    refine Rj_vret d_Rr_readBehind_189 rfl ?_
    exact hG m (k + 1) (recOp (sgn A n k) :: (stl (bnd (recOp (sgn A n k))) w c).1) cl vl 0 D (stl (bnd (recOp (sgn A n k))) w c).2 (fun x g => RUN_rec hs (by decide) (by decide) rfl (by omega) rfl g) frm cm (((hI.sett (b := bnd (recOp (sgn A n k)))).push (Or.inl (by omega)) (by omega) (by omega) (by omega)).at (by decide) (by decide)) (by omega)
set_option maxHeartbeats 4000000 in
theorem s_rb_3 {μ : Mem} {Q : PV → Mem → Prop} {A : Int → Int} {n r k cl vl : Int} {w : List Int} {D : List CLS} {c : CLS} (hC : RC μ A n r k w cl vl 3 D c) (hI : IV n k w cl vl 3 D c) (hs : sk A n k = k) (hE : ∀ e μ', RUN A n k w cl vl 3 D c (.error e) → Fr (Wru r) μ μ' → μ' 2 3 = e → (1 ≤ e ∧ e ≤ 5000) → Q vU μ') (hG : ∀ μ' k' w' cl' vl' nx' D' c', (∀ x, RUN A n k' w' cl' vl' nx' D' c' x → RUN A n k w cl vl 3 D c x) → Fr (Wru r) μ μ' → RC μ' A n r k' w' cl' vl' nx' D' c' → IV n k' w' cl' vl' nx' D' c' → k < k' → Q vU μ') (hF : ∀ μ' D', RUN A n k w cl vl 3 D c (.ok D') → Fr (Wru r) μ μ' → FIN μ' r D' → Q vU μ') : Rj YD y_Rr_readBehind 7 [vA 84] [vI (nsV μ n k)] μ Q := by
  obtain ⟨hT, hk, hf0, h3, h4, h5, h6, h7, h8, hW, hr, hL, hl⟩ := id hC
  obtain ⟨i1, i2, i3, i4, i5, i6, i7, i8⟩ := id hI
  have hn := hT.2.1
  have hX := hT.1.1
  have dw := dpn_bd w
  have bw := brn_bd w
  have nn := nC_nn D c
  have vk := nsV_rng hT (k := k) (by omega)
  refine Rj_istore_n (q := 8) (ls' := [vA 84, vI (nsV μ n k)]) d_Rr_readBehind_7 rfl rfl (by decide) rfl ?_
  refine Rj_aload_n (q := 9) d_Rr_readBehind_8 rfl rfl rfl ?_
  refine Rj_gi (q := 12) (ki := 8) (v := 3) gD_Rr_39_84 rfl rfl h8 d_Rr_readBehind_9 rfl ?_
  refine Rj_bipush (q := 14) d_Rr_readBehind_12 rfl (by decide +kernel) ?_
  refine Rj_icmp_ne (q := 17) (t := 21) d_Rr_readBehind_14 rfl (by decide) (by decide) (by decide) (fun _ => ?_) (fun c => absurd c (by decide))
  refine Rj_iload_n (q := 22) d_Rr_readBehind_21 rfl rfl rfl ?_
  refine Rj_cs (q := 25) (z := y_Bo_reckoningOf) (as := [vI (nsV μ n k)]) (rest := []) (la := [vI (nsV μ n k)]) ml_Rr_115 mw_Bo_reckoningOf ms_Bo_reckoningOf d_Rr_readBehind_22 rfl rfl rfl rfl rfl ?_
  refine s_reckoningOf (by omega) ?_
  rw [rec_ns hT (by omega)]
  have rr := recOp_rng (sgn A n k)
  refine Rj_istore_n (q := 26) (ls' := [vA 84, vI (nsV μ n k), vI (recOp (sgn A n k))]) d_Rr_readBehind_25 rfl rfl (by decide) rfl ?_
  refine Rj_iload_n (q := 27) d_Rr_readBehind_26 rfl rfl rfl ?_
  refine Rj_iconst (q := 28) d_Rr_readBehind_27 rfl ?_
  refine Rj_icmp_eq (q := 31) (t := 58) d_Rr_readBehind_28 rfl (by decide) ⟨by omega, by omega⟩ (by decide) (fun c28 => ?_) (fun c28 => ?_)
  · refine Rj_aload_n (q := 59) d_Rr_readBehind_58 rfl rfl rfl ?_
    refine Rj_gi (q := 62) (ki := 8) (v := 3) gD_Rr_39_84 rfl rfl h8 d_Rr_readBehind_59 rfl ?_
    refine Rj_iconst (q := 63) d_Rr_readBehind_62 rfl ?_
    refine Rj_icmp_ne (q := 66) (t := 74) d_Rr_readBehind_63 rfl (by decide) (by decide) (by decide) (fun c => absurd c (by decide)) (fun _ => ?_)
    refine Rj_aload_n (q := 67) d_Rr_readBehind_66 rfl rfl rfl ?_
    refine Rj_iload_n (q := 68) d_Rr_readBehind_67 rfl rfl rfl ?_
    refine Rj_vov (q := 71) (z := y_Rr_readComparison) (as := [vI (nsV μ n k)]) (rest := []) (la := [vA 84, vI (nsV μ n k)]) oD_84_Rr_readComparison ml_Rr_122 mw_Rr_readComparison mv_Rr_readComparison rfl d_Rr_readBehind_68 rfl rfl rfl rfl rfl ?_
    refine s_readComparison hC hI hs (by omega) (fun e m a1 a2 a3 a4 => ?_) (fun m k2 w2 cl2 vl2 nx2 D2 c2 a1 a2 a3 a4 a5 => ?_)
    · have zz := True.intro
      refine Rj_goto (t := 189) d_Rr_readBehind_71 (by decide) ?_
      refine Rj_vret d_Rr_readBehind_189 rfl ?_
      exact hE e m a1 a2 a3 a4
    · have zz := True.intro
      refine Rj_goto (t := 189) d_Rr_readBehind_71 (by decide) ?_
      refine Rj_vret d_Rr_readBehind_189 rfl ?_
      exact hG m k2 w2 cl2 vl2 nx2 D2 c2 a1 a2 a3 a4 a5
  · refine Rj_aload_n (q := 32) d_Rr_readBehind_31 rfl rfl rfl ?_
    refine Rj_gr (q := 35) (zd := 2) gD_Rr_15_84 rfl rfl d_Rr_readBehind_32 rfl ?_
    refine Rj_dup (q := 36) d_Rr_readBehind_35 rfl (by intro h; cases h) ?_
    refine Rj_gi (q := 39) (ki := 2) (v := k) gD_Rr_69_2 rfl rfl hk d_Rr_readBehind_36 rfl ?_
    refine Rj_iconst (q := 40) d_Rr_readBehind_39 rfl ?_
    refine Rj_iadd (q := 41) d_Rr_readBehind_40 rfl ?_
    refine Rj_pi (q := 44) (ki := 2) pD_Rr_69_2 rfl rfl d_Rr_readBehind_41 rfl ?_
    refine Rj_aload_n (q := 45) d_Rr_readBehind_44 rfl rfl rfl ?_
    refine Rj_iload_n (q := 46) d_Rr_readBehind_45 rfl rfl rfl ?_
    refine Rj_aload_n (q := 47) d_Rr_readBehind_46 rfl rfl rfl ?_
    refine Rj_gi (q := 50) (ki := 8) (v := 3) gD_Rr_39_84 rfl rfl h8 d_Rr_readBehind_47 rfl ?_
    refine Rj_iconst (q := 51) d_Rr_readBehind_50 rfl ?_
    refine Rj_isub (q := 52) d_Rr_readBehind_51 rfl ?_
    refine Rj_vov (q := 55) (z := y_Rr_joinBy) (as := [vI (recOp (sgn A n k)), vI (3 - 1)]) (rest := []) (la := [vA 84, vI (recOp (sgn A n k)), vI (3 - 1)]) oD_84_Rr_joinBy ml_Rr_119 mw_Rr_joinBy mv_Rr_joinBy rfl d_Rr_readBehind_52 rfl rfl rfl rfl rfl ?_
    have kn := rec_lt (A := A) (n := n) (k := k) (by omega)
    have cv : RC ((mset μ 2 2 (k + 1))) A n r (k + 1) w cl vl 3 D c := hC.upd (Fr.put (Fr.refl _ _) (by omega)) rfl h3 h4 h5 h6 h7 h8
    have fr0 : Fr (Wru r) μ ((mset μ 2 2 (k + 1))) := (Fr.put (Fr.refl _ _) (by unfold Wru; omega))
    refine s_joinBy (op := recOp (sgn A n k)) (nx' := 3 - 1) cv (hI.to (by omega) (by omega)) (by omega) rfl (fun m fm cm => ?_)
    have frm : Fr (Wru r) μ m := Fr.trans fr0 fm
    refine Rj_goto (t := 189) d_Rr_readBehind_55 (by decide) ?_
    refine Rj_vret d_Rr_readBehind_189 rfl ?_
    exact hG m (k + 1) (recOp (sgn A n k) :: (stl (bnd (recOp (sgn A n k))) w c).1) cl vl 2 D (stl (bnd (recOp (sgn A n k))) w c).2 (fun x g => RUN_rec hs (by decide) (by decide) rfl (by omega) rfl g) frm cm (((hI.sett (b := bnd (recOp (sgn A n k)))).push (Or.inl (by omega)) (by omega) (by omega) (by omega)).at (by decide) (by decide)) (by omega)
set_option maxHeartbeats 4000000 in
theorem s_rb_5 {μ : Mem} {Q : PV → Mem → Prop} {A : Int → Int} {n r k cl vl : Int} {w : List Int} {D : List CLS} {c : CLS} (hC : RC μ A n r k w cl vl 5 D c) (hI : IV n k w cl vl 5 D c) (hs : sk A n k = k) (hE : ∀ e μ', RUN A n k w cl vl 5 D c (.error e) → Fr (Wru r) μ μ' → μ' 2 3 = e → (1 ≤ e ∧ e ≤ 5000) → Q vU μ') (hG : ∀ μ' k' w' cl' vl' nx' D' c', (∀ x, RUN A n k' w' cl' vl' nx' D' c' x → RUN A n k w cl vl 5 D c x) → Fr (Wru r) μ μ' → RC μ' A n r k' w' cl' vl' nx' D' c' → IV n k' w' cl' vl' nx' D' c' → k < k' → Q vU μ') (hF : ∀ μ' D', RUN A n k w cl vl 5 D c (.ok D') → Fr (Wru r) μ μ' → FIN μ' r D' → Q vU μ') : Rj YD y_Rr_readBehind 7 [vA 84] [vI (nsV μ n k)] μ Q := by
  obtain ⟨hT, hk, hf0, h3, h4, h5, h6, h7, h8, hW, hr, hL, hl⟩ := id hC
  obtain ⟨i1, i2, i3, i4, i5, i6, i7, i8⟩ := id hI
  have hn := hT.2.1
  have hX := hT.1.1
  have dw := dpn_bd w
  have bw := brn_bd w
  have nn := nC_nn D c
  have vk := nsV_rng hT (k := k) (by omega)
  refine Rj_istore_n (q := 8) (ls' := [vA 84, vI (nsV μ n k)]) d_Rr_readBehind_7 rfl rfl (by decide) rfl ?_
  refine Rj_aload_n (q := 9) d_Rr_readBehind_8 rfl rfl rfl ?_
  refine Rj_gi (q := 12) (ki := 8) (v := 5) gD_Rr_39_84 rfl rfl h8 d_Rr_readBehind_9 rfl ?_
  refine Rj_bipush (q := 14) d_Rr_readBehind_12 rfl (by decide +kernel) ?_
  refine Rj_icmp_ne (q := 17) (t := 21) d_Rr_readBehind_14 rfl (by decide) (by decide) (by decide) (fun _ => ?_) (fun c => absurd c (by decide))
  refine Rj_iload_n (q := 22) d_Rr_readBehind_21 rfl rfl rfl ?_
  refine Rj_cs (q := 25) (z := y_Bo_reckoningOf) (as := [vI (nsV μ n k)]) (rest := []) (la := [vI (nsV μ n k)]) ml_Rr_115 mw_Bo_reckoningOf ms_Bo_reckoningOf d_Rr_readBehind_22 rfl rfl rfl rfl rfl ?_
  refine s_reckoningOf (by omega) ?_
  rw [rec_ns hT (by omega)]
  have rr := recOp_rng (sgn A n k)
  refine Rj_istore_n (q := 26) (ls' := [vA 84, vI (nsV μ n k), vI (recOp (sgn A n k))]) d_Rr_readBehind_25 rfl rfl (by decide) rfl ?_
  refine Rj_iload_n (q := 27) d_Rr_readBehind_26 rfl rfl rfl ?_
  refine Rj_iconst (q := 28) d_Rr_readBehind_27 rfl ?_
  refine Rj_icmp_eq (q := 31) (t := 58) d_Rr_readBehind_28 rfl (by decide) ⟨by omega, by omega⟩ (by decide) (fun c28 => ?_) (fun c28 => ?_)
  · refine Rj_aload_n (q := 59) d_Rr_readBehind_58 rfl rfl rfl ?_
    refine Rj_gi (q := 62) (ki := 8) (v := 5) gD_Rr_39_84 rfl rfl h8 d_Rr_readBehind_59 rfl ?_
    refine Rj_iconst (q := 63) d_Rr_readBehind_62 rfl ?_
    refine Rj_icmp_ne (q := 66) (t := 74) d_Rr_readBehind_63 rfl (by decide) (by decide) (by decide) (fun _ => ?_) (fun c => absurd c (by decide))
    refine Rj_aload_n (q := 75) d_Rr_readBehind_74 rfl rfl rfl ?_
    refine Rj_gi (q := 78) (ki := 8) (v := 5) gD_Rr_39_84 rfl rfl h8 d_Rr_readBehind_75 rfl ?_
    refine Rj_iconst (q := 79) d_Rr_readBehind_78 rfl ?_
    refine Rj_icmp_ne (q := 82) (t := 109) d_Rr_readBehind_79 rfl (by decide) (by decide) (by decide) (fun _ => ?_) (fun c => absurd c (by decide))
    refine Rj_aload_n (q := 110) d_Rr_readBehind_109 rfl rfl rfl ?_
    refine Rj_gi (q := 113) (ki := 8) (v := 5) gD_Rr_39_84 rfl rfl h8 d_Rr_readBehind_110 rfl ?_
    refine Rj_iconst (q := 114) d_Rr_readBehind_113 rfl ?_
    refine Rj_icmp_eq (q := 117) (t := 140) d_Rr_readBehind_114 rfl (by decide) (by decide) (by decide) (fun c => absurd c (by decide)) (fun _ => ?_)
    refine Rj_aload_n (q := 118) d_Rr_readBehind_117 rfl rfl rfl ?_
    refine Rj_gr (q := 121) (zd := 2) gD_Rr_15_84 rfl rfl d_Rr_readBehind_118 rfl ?_
    refine Rj_ldcS (q := 123) (tx := "and") (k := 15) (z := 15) (by decide) rfl d_Rr_readBehind_121 rfl ?_
    refine Rj_vo (q := 126) (z := y_Sp_takeWord) (as := [vK 15]) (rest := []) (la := [vA 2, vK 15]) oD_2_Sp_takeWord ml_Rr_76 mw_Sp_takeWord mv_Sp_takeWord rfl d_Rr_readBehind_123 rfl rfl rfl rfl rfl ?_
    refine s_takeWord (μ := μ) (A := A) (n := n) (k := k) (w := 15) (hT.keep rfl rfl) hk (by omega) rfl (by decide) ?_
    rw [wN_15]
    rw [hs]
    have t123 := lend_bd A (n := n) (k := k) (by omega)
    by_cases w123 : wat A n k 6385252 = true
    · rw [if_pos w123, bI_t w123]
      refine Rj_if_eq (q := 129) (t := 140) d_Rr_readBehind_126 rfl (by decide) (by decide) (fun c => absurd c (by decide)) (fun _ => ?_)
      refine Rj_aload_n (q := 130) d_Rr_readBehind_129 rfl rfl rfl ?_
      refine Rj_bipush (q := 132) d_Rr_readBehind_130 rfl (by decide +kernel) ?_
      refine Rj_bipush (q := 134) d_Rr_readBehind_132 rfl (by decide +kernel) ?_
      refine Rj_vov (q := 137) (z := y_Rr_joinBy) (as := [vI 17, vI 6]) (rest := []) (la := [vA 84, vI 17, vI 6]) oD_84_Rr_joinBy ml_Rr_119 mw_Rr_joinBy mv_Rr_joinBy rfl d_Rr_readBehind_134 rfl rfl rfl rfl rfl ?_
      have wl := wat_len w123
      have cv : RC ((mset μ 2 2 (lend A n k))) A n r (lend A n k) w cl vl 5 D c := hC.upd (Fr.put (Fr.refl _ _) (by omega)) rfl h3 h4 h5 h6 h7 h8
      have fr0 : Fr (Wru r) μ ((mset μ 2 2 (lend A n k))) := (Fr.put (Fr.refl _ _) (by unfold Wru; omega))
      refine s_joinBy (op := 17) (nx' := 6) cv (hI.to (by omega) (by omega)) (by omega) rfl (fun m fm cm => ?_)
      have frm : Fr (Wru r) μ m := Fr.trans fr0 fm
      refine Rj_goto (t := 189) d_Rr_readBehind_137 (by decide) ?_
      refine Rj_vret d_Rr_readBehind_189 rfl ?_
      exact hG m (lend A n k) (17 :: (stl 2 w c).1) cl vl 6 D (stl 2 w c).2 (fun x g => RUN_and hs ⟨Or.inr (by omega), Or.inl rfl⟩ w123 rfl g) frm cm (((hI.sett (b := 2)).push (by decide) (by decide) (by omega) (by omega)).at (by decide) (by decide)) (by omega)
    · rw [if_neg w123, bI_f (bool_f w123)]
      refine Rj_eqm (μ' := μ) (mset_idv hk) ?_
      refine Rj_if_eq (q := 129) (t := 140) d_Rr_readBehind_126 rfl (by decide) (by decide) (fun _ => ?_) (fun c => absurd c (by decide))
      refine Rj_aload_n (q := 141) d_Rr_readBehind_140 rfl rfl rfl ?_
      refine Rj_gi (q := 144) (ki := 8) (v := 5) gD_Rr_39_84 rfl rfl h8 d_Rr_readBehind_141 rfl ?_
      refine Rj_iconst (q := 145) d_Rr_readBehind_144 rfl ?_
      refine Rj_icmp_eq (q := 148) (t := 171) d_Rr_readBehind_145 rfl (by decide) (by decide) (by decide) (fun c => absurd c (by decide)) (fun _ => ?_)
      refine Rj_aload_n (q := 149) d_Rr_readBehind_148 rfl rfl rfl ?_
      refine Rj_gr (q := 152) (zd := 2) gD_Rr_15_84 rfl rfl d_Rr_readBehind_149 rfl ?_
      refine Rj_ldcS (q := 154) (tx := "or") (k := 16) (z := 16) (by decide) rfl d_Rr_readBehind_152 rfl ?_
      refine Rj_vo (q := 157) (z := y_Sp_takeWord) (as := [vK 16]) (rest := []) (la := [vA 2, vK 16]) oD_2_Sp_takeWord ml_Rr_76 mw_Sp_takeWord mv_Sp_takeWord rfl d_Rr_readBehind_154 rfl rfl rfl rfl rfl ?_
      refine s_takeWord (μ := μ) (A := A) (n := n) (k := k) (w := 16) (hT.keep rfl rfl) hk (by omega) rfl (by decide) ?_
      rw [wN_16]
      rw [hs]
      have t154 := lend_bd A (n := n) (k := k) (by omega)
      by_cases w154 : wat A n k 28530 = true
      · rw [if_pos w154, bI_t w154]
        refine Rj_if_eq (q := 160) (t := 171) d_Rr_readBehind_157 rfl (by decide) (by decide) (fun c => absurd c (by decide)) (fun _ => ?_)
        refine Rj_aload_n (q := 161) d_Rr_readBehind_160 rfl rfl rfl ?_
        refine Rj_bipush (q := 163) d_Rr_readBehind_161 rfl (by decide +kernel) ?_
        refine Rj_bipush (q := 165) d_Rr_readBehind_163 rfl (by decide +kernel) ?_
        refine Rj_vov (q := 168) (z := y_Rr_joinBy) (as := [vI 18, vI 6]) (rest := []) (la := [vA 84, vI 18, vI 6]) oD_84_Rr_joinBy ml_Rr_119 mw_Rr_joinBy mv_Rr_joinBy rfl d_Rr_readBehind_165 rfl rfl rfl rfl rfl ?_
        have wl := wat_len w154
        have cv : RC ((mset μ 2 2 (lend A n k))) A n r (lend A n k) w cl vl 5 D c := hC.upd (Fr.put (Fr.refl _ _) (by omega)) rfl h3 h4 h5 h6 h7 h8
        have fr0 : Fr (Wru r) μ ((mset μ 2 2 (lend A n k))) := (Fr.put (Fr.refl _ _) (by unfold Wru; omega))
        refine s_joinBy (op := 18) (nx' := 6) cv (hI.to (by omega) (by omega)) (by omega) rfl (fun m fm cm => ?_)
        have frm : Fr (Wru r) μ m := Fr.trans fr0 fm
        refine Rj_goto (t := 189) d_Rr_readBehind_168 (by decide) ?_
        refine Rj_vret d_Rr_readBehind_189 rfl ?_
        exact hG m (lend A n k) (18 :: (stl 1 w c).1) cl vl 6 D (stl 1 w c).2 (fun x g => RUN_or hs ⟨Or.inr (by omega), Or.inl rfl⟩ w123 w154 rfl g) frm cm (((hI.sett (b := 1)).push (by decide) (by decide) (by omega) (by omega)).at (by decide) (by decide)) (by omega)
      · rw [if_neg w154, bI_f (bool_f w154)]
        refine Rj_eqm (μ' := μ) (mset_idv hk) ?_
        refine Rj_if_eq (q := 160) (t := 171) d_Rr_readBehind_157 rfl (by decide) (by decide) (fun _ => ?_) (fun c => absurd c (by decide))
        refine Rj_aload_n (q := 172) d_Rr_readBehind_171 rfl rfl rfl ?_
        refine Rj_gi (q := 175) (ki := 5) (v := brn w) gD_Rr_30_84 rfl rfl h5 d_Rr_readBehind_172 rfl ?_
        refine Rj_if_le (q := 178) (t := 185) d_Rr_readBehind_175 rfl (by decide) ⟨by omega, by omega⟩ (fun c175 => ?_) (fun c175 => ?_)
        · refine Rj_aload_n (q := 186) d_Rr_readBehind_185 rfl rfl rfl ?_
          refine Rj_vov (q := 189) (z := y_Rr_endClause) (as := []) (rest := []) (la := [vA 84]) oD_84_Rr_endClause ml_Rr_137 mw_Rr_endClause mv_Rr_endClause rfl d_Rr_readBehind_186 rfl rfl rfl rfl rfl ?_
          refine s_endClause hC hI hs (Or.inr ⟨⟨Or.inr (by omega), Or.inl rfl⟩, w123, w154⟩) (by omega) (fun e m a1 a2 a3 a4 => ?_) (fun m k2 w2 cl2 vl2 nx2 D2 c2 a1 a2 a3 a4 a5 => ?_) (fun m D2 a1 a2 a3 => ?_)
          · have zz := True.intro
            refine Rj_vret d_Rr_readBehind_189 rfl ?_
            exact hE e m a1 a2 a3 a4
          · have zz := True.intro
            refine Rj_vret d_Rr_readBehind_189 rfl ?_
            exact hG m k2 w2 cl2 vl2 nx2 D2 c2 a1 a2 a3 a4 a5
          · have zz := True.intro
            refine Rj_vret d_Rr_readBehind_189 rfl ?_
            exact hF m D2 a1 a2 a3
        · refine Rj_aload_n (q := 179) d_Rr_readBehind_178 rfl rfl rfl ?_
          refine Rj_vov (q := 182) (z := y_Rr_readClosing) (as := []) (rest := []) (la := [vA 84]) oD_84_Rr_readClosing ml_Rr_134 mw_Rr_readClosing mv_Rr_readClosing rfl d_Rr_readBehind_179 rfl rfl rfl rfl rfl ?_
          refine s_readClosing hC hI hs (Or.inr ⟨⟨Or.inr (by omega), Or.inl rfl⟩, w123, w154⟩) (by omega) (fun e m a1 a2 a3 a4 => ?_) (fun m k2 w2 cl2 vl2 nx2 D2 c2 a1 a2 a3 a4 a5 => ?_)
          · have zz := True.intro
            refine Rj_goto (t := 189) d_Rr_readBehind_182 (by decide) ?_
            refine Rj_vret d_Rr_readBehind_189 rfl ?_
            exact hE e m a1 a2 a3 a4
          · have zz := True.intro
            refine Rj_goto (t := 189) d_Rr_readBehind_182 (by decide) ?_
            refine Rj_vret d_Rr_readBehind_189 rfl ?_
            exact hG m k2 w2 cl2 vl2 nx2 D2 c2 a1 a2 a3 a4 a5
  · refine Rj_aload_n (q := 32) d_Rr_readBehind_31 rfl rfl rfl ?_
    refine Rj_gr (q := 35) (zd := 2) gD_Rr_15_84 rfl rfl d_Rr_readBehind_32 rfl ?_
    refine Rj_dup (q := 36) d_Rr_readBehind_35 rfl (by intro h; cases h) ?_
    refine Rj_gi (q := 39) (ki := 2) (v := k) gD_Rr_69_2 rfl rfl hk d_Rr_readBehind_36 rfl ?_
    refine Rj_iconst (q := 40) d_Rr_readBehind_39 rfl ?_
    refine Rj_iadd (q := 41) d_Rr_readBehind_40 rfl ?_
    refine Rj_pi (q := 44) (ki := 2) pD_Rr_69_2 rfl rfl d_Rr_readBehind_41 rfl ?_
    refine Rj_aload_n (q := 45) d_Rr_readBehind_44 rfl rfl rfl ?_
    refine Rj_iload_n (q := 46) d_Rr_readBehind_45 rfl rfl rfl ?_
    refine Rj_aload_n (q := 47) d_Rr_readBehind_46 rfl rfl rfl ?_
    refine Rj_gi (q := 50) (ki := 8) (v := 5) gD_Rr_39_84 rfl rfl h8 d_Rr_readBehind_47 rfl ?_
    refine Rj_iconst (q := 51) d_Rr_readBehind_50 rfl ?_
    refine Rj_isub (q := 52) d_Rr_readBehind_51 rfl ?_
    refine Rj_vov (q := 55) (z := y_Rr_joinBy) (as := [vI (recOp (sgn A n k)), vI (5 - 1)]) (rest := []) (la := [vA 84, vI (recOp (sgn A n k)), vI (5 - 1)]) oD_84_Rr_joinBy ml_Rr_119 mw_Rr_joinBy mv_Rr_joinBy rfl d_Rr_readBehind_52 rfl rfl rfl rfl rfl ?_
    have kn := rec_lt (A := A) (n := n) (k := k) (by omega)
    have cv : RC ((mset μ 2 2 (k + 1))) A n r (k + 1) w cl vl 5 D c := hC.upd (Fr.put (Fr.refl _ _) (by omega)) rfl h3 h4 h5 h6 h7 h8
    have fr0 : Fr (Wru r) μ ((mset μ 2 2 (k + 1))) := (Fr.put (Fr.refl _ _) (by unfold Wru; omega))
    refine s_joinBy (op := recOp (sgn A n k)) (nx' := 5 - 1) cv (hI.to (by omega) (by omega)) (by omega) rfl (fun m fm cm => ?_)
    have frm : Fr (Wru r) μ m := Fr.trans fr0 fm
    refine Rj_goto (t := 189) d_Rr_readBehind_55 (by decide) ?_
    refine Rj_vret d_Rr_readBehind_189 rfl ?_
    exact hG m (k + 1) (recOp (sgn A n k) :: (stl (bnd (recOp (sgn A n k))) w c).1) cl vl 4 D (stl (bnd (recOp (sgn A n k))) w c).2 (fun x g => RUN_rec hs (by decide) (by decide) rfl (by omega) rfl g) frm cm (((hI.sett (b := bnd (recOp (sgn A n k)))).push (Or.inl (by omega)) (by omega) (by omega) (by omega)).at (by decide) (by decide)) (by omega)
set_option maxHeartbeats 4000000 in
theorem s_rb_7 {μ : Mem} {Q : PV → Mem → Prop} {A : Int → Int} {n r k cl vl : Int} {w : List Int} {D : List CLS} {c : CLS} (hC : RC μ A n r k w cl vl 7 D c) (hI : IV n k w cl vl 7 D c) (hs : sk A n k = k) (hE : ∀ e μ', RUN A n k w cl vl 7 D c (.error e) → Fr (Wru r) μ μ' → μ' 2 3 = e → (1 ≤ e ∧ e ≤ 5000) → Q vU μ') (hG : ∀ μ' k' w' cl' vl' nx' D' c', (∀ x, RUN A n k' w' cl' vl' nx' D' c' x → RUN A n k w cl vl 7 D c x) → Fr (Wru r) μ μ' → RC μ' A n r k' w' cl' vl' nx' D' c' → IV n k' w' cl' vl' nx' D' c' → k < k' → Q vU μ') (hF : ∀ μ' D', RUN A n k w cl vl 7 D c (.ok D') → Fr (Wru r) μ μ' → FIN μ' r D' → Q vU μ') : Rj YD y_Rr_readBehind 7 [vA 84] [vI (nsV μ n k)] μ Q := by
  obtain ⟨hT, hk, hf0, h3, h4, h5, h6, h7, h8, hW, hr, hL, hl⟩ := id hC
  obtain ⟨i1, i2, i3, i4, i5, i6, i7, i8⟩ := id hI
  have hn := hT.2.1
  have hX := hT.1.1
  have dw := dpn_bd w
  have bw := brn_bd w
  have nn := nC_nn D c
  have vk := nsV_rng hT (k := k) (by omega)
  refine Rj_istore_n (q := 8) (ls' := [vA 84, vI (nsV μ n k)]) d_Rr_readBehind_7 rfl rfl (by decide) rfl ?_
  refine Rj_aload_n (q := 9) d_Rr_readBehind_8 rfl rfl rfl ?_
  refine Rj_gi (q := 12) (ki := 8) (v := 7) gD_Rr_39_84 rfl rfl h8 d_Rr_readBehind_9 rfl ?_
  refine Rj_bipush (q := 14) d_Rr_readBehind_12 rfl (by decide +kernel) ?_
  refine Rj_icmp_ne (q := 17) (t := 21) d_Rr_readBehind_14 rfl (by decide) (by decide) (by decide) (fun c => absurd c (by decide)) (fun _ => ?_)
  refine Rj_iconst (q := 18) d_Rr_readBehind_17 rfl ?_
  refine Rj_goto (t := 25) d_Rr_readBehind_18 (by decide) ?_
  refine Rj_istore_n (q := 26) (ls' := [vA 84, vI (nsV μ n k), vI (-1)]) d_Rr_readBehind_25 rfl rfl (by decide) rfl ?_
  refine Rj_iload_n (q := 27) d_Rr_readBehind_26 rfl rfl rfl ?_
  refine Rj_iconst (q := 28) d_Rr_readBehind_27 rfl ?_
  refine Rj_icmp_eq (q := 31) (t := 58) d_Rr_readBehind_28 rfl (by decide) (by decide) (by decide) (fun _ => ?_) (fun c => absurd c (by decide))
  refine Rj_aload_n (q := 59) d_Rr_readBehind_58 rfl rfl rfl ?_
  refine Rj_gi (q := 62) (ki := 8) (v := 7) gD_Rr_39_84 rfl rfl h8 d_Rr_readBehind_59 rfl ?_
  refine Rj_iconst (q := 63) d_Rr_readBehind_62 rfl ?_
  refine Rj_icmp_ne (q := 66) (t := 74) d_Rr_readBehind_63 rfl (by decide) (by decide) (by decide) (fun _ => ?_) (fun c => absurd c (by decide))
  refine Rj_aload_n (q := 75) d_Rr_readBehind_74 rfl rfl rfl ?_
  refine Rj_gi (q := 78) (ki := 8) (v := 7) gD_Rr_39_84 rfl rfl h8 d_Rr_readBehind_75 rfl ?_
  refine Rj_iconst (q := 79) d_Rr_readBehind_78 rfl ?_
  refine Rj_icmp_ne (q := 82) (t := 109) d_Rr_readBehind_79 rfl (by decide) (by decide) (by decide) (fun _ => ?_) (fun c => absurd c (by decide))
  refine Rj_aload_n (q := 110) d_Rr_readBehind_109 rfl rfl rfl ?_
  refine Rj_gi (q := 113) (ki := 8) (v := 7) gD_Rr_39_84 rfl rfl h8 d_Rr_readBehind_110 rfl ?_
  refine Rj_iconst (q := 114) d_Rr_readBehind_113 rfl ?_
  refine Rj_icmp_eq (q := 117) (t := 140) d_Rr_readBehind_114 rfl (by decide) (by decide) (by decide) (fun c => absurd c (by decide)) (fun _ => ?_)
  refine Rj_aload_n (q := 118) d_Rr_readBehind_117 rfl rfl rfl ?_
  refine Rj_gr (q := 121) (zd := 2) gD_Rr_15_84 rfl rfl d_Rr_readBehind_118 rfl ?_
  refine Rj_ldcS (q := 123) (tx := "and") (k := 15) (z := 15) (by decide) rfl d_Rr_readBehind_121 rfl ?_
  refine Rj_vo (q := 126) (z := y_Sp_takeWord) (as := [vK 15]) (rest := []) (la := [vA 2, vK 15]) oD_2_Sp_takeWord ml_Rr_76 mw_Sp_takeWord mv_Sp_takeWord rfl d_Rr_readBehind_123 rfl rfl rfl rfl rfl ?_
  refine s_takeWord (μ := μ) (A := A) (n := n) (k := k) (w := 15) (hT.keep rfl rfl) hk (by omega) rfl (by decide) ?_
  rw [wN_15]
  rw [hs]
  have t123 := lend_bd A (n := n) (k := k) (by omega)
  by_cases w123 : wat A n k 6385252 = true
  · rw [if_pos w123, bI_t w123]
    refine Rj_if_eq (q := 129) (t := 140) d_Rr_readBehind_126 rfl (by decide) (by decide) (fun c => absurd c (by decide)) (fun _ => ?_)
    refine Rj_aload_n (q := 130) d_Rr_readBehind_129 rfl rfl rfl ?_
    refine Rj_bipush (q := 132) d_Rr_readBehind_130 rfl (by decide +kernel) ?_
    refine Rj_bipush (q := 134) d_Rr_readBehind_132 rfl (by decide +kernel) ?_
    refine Rj_vov (q := 137) (z := y_Rr_joinBy) (as := [vI 17, vI 6]) (rest := []) (la := [vA 84, vI 17, vI 6]) oD_84_Rr_joinBy ml_Rr_119 mw_Rr_joinBy mv_Rr_joinBy rfl d_Rr_readBehind_134 rfl rfl rfl rfl rfl ?_
    have wl := wat_len w123
    have cv : RC ((mset μ 2 2 (lend A n k))) A n r (lend A n k) w cl vl 7 D c := hC.upd (Fr.put (Fr.refl _ _) (by omega)) rfl h3 h4 h5 h6 h7 h8
    have fr0 : Fr (Wru r) μ ((mset μ 2 2 (lend A n k))) := (Fr.put (Fr.refl _ _) (by unfold Wru; omega))
    refine s_joinBy (op := 17) (nx' := 6) cv (hI.to (by omega) (by omega)) (by omega) rfl (fun m fm cm => ?_)
    have frm : Fr (Wru r) μ m := Fr.trans fr0 fm
    refine Rj_goto (t := 189) d_Rr_readBehind_137 (by decide) ?_
    refine Rj_vret d_Rr_readBehind_189 rfl ?_
    exact hG m (lend A n k) (17 :: (stl 2 w c).1) cl vl 6 D (stl 2 w c).2 (fun x g => RUN_and hs ⟨Or.inl rfl, Or.inr rfl⟩ w123 rfl g) frm cm (((hI.sett (b := 2)).push (by decide) (by decide) (by omega) (by omega)).at (by decide) (by decide)) (by omega)
  · rw [if_neg w123, bI_f (bool_f w123)]
    refine Rj_eqm (μ' := μ) (mset_idv hk) ?_
    refine Rj_if_eq (q := 129) (t := 140) d_Rr_readBehind_126 rfl (by decide) (by decide) (fun _ => ?_) (fun c => absurd c (by decide))
    refine Rj_aload_n (q := 141) d_Rr_readBehind_140 rfl rfl rfl ?_
    refine Rj_gi (q := 144) (ki := 8) (v := 7) gD_Rr_39_84 rfl rfl h8 d_Rr_readBehind_141 rfl ?_
    refine Rj_iconst (q := 145) d_Rr_readBehind_144 rfl ?_
    refine Rj_icmp_eq (q := 148) (t := 171) d_Rr_readBehind_145 rfl (by decide) (by decide) (by decide) (fun c => absurd c (by decide)) (fun _ => ?_)
    refine Rj_aload_n (q := 149) d_Rr_readBehind_148 rfl rfl rfl ?_
    refine Rj_gr (q := 152) (zd := 2) gD_Rr_15_84 rfl rfl d_Rr_readBehind_149 rfl ?_
    refine Rj_ldcS (q := 154) (tx := "or") (k := 16) (z := 16) (by decide) rfl d_Rr_readBehind_152 rfl ?_
    refine Rj_vo (q := 157) (z := y_Sp_takeWord) (as := [vK 16]) (rest := []) (la := [vA 2, vK 16]) oD_2_Sp_takeWord ml_Rr_76 mw_Sp_takeWord mv_Sp_takeWord rfl d_Rr_readBehind_154 rfl rfl rfl rfl rfl ?_
    refine s_takeWord (μ := μ) (A := A) (n := n) (k := k) (w := 16) (hT.keep rfl rfl) hk (by omega) rfl (by decide) ?_
    rw [wN_16]
    rw [hs]
    have t154 := lend_bd A (n := n) (k := k) (by omega)
    by_cases w154 : wat A n k 28530 = true
    · rw [if_pos w154, bI_t w154]
      refine Rj_if_eq (q := 160) (t := 171) d_Rr_readBehind_157 rfl (by decide) (by decide) (fun c => absurd c (by decide)) (fun _ => ?_)
      refine Rj_aload_n (q := 161) d_Rr_readBehind_160 rfl rfl rfl ?_
      refine Rj_bipush (q := 163) d_Rr_readBehind_161 rfl (by decide +kernel) ?_
      refine Rj_bipush (q := 165) d_Rr_readBehind_163 rfl (by decide +kernel) ?_
      refine Rj_vov (q := 168) (z := y_Rr_joinBy) (as := [vI 18, vI 6]) (rest := []) (la := [vA 84, vI 18, vI 6]) oD_84_Rr_joinBy ml_Rr_119 mw_Rr_joinBy mv_Rr_joinBy rfl d_Rr_readBehind_165 rfl rfl rfl rfl rfl ?_
      have wl := wat_len w154
      have cv : RC ((mset μ 2 2 (lend A n k))) A n r (lend A n k) w cl vl 7 D c := hC.upd (Fr.put (Fr.refl _ _) (by omega)) rfl h3 h4 h5 h6 h7 h8
      have fr0 : Fr (Wru r) μ ((mset μ 2 2 (lend A n k))) := (Fr.put (Fr.refl _ _) (by unfold Wru; omega))
      refine s_joinBy (op := 18) (nx' := 6) cv (hI.to (by omega) (by omega)) (by omega) rfl (fun m fm cm => ?_)
      have frm : Fr (Wru r) μ m := Fr.trans fr0 fm
      refine Rj_goto (t := 189) d_Rr_readBehind_168 (by decide) ?_
      refine Rj_vret d_Rr_readBehind_189 rfl ?_
      exact hG m (lend A n k) (18 :: (stl 1 w c).1) cl vl 6 D (stl 1 w c).2 (fun x g => RUN_or hs ⟨Or.inl rfl, Or.inr rfl⟩ w123 w154 rfl g) frm cm (((hI.sett (b := 1)).push (by decide) (by decide) (by omega) (by omega)).at (by decide) (by decide)) (by omega)
    · rw [if_neg w154, bI_f (bool_f w154)]
      refine Rj_eqm (μ' := μ) (mset_idv hk) ?_
      refine Rj_if_eq (q := 160) (t := 171) d_Rr_readBehind_157 rfl (by decide) (by decide) (fun _ => ?_) (fun c => absurd c (by decide))
      refine Rj_aload_n (q := 172) d_Rr_readBehind_171 rfl rfl rfl ?_
      refine Rj_gi (q := 175) (ki := 5) (v := brn w) gD_Rr_30_84 rfl rfl h5 d_Rr_readBehind_172 rfl ?_
      refine Rj_if_le (q := 178) (t := 185) d_Rr_readBehind_175 rfl (by decide) ⟨by omega, by omega⟩ (fun c175 => ?_) (fun c175 => ?_)
      · refine Rj_aload_n (q := 186) d_Rr_readBehind_185 rfl rfl rfl ?_
        refine Rj_vov (q := 189) (z := y_Rr_endClause) (as := []) (rest := []) (la := [vA 84]) oD_84_Rr_endClause ml_Rr_137 mw_Rr_endClause mv_Rr_endClause rfl d_Rr_readBehind_186 rfl rfl rfl rfl rfl ?_
        refine s_endClause hC hI hs (Or.inr ⟨⟨Or.inl rfl, Or.inr rfl⟩, w123, w154⟩) (by omega) (fun e m a1 a2 a3 a4 => ?_) (fun m k2 w2 cl2 vl2 nx2 D2 c2 a1 a2 a3 a4 a5 => ?_) (fun m D2 a1 a2 a3 => ?_)
        · have zz := True.intro
          refine Rj_vret d_Rr_readBehind_189 rfl ?_
          exact hE e m a1 a2 a3 a4
        · have zz := True.intro
          refine Rj_vret d_Rr_readBehind_189 rfl ?_
          exact hG m k2 w2 cl2 vl2 nx2 D2 c2 a1 a2 a3 a4 a5
        · have zz := True.intro
          refine Rj_vret d_Rr_readBehind_189 rfl ?_
          exact hF m D2 a1 a2 a3
      · refine Rj_aload_n (q := 179) d_Rr_readBehind_178 rfl rfl rfl ?_
        refine Rj_vov (q := 182) (z := y_Rr_readClosing) (as := []) (rest := []) (la := [vA 84]) oD_84_Rr_readClosing ml_Rr_134 mw_Rr_readClosing mv_Rr_readClosing rfl d_Rr_readBehind_179 rfl rfl rfl rfl rfl ?_
        refine s_readClosing hC hI hs (Or.inr ⟨⟨Or.inl rfl, Or.inr rfl⟩, w123, w154⟩) (by omega) (fun e m a1 a2 a3 a4 => ?_) (fun m k2 w2 cl2 vl2 nx2 D2 c2 a1 a2 a3 a4 a5 => ?_)
        · have zz := True.intro
          refine Rj_goto (t := 189) d_Rr_readBehind_182 (by decide) ?_
          refine Rj_vret d_Rr_readBehind_189 rfl ?_
          exact hE e m a1 a2 a3 a4
        · have zz := True.intro
          refine Rj_goto (t := 189) d_Rr_readBehind_182 (by decide) ?_
          refine Rj_vret d_Rr_readBehind_189 rfl ?_
          exact hG m k2 w2 cl2 vl2 nx2 D2 c2 a1 a2 a3 a4 a5
set_option maxHeartbeats 4000000 in
theorem s_readBehind {μ : Mem} {Q : PV → Mem → Prop} {A : Int → Int} {n r k cl vl nx : Int} {w : List Int} {D : List CLS} {c : CLS} (hC : RC μ A n r k w cl vl nx D c) (hI : IV n k w cl vl nx D c) (hx : nx % 2 = 1) (hE : ∀ e μ', RUN A n k w cl vl nx D c (.error e) → Fr (Wru r) μ μ' → μ' 2 3 = e → (1 ≤ e ∧ e ≤ 5000) → Q vU μ') (hG : ∀ μ' k' w' cl' vl' nx' D' c', (∀ x, RUN A n k' w' cl' vl' nx' D' c' x → RUN A n k w cl vl nx D c x) → Fr (Wru r) μ μ' → RC μ' A n r k' w' cl' vl' nx' D' c' → IV n k' w' cl' vl' nx' D' c' → k < k' → Q vU μ') (hF : ∀ μ' D', RUN A n k w cl vl nx D c (.ok D') → Fr (Wru r) μ μ' → FIN μ' r D' → Q vU μ') : Rj YD y_Rr_readBehind 0 [vA 84] [] μ Q := by
  obtain ⟨hT, hk, hf0, h3, h4, h5, h6, h7, h8, hW, hr, hL, hl⟩ := id hC
  obtain ⟨i1, i2, i3, i4, i5, i6, i7, i8⟩ := id hI
  have hn := hT.2.1
  have hX := hT.1.1
  have dw := dpn_bd w
  have bw := brn_bd w
  have nn := nC_nn D c
  refine Rj_aload_n (q := 1) d_Rr_readBehind_0 rfl rfl rfl ?_
  refine Rj_gr (q := 4) (zd := 2) gD_Rr_15_84 rfl rfl d_Rr_readBehind_1 rfl ?_
  refine Rj_vo (q := 7) (z := y_Sp_nextSign) (as := []) (rest := []) (la := [vA 2]) oD_2_Sp_nextSign ml_Rr_79 mw_Sp_nextSign mv_Sp_nextSign rfl d_Rr_readBehind_4 rfl rfl rfl rfl rfl ?_
  refine s_next (μ := μ) (A := A) (n := n) (k := k) (hT.keep rfl rfl) hk (by omega) ?_
  have r4 := sk_bd A (n := n) (k := k) (by omega)
  have v4 := nsV_rng hT (k := sk A n k) (by omega)
  have fr0 : Fr (Wru r) μ ((mset μ 2 2 (sk A n k))) := (Fr.put (Fr.refl _ _) (by unfold Wru; omega))
  have cv : RC ((mset μ 2 2 (sk A n k))) A n r (sk A n k) w cl vl nx D c := hC.upd (Fr.put (Fr.refl _ _) (by omega)) rfl h3 h4 h5 h6 h7 h8
  have iv : IV n (sk A n k) w cl vl nx D c := hI.to (by omega) (by omega)
  have hE' : ∀ e μ', RUN A n (sk A n k) w cl vl nx D c (.error e) → Fr (Wru r) ((mset μ 2 2 (sk A n k))) μ' → μ' 2 3 = e → (1 ≤ e ∧ e ≤ 5000) → Q vU μ' := fun e m a1 a2 a3 a4 => hE e m (RUN_sk a1) (fr0.trans a2) a3 a4
  have hG' : ∀ μ' k' w' cl' vl' nx' D' c', (∀ x, RUN A n k' w' cl' vl' nx' D' c' x → RUN A n (sk A n k) w cl vl nx D c x) → Fr (Wru r) ((mset μ 2 2 (sk A n k))) μ' → RC μ' A n r k' w' cl' vl' nx' D' c' → IV n k' w' cl' vl' nx' D' c' → sk A n k < k' → Q vU μ' := fun m k2 w2 cl2 vl2 nx2 D2 c2 a1 a2 a3 a4 a5 => hG m k2 w2 cl2 vl2 nx2 D2 c2 (fun x g => RUN_sk (a1 x g)) (fr0.trans a2) a3 a4 (by omega)
  have hF' : ∀ μ' D', RUN A n (sk A n k) w cl vl nx D c (.ok D') → Fr (Wru r) ((mset μ 2 2 (sk A n k))) μ' → FIN μ' r D' → Q vU μ' := fun m D2 a1 a2 a3 => hF m D2 (RUN_sk a1) (fr0.trans a2) a3
  rcases (show nx = 1 ∨ nx = 3 ∨ nx = 5 ∨ nx = 7 by omega) with e | e | e | e
  · rw [e] at cv iv hE' hG' hF'; exact s_rb_1 cv iv (sk_idem _ _ _) hE' hG' hF'
  · rw [e] at cv iv hE' hG' hF'; exact s_rb_3 cv iv (sk_idem _ _ _) hE' hG' hF'
  · rw [e] at cv iv hE' hG' hF'; exact s_rb_5 cv iv (sk_idem _ _ _) hE' hG' hF'
  · rw [e] at cv iv hE' hG' hF'; exact s_rb_7 cv iv (sk_idem _ _ _) hE' hG' hF'
