theorem oD_84_Rr_startClause : OI YD 84 y_Rr_startClause := ⟨by decide, _, _, _, cD_84, rfl⟩
/-! the class reads a rule: brackets close, a clause ends -/
theorem flC_N (D : List CLS) (c : CLS) : flC (D ++ [c]) ++ cuC ([], none) = flC D ++ cuC c ++ [trm c] := by
  rw [flC_snoc]
  show _ ++ ([] ++ []) = _
  rw [List.append_nil, List.append_nil]
theorem nC_N (D : List CLS) (c : CLS) : nC (D ++ [c]) ([], none) = nC D c + 1 := by
  rw [nC_len, flC_N, nC_len]
  simp
  omega
section RCN
variable {μ : Mem} {A : Int → Int} {n r k cl vl nx op : Int} {D : List CLS} {c : CLS}
/-- a clause is closed -/
theorem RC.next (h : RC μ A n r k [] cl vl nx D c) {m : Mem} (fm : Fr (Wem r) μ m) (ht : op = trm c) (lm : LST (m 80) (401 * r) (flC D ++ cuC c ++ [op])) (lm2 : m 81 r = ((flC D ++ cuC c).length : Int) + 1) : RC (mset m 84 8 8) A n r k [] cl vl 8 (D ++ [c]) ([], none) := by
  obtain ⟨hT, hk, hf0, h3, h4, h5, h6, h7, h8, hW, hr, hL, hl⟩ := h
  refine ⟨hT.keep (fm 2 1 (by unfold Wem; omega)) (fm.row (fun i q => by unfold Wem at q; omega)), (fm 2 2 (by unfold Wem; omega)).trans hk, (fm 2 3 (by unfold Wem; omega)).trans hf0, (fm 84 3 (by unfold Wem; omega)).trans h3, (fm 84 4 (by unfold Wem; omega)).trans h4, (fm 84 5 (by unfold Wem; omega)).trans h5, (fm 84 6 (by unfold Wem; omega)).trans h6, (fm 84 7 (by unfold Wem; omega)).trans h7, rfl, trivial, ⟨(fm 79 1 (by unfold Wem; omega)).trans hr.1, hr.2⟩, ?_, ?_⟩
  · rw [flC_N, ← ht]; exact lm
  · rw [nC_N, nC_len]; exact lm2
end RCN
set_option maxHeartbeats 4000000 in
theorem s_readClosing {μ : Mem} {Q : PV → Mem → Prop} {A : Int → Int} {n r k cl vl nx : Int} {w : List Int} {D : List CLS} {c : CLS} (hC : RC μ A n r k w cl vl nx D c) (hI : IV n k w cl vl nx D c) (hs : sk A n k = k) (hm : nmo A n k nx) (hb : 0 < brn w) (hE : ∀ e μ', RUN A n k w cl vl nx D c (.error e) → Fr (Wru r) μ μ' → μ' 2 3 = e → (1 ≤ e ∧ e ≤ 5000) → Q vU μ') (hG : ∀ μ' k' w' cl' vl' nx' D' c', (∀ x, RUN A n k' w' cl' vl' nx' D' c' x → RUN A n k w cl vl nx D c x) → Fr (Wru r) μ μ' → RC μ' A n r k' w' cl' vl' nx' D' c' → IV n k' w' cl' vl' nx' D' c' → k < k' → Q vU μ') : Rj YD y_Rr_readClosing 0 [vA 84] [] μ Q := by
  obtain ⟨hT, hk, hf0, h3, h4, h5, h6, h7, h8, hW, hr, hL, hl⟩ := id hC
  obtain ⟨i1, i2, i3, i4, i5, i6, i7, i8⟩ := id hI
  have hn := hT.2.1
  have hX := hT.1.1
  have dw := dpn_bd w
  have bw := brn_bd w
  have nn := nC_nn D c
  refine Rj_aload_n (q := 1) d_Rr_readClosing_0 rfl rfl rfl ?_
  refine Rj_gr (q := 4) (zd := 2) gD_Rr_15_84 rfl rfl d_Rr_readClosing_1 rfl ?_
  refine Rj_bipush (q := 6) d_Rr_readClosing_4 rfl (by decide +kernel) ?_
  refine Rj_vo (q := 9) (z := y_Sp_takeSign) (as := [vI 93]) (rest := []) (la := [vA 2, vI 93]) oD_2_Sp_takeSign ml_Rr_85 mw_Sp_takeSign mv_Sp_takeSign rfl d_Rr_readClosing_6 rfl rfl rfl rfl rfl ?_
  refine Rj_aload_n (q := 1) d_Sp_takeSign_0 rfl rfl rfl ?_
  refine Rj_vo (q := 4) (z := y_Sp_nextSign) (as := []) (rest := []) (la := [vA 2]) oD_2_Sp_nextSign ml_Sp_31 mw_Sp_nextSign mv_Sp_nextSign rfl d_Sp_takeSign_1 rfl rfl rfl rfl rfl ?_
  refine s_next (μ := μ) (A := A) (n := n) (k := k) (hT.keep rfl rfl) hk (by omega) ?_
  rw [hs]
  have v6_1 := nsV_rng hT (k := k) (by omega)
  refine Rj_eqm (μ' := μ) (mset_idv hk) ?_
  refine Rj_iload_n (q := 5) d_Sp_takeSign_4 rfl rfl rfl ?_
  refine Rj_icmp_eq (q := 8) (t := 10) d_Sp_takeSign_5 rfl (by decide) ⟨by omega, by omega⟩ (by decide) (fun c6_5 => ?_) (fun c6_5 => ?_)
  · refine Rj_aload_n (q := 11) d_Sp_takeSign_10 rfl rfl rfl ?_
    refine Rj_dup (q := 12) d_Sp_takeSign_11 rfl (by intro h; cases h) ?_
    refine Rj_gi (q := 15) (ki := 2) (v := k) gD_Sp_25_2 rfl rfl hk d_Sp_takeSign_12 rfl ?_
    refine Rj_iconst (q := 16) d_Sp_takeSign_15 rfl ?_
    refine Rj_iadd (q := 17) d_Sp_takeSign_16 rfl ?_
    refine Rj_pi (q := 20) (ki := 2) pD_Sp_25_2 rfl rfl d_Sp_takeSign_17 rfl ?_
    refine Rj_iconst (q := 21) d_Sp_takeSign_20 rfl ?_
    refine Rj_bret1 d_Sp_takeSign_21 rfl ?_
    refine Rj_if_ne (q := 12) (t := 28) d_Rr_readClosing_9 rfl (by decide) (by decide) (fun _ => ?_) (fun c => absurd c (by decide))
    refine Rj_aload_n (q := 29) d_Rr_readClosing_28 rfl rfl rfl ?_
    refine Rj_bipush (q := 31) d_Rr_readClosing_29 rfl (by decide +kernel) ?_
    refine Rj_vov (q := 34) (z := y_Rr_settle) (as := [vI 18]) (rest := []) (la := [vA 84, vI 18]) oD_84_Rr_settle ml_Rr_127 mw_Rr_settle mv_Rr_settle rfl d_Rr_readClosing_31 rfl rfl rfl rfl rfl ?_
    have hsg : sgn A n k = 93 := (ns_sgn hT (by omega) (by decide)).mp c6_5
    have kn := ((sgn_eq (by decide)).mp hsg).1
    obtain ⟨t, et⟩ := stl_br (c := c) i5 hb
    have es : stl 1 w c = (22 :: t, (stl 1 w c).2) := by rw [← et]
    generalize ec : (stl 1 w c).2 = c' at es
    have cv : RC ((mset μ 2 2 (k + 1))) A n r (k + 1) w cl vl nx D c := hC.upd (Fr.put (Fr.refl _ _) (by omega)) rfl h3 h4 h5 h6 h7 h8
    have iv : IV n (k + 1) w cl vl nx D c := hI.to (by omega) (by omega)
    have fr0 : Fr (Wru r) μ ((mset μ 2 2 (k + 1))) := (Fr.put (Fr.refl _ _) (by unfold Wru; omega))
    have tl : (((22 :: t : List Int).length : Nat) : Int) = (t.length : Int) + 1 := by simp
    refine s_settle (b := 1) cv iv (by decide) (by decide) (by decide) (fun m fm cm => ?_)
    rw [es] at cm
    dsimp only at cm
    have hIm := iv.settE es
    have xm := hIm.2.2.2.1
    have ym := hIm.1
    have zm := nC_nn D c'
    have dprm := dpn_bd (22 :: t)
    have bprm := brn_bd (22 :: t)
    refine Rj_aload_n (q := 35) d_Rr_readClosing_34 rfl rfl rfl ?_
    refine Rj_gi (q := 38) (ki := 3) (v := ((22 :: t).length : Int)) gD_Rr_23_84 rfl rfl cm.2.2.2.1 d_Rr_readClosing_35 rfl ?_
    refine Rj_if_le (q := 41) (t := 71) d_Rr_readClosing_38 rfl (by decide) ⟨by omega, by omega⟩ (fun c38 => ?_) (fun c38 => ?_)
    · refine Rj_aload_n (q := 72) d_Rr_readClosing_71 rfl rfl rfl ?_
      refine Rj_bipush (q := 74) d_Rr_readClosing_72 rfl (by decide +kernel) ?_
      refine Rj_pi (q := 77) (ki := 8) pD_Rr_39_84 rfl rfl d_Rr_readClosing_74 rfl ?_
      refine Rj_vret d_Rr_readClosing_77 rfl ?_
      exfalso
      omega
    · refine Rj_aload_n (q := 42) d_Rr_readClosing_41 rfl rfl rfl ?_
      refine Rj_dup (q := 43) d_Rr_readClosing_42 rfl (by intro h; cases h) ?_
      refine Rj_gi (q := 46) (ki := 3) (v := ((22 :: t).length : Int)) gD_Rr_23_84 rfl rfl cm.2.2.2.1 d_Rr_readClosing_43 rfl ?_
      refine Rj_iconst (q := 47) d_Rr_readClosing_46 rfl ?_
      refine Rj_isub (q := 48) d_Rr_readClosing_47 rfl ?_
      refine Rj_pi (q := 51) (ki := 3) pD_Rr_23_84 rfl rfl d_Rr_readClosing_48 rfl ?_
      refine Rj_aload_n (q := 52) d_Rr_readClosing_51 rfl rfl rfl ?_
      refine Rj_dup (q := 53) d_Rr_readClosing_52 rfl (by intro h; cases h) ?_
      refine Rj_gi (q := 56) (ki := 4) (v := dpn (22 :: t)) gD_Rr_27_84 rfl rfl cm.2.2.2.2.1 d_Rr_readClosing_53 rfl ?_
      refine Rj_iconst (q := 57) d_Rr_readClosing_56 rfl ?_
      refine Rj_isub (q := 58) d_Rr_readClosing_57 rfl ?_
      refine Rj_pi (q := 61) (ki := 4) pD_Rr_27_84 rfl rfl d_Rr_readClosing_58 rfl ?_
      refine Rj_aload_n (q := 62) d_Rr_readClosing_61 rfl rfl rfl ?_
      refine Rj_dup (q := 63) d_Rr_readClosing_62 rfl (by intro h; cases h) ?_
      refine Rj_gi (q := 66) (ki := 5) (v := brn (22 :: t)) gD_Rr_30_84 rfl rfl cm.2.2.2.2.2.1 d_Rr_readClosing_63 rfl ?_
      refine Rj_iconst (q := 67) d_Rr_readClosing_66 rfl ?_
      refine Rj_isub (q := 68) d_Rr_readClosing_67 rfl ?_
      refine Rj_pi (q := 71) (ki := 5) pD_Rr_30_84 rfl rfl d_Rr_readClosing_68 rfl ?_
      refine Rj_aload_n (q := 72) d_Rr_readClosing_71 rfl rfl rfl ?_
      refine Rj_bipush (q := 74) d_Rr_readClosing_72 rfl (by decide +kernel) ?_
      refine Rj_pi (q := 77) (ki := 8) pD_Rr_39_84 rfl rfl d_Rr_readClosing_74 rfl ?_
      refine Rj_vret d_Rr_readClosing_77 rfl ?_
      have hI2 := hIm.pop
      exact hG _ (k + 1) t cl vl 7 D c' (fun x g => RUN_close hs hm hb hsg es g) (Fr.trans fr0 (Fr.trans fm (Fr.put (Fr.put (Fr.put (Fr.put (Fr.refl _ _) (by unfold Wru; omega)) (by unfold Wru; omega)) (by unfold Wru; omega)) (by unfold Wru; omega)))) (cm.pop (Fr.put (Fr.put (Fr.put (Fr.put (Fr.refl _ _) (by omega)) (by omega)) (by omega)) (by omega)) (by show _ - 1 = _; omega) (by show dpn (22 :: t) - 1 = dpn t; rw [dpn_cons, if_pos (by decide)]; omega) (by show brn t + (if (22 : Int) = 22 then 1 else 0) - 1 = brn t; rw [if_pos rfl]; omega) (show m 84 6 = cl from cm.2.2.2.2.2.2.1) (show m 84 7 = vl from cm.2.2.2.2.2.2.2.1) rfl) (hI2.at (by decide) (by have := hm.odd; have q := i7; rcases hm with ⟨q1, _⟩ | ⟨⟨_, q2⟩, _⟩ <;> omega)) (by omega)
  · refine Rj_iconst (q := 9) d_Sp_takeSign_8 rfl ?_
    refine Rj_bret0 d_Sp_takeSign_9 rfl ?_
    refine Rj_if_ne (q := 12) (t := 28) d_Rr_readClosing_9 rfl (by decide) (by decide) (fun c => absurd c (by decide)) (fun _ => ?_)
    refine Rj_aload_n (q := 13) d_Rr_readClosing_12 rfl rfl rfl ?_
    refine Rj_gr (q := 16) (zd := 2) gD_Rr_15_84 rfl rfl d_Rr_readClosing_13 rfl ?_
    refine Rj_aload_n (q := 17) d_Rr_readClosing_16 rfl rfl rfl ?_
    refine Rj_gr (q := 20) (zd := 2) gD_Rr_15_84 rfl rfl d_Rr_readClosing_17 rfl ?_
    refine Rj_gi (q := 23) (ki := 2) (v := k) gD_Rr_69_2 rfl rfl hk d_Rr_readClosing_20 rfl ?_
    refine Rj_iconst (q := 24) d_Rr_readClosing_23 rfl ?_
    refine Rj_vov (q := 27) (z := y_Sp_fail) (as := [vI k, vI 0]) (rest := []) (la := [vA 2, vI k, vI 0]) oD_2_Sp_fail ml_Rr_72 mw_Sp_fail mv_Sp_fail rfl d_Rr_readClosing_24 rfl rfl rfl rfl rfl ?_
    refine Rj_aload_n (q := 1) d_Sp_fail_0 rfl rfl rfl ?_
    refine Rj_gi (q := 4) (ki := 3) (v := 0) gD_Sp_28_2 rfl rfl hf0 d_Sp_fail_1 rfl ?_
    refine Rj_if_ne (q := 7) (t := 19) d_Sp_fail_4 rfl (by decide) (by decide) (fun c => absurd c (by decide)) (fun _ => ?_)
    refine Rj_aload_n (q := 8) d_Sp_fail_7 rfl rfl rfl ?_
    refine Rj_iconst (q := 9) d_Sp_fail_8 rfl ?_
    refine Rj_bipush (q := 11) d_Sp_fail_9 rfl (by decide +kernel) ?_
    refine Rj_iload_n (q := 12) d_Sp_fail_11 rfl rfl rfl ?_
    refine Rj_imul (q := 13) d_Sp_fail_12 rfl ?_
    refine Rj_iadd (q := 14) d_Sp_fail_13 rfl ?_
    refine Rj_iload_n (q := 15) d_Sp_fail_14 rfl rfl rfl ?_
    refine Rj_iadd (q := 16) d_Sp_fail_15 rfl ?_
    refine Rj_pi (q := 19) (ki := 3) pD_Sp_28_2 rfl rfl d_Sp_fail_16 rfl ?_
    refine Rj_vret d_Sp_fail_19 rfl ?_
    refine Rj_vret d_Rr_readClosing_27 rfl ?_
    exact hE ((1 + (8 * k)) + 0) _ (RUN_nclose hs hm hb (fun q => c6_5 ((ns_sgn hT (by omega) (by decide)).mpr q))) (Fr.put (Fr.refl _ _) (by unfold Wru; omega)) rfl (by omega)
set_option maxHeartbeats 4000000 in
theorem s_endClause {μ : Mem} {Q : PV → Mem → Prop} {A : Int → Int} {n r k cl vl nx : Int} {w : List Int} {D : List CLS} {c : CLS} (hC : RC μ A n r k w cl vl nx D c) (hI : IV n k w cl vl nx D c) (hs : sk A n k = k) (hm : nmo A n k nx) (hb : ¬ 0 < brn w) (hE : ∀ e μ', RUN A n k w cl vl nx D c (.error e) → Fr (Wru r) μ μ' → μ' 2 3 = e → (1 ≤ e ∧ e ≤ 5000) → Q vU μ') (hG : ∀ μ' k' w' cl' vl' nx' D' c', (∀ x, RUN A n k' w' cl' vl' nx' D' c' x → RUN A n k w cl vl nx D c x) → Fr (Wru r) μ μ' → RC μ' A n r k' w' cl' vl' nx' D' c' → IV n k' w' cl' vl' nx' D' c' → k < k' → Q vU μ') (hF : ∀ μ' D', RUN A n k w cl vl nx D c (.ok D') → Fr (Wru r) μ μ' → FIN μ' r D' → Q vU μ') : Rj YD y_Rr_endClause 0 [vA 84] [] μ Q := by
  obtain ⟨hT, hk, hf0, h3, h4, h5, h6, h7, h8, hW, hr, hL, hl⟩ := id hC
  obtain ⟨i1, i2, i3, i4, i5, i6, i7, i8⟩ := id hI
  have hn := hT.2.1
  have hX := hT.1.1
  have dw := dpn_bd w
  have bw := brn_bd w
  have nn := nC_nn D c
  refine Rj_aload_n (q := 1) d_Rr_endClause_0 rfl rfl rfl ?_
  refine Rj_bipush (q := 3) d_Rr_endClause_1 rfl (by decide +kernel) ?_
  refine Rj_vov (q := 6) (z := y_Rr_settle) (as := [vI 18]) (rest := []) (la := [vA 84, vI 18]) oD_84_Rr_settle ml_Rr_127 mw_Rr_settle mv_Rr_settle rfl d_Rr_endClause_3 rfl rfl rfl rfl rfl ?_
  obtain ⟨c', es⟩ : ∃ c', stl 1 w c = ([], c') := ⟨(stl 1 w c).2, by rw [← stl_nb (c := c) i5 hb]⟩
  refine s_settle (b := 1) hC hI (by decide) (by decide) (by decide) (fun m fm cm => ?_)
  rw [es] at cm
  dsimp only at cm
  have hIm := hI.settE es
  have xm := hIm.2.2.2.1
  have ym := hIm.1
  have zm := nC_nn D c'
  have dprm := dpn_bd ([])
  have bprm := brn_bd ([])
  refine Rj_aload_n (q := 7) d_Rr_endClause_6 rfl rfl rfl ?_
  refine Rj_gr (q := 10) (zd := 79) gD_Rr_19_84 rfl rfl d_Rr_endClause_7 rfl ?_
  refine Rj_aload_n (q := 11) d_Rr_endClause_10 rfl rfl rfl ?_
  refine Rj_gi (q := 14) (ki := 8) (v := nx) gD_Rr_39_84 rfl rfl cm.2.2.2.2.2.2.2.2.1 d_Rr_endClause_11 rfl ?_
  refine Rj_iconst (q := 15) d_Rr_endClause_14 rfl ?_
  refine Rj_icmp_ne (q := 18) (t := 23) d_Rr_endClause_15 rfl (by decide) ⟨by omega, by omega⟩ (by decide) (fun c15 => ?_) (fun c15 => ?_)
  · refine Rj_bipush (q := 25) d_Rr_endClause_23 rfl (by decide +kernel) ?_
    refine Rj_vov (q := 28) (z := y_Bo_emit) (as := [vI 21]) (rest := []) (la := [vA 79, vI 21]) oD_79_Bo_emit ml_Rr_108 mw_Bo_emit mv_Bo_emit rfl d_Rr_endClause_25 rfl rfl rfl rfl rfl ?_
    have ect := hIm.2.2.2.2.2.2.1
    have etr : (21 : Int) = trm c' := by unfold trm; rw [if_neg (fun q => by have := ect.mp q; have := hm.odd; omega)]
    have zl : (([] : List Int).length : Int) = 0 := rfl
    refine s_emit (op := 21) cm.2.2.2.2.2.2.2.2.2.2.1 cm.2.2.2.2.2.2.2.2.2.2.2.1 (cm.2.2.2.2.2.2.2.2.2.2.2.2.trans (nC_len D c')) (by rw [← nC_len]; omega) (fun m2 fm2 lm lm2 => ?_)
    have c2 := cm.next fm2 etr lm lm2
    have t2 : TD m2 A n := c2.1
    have p2 : m2 2 2 = k := c2.2.1
    have fr2 : Fr (Wru r) μ m2 := Fr.trans fm (Fr.wide fm2 (fun c i q => by unfold Wem at q; unfold Wru; omega))
    refine Rj_aload_n (q := 29) d_Rr_endClause_28 rfl rfl rfl ?_
    refine Rj_bipush (q := 31) d_Rr_endClause_29 rfl (by decide +kernel) ?_
    refine Rj_pi (q := 34) (ki := 8) pD_Rr_39_84 rfl rfl d_Rr_endClause_31 rfl ?_
    refine Rj_aload_n (q := 35) d_Rr_endClause_34 rfl rfl rfl ?_
    refine Rj_gr (q := 38) (zd := 2) gD_Rr_15_84 rfl rfl d_Rr_endClause_35 rfl ?_
    refine Rj_vo (q := 41) (z := y_Sp_takeClauseBreak) (as := []) (rest := []) (la := [vA 2]) oD_2_Sp_takeClauseBreak ml_Rr_147 mw_Sp_takeClauseBreak mv_Sp_takeClauseBreak rfl d_Rr_endClause_38 rfl rfl rfl rfl rfl ?_
    refine Rj_aload_n (q := 1) d_Sp_takeClauseBreak_0 rfl rfl rfl ?_
    refine Rj_bipush (q := 3) d_Sp_takeClauseBreak_1 rfl (by decide +kernel) ?_
    refine Rj_vo (q := 6) (z := y_Sp_takeSign) (as := [vI 59]) (rest := []) (la := [vA 2, vI 59]) oD_2_Sp_takeSign ml_Sp_59 mw_Sp_takeSign mv_Sp_takeSign rfl d_Sp_takeClauseBreak_3 rfl rfl rfl rfl rfl ?_
    refine Rj_aload_n (q := 1) d_Sp_takeSign_0 rfl rfl rfl ?_
    refine Rj_vo (q := 4) (z := y_Sp_nextSign) (as := []) (rest := []) (la := [vA 2]) oD_2_Sp_nextSign ml_Sp_31 mw_Sp_nextSign mv_Sp_nextSign rfl d_Sp_takeSign_1 rfl rfl rfl rfl rfl ?_
    refine s_next (μ := (mset m2 84 8 8)) (A := A) (n := n) (k := k) (t2.keep rfl rfl) p2 (by omega) ?_
    rw [hs]
    have v38_3_1 := nsV_rng t2 (k := k) (by omega)
    rw [show nsV (mset m2 84 8 8) n k = nsV m2 n k from rfl]
    refine Rj_eqm (μ' := (mset m2 84 8 8)) (mset_idv p2) ?_
    refine Rj_iload_n (q := 5) d_Sp_takeSign_4 rfl rfl rfl ?_
    refine Rj_icmp_eq (q := 8) (t := 10) d_Sp_takeSign_5 rfl (by decide) ⟨by omega, by omega⟩ (by decide) (fun c38_3_5 => ?_) (fun c38_3_5 => ?_)
    · refine Rj_aload_n (q := 11) d_Sp_takeSign_10 rfl rfl rfl ?_
      refine Rj_dup (q := 12) d_Sp_takeSign_11 rfl (by intro h; cases h) ?_
      refine Rj_gi (q := 15) (ki := 2) (v := k) gD_Sp_25_2 rfl rfl p2 d_Sp_takeSign_12 rfl ?_
      refine Rj_iconst (q := 16) d_Sp_takeSign_15 rfl ?_
      refine Rj_iadd (q := 17) d_Sp_takeSign_16 rfl ?_
      refine Rj_pi (q := 20) (ki := 2) pD_Sp_25_2 rfl rfl d_Sp_takeSign_17 rfl ?_
      refine Rj_iconst (q := 21) d_Sp_takeSign_20 rfl ?_
      refine Rj_bret1 d_Sp_takeSign_21 rfl ?_
      refine Rj_if_eq (q := 9) (t := 11) d_Sp_takeClauseBreak_6 rfl (by decide) (by decide) (fun c => absurd c (by decide)) (fun _ => ?_)
      refine Rj_iconst (q := 10) d_Sp_takeClauseBreak_9 rfl ?_
      refine Rj_bret1 d_Sp_takeClauseBreak_10 rfl ?_
      refine Rj_if_eq (q := 44) (t := 48) d_Rr_endClause_41 rfl (by decide) (by decide) (fun c => absurd c (by decide)) (fun _ => ?_)
      refine Rj_aload_n (q := 45) d_Rr_endClause_44 rfl rfl rfl ?_
      refine Rj_vov (q := 48) (z := y_Rr_startClause) (as := []) (rest := []) (la := [vA 84]) oD_84_Rr_startClause ml_Rr_42 mw_Rr_startClause mv_Rr_startClause rfl d_Rr_endClause_45 rfl rfl rfl rfl rfl ?_
      have hsg : sgn A n k = 59 := (ns_sgn t2 (by omega) (by decide)).mp c38_3_5
      have kn := ((sgn_eq (by decide)).mp hsg).1
      have c3 : RC ((mset (mset m2 84 8 8) 2 2 (k + 1))) A n r (k + 1) [] cl vl 8 (D ++ [c']) ([], none) := c2.upd (Fr.put (Fr.refl _ _) (by omega)) rfl c2.2.2.2.1 c2.2.2.2.2.1 c2.2.2.2.2.2.1 c2.2.2.2.2.2.2.1 c2.2.2.2.2.2.2.2.1 rfl
      have nN := nC_N D c'
      have lN : (((D ++ [c']).length : Nat) : Int) = (D.length : Int) + 1 := by simp
      have zl : (([] : List Int).length : Int) = 0 := rfl
      refine s_startClause c3 (by omega) (by omega) (by omega) (by omega) (fun e m3 a1 a2 a3 a4 => ?_) (fun m3 k3 a1 a2 a3 a4 a5 => ?_)
      · have fr3 : Fr (Wru r) μ m3 := Fr.trans (Fr.trans fr2 (Fr.put (Fr.put (Fr.refl _ _) (by unfold Wru; omega)) (by unfold Wru; omega))) a2
        refine Rj_vret d_Rr_endClause_48 rfl ?_
        exact hE e m3 (RUN_semi hs hm hb hsg es a1) fr3 a3 a4
      · have fr3 : Fr (Wru r) μ m3 := Fr.trans (Fr.trans fr2 (Fr.put (Fr.put (Fr.refl _ _) (by unfold Wru; omega)) (by unfold Wru; omega))) a2
        refine Rj_vret d_Rr_endClause_48 rfl ?_
        exact hG m3 k3 [] (cl + 1) vl 0 (D ++ [c']) ([], none) (fun x g => RUN_semi hs hm hb hsg es (a1 x g)) fr3 a3 a4 (by omega)
    · refine Rj_iconst (q := 9) d_Sp_takeSign_8 rfl ?_
      refine Rj_bret0 d_Sp_takeSign_9 rfl ?_
      refine Rj_if_eq (q := 9) (t := 11) d_Sp_takeClauseBreak_6 rfl (by decide) (by decide) (fun _ => ?_) (fun c => absurd c (by decide))
      refine Rj_aload_n (q := 12) d_Sp_takeClauseBreak_11 rfl rfl rfl ?_
      refine Rj_gi (q := 15) (ki := 2) (v := k) gD_Sp_25_2 rfl rfl p2 d_Sp_takeClauseBreak_12 rfl ?_
      refine Rj_aload_n (q := 16) d_Sp_takeClauseBreak_15 rfl rfl rfl ?_
      refine Rj_gi (q := 19) (ki := 1) (v := n) gD_Sp_21_2 rfl rfl t2.2.1 d_Sp_takeClauseBreak_16 rfl ?_
      refine Rj_icmp_ge (q := 22) (t := 31) d_Sp_takeClauseBreak_19 rfl (by decide) ⟨by omega, by omega⟩ ⟨by omega, by omega⟩ (fun c38_19 => ?_) (fun c38_19 => ?_)
      · refine Rj_iconst (q := 32) d_Sp_takeClauseBreak_31 rfl ?_
        refine Rj_bret0 d_Sp_takeClauseBreak_32 rfl ?_
        refine Rj_if_eq (q := 44) (t := 48) d_Rr_endClause_41 rfl (by decide) (by decide) (fun _ => ?_) (fun c => absurd c (by decide))
        refine Rj_vret d_Rr_endClause_48 rfl ?_
        have nN := nC_N D c'
        have lN : (((D ++ [c']).length : Nat) : Int) = (D.length : Int) + 1 := by simp
        have zl : (([] : List Int).length : Int) = 0 := rfl
        have lf : (((flC (D ++ [c'])).length : Nat) : Int) = nC D c' + 1 := by rw [← nN, nC_len]; simp
        exact hF _ (D ++ [c']) (RUN_end hs hm hb (by omega) es) (Fr.trans fr2 (Fr.put (Fr.refl _ _) (by unfold Wru; omega))) ⟨c2.2.2.1, rfl, by rw [flC_snoc, ← etr]; exact lm, by rw [lf, nC_len]; exact lm2, by omega, by omega, by omega⟩
      · refine Rj_aload_n (q := 23) d_Sp_takeClauseBreak_22 rfl rfl rfl ?_
        refine Rj_aload_n (q := 24) d_Sp_takeClauseBreak_23 rfl rfl rfl ?_
        refine Rj_gi (q := 27) (ki := 2) (v := k) gD_Sp_25_2 rfl rfl p2 d_Sp_takeClauseBreak_24 rfl ?_
        refine Rj_iconst (q := 28) d_Sp_takeClauseBreak_27 rfl ?_
        refine Rj_vov (q := 31) (z := y_Sp_fail) (as := [vI k, vI 0]) (rest := []) (la := [vA 2, vI k, vI 0]) oD_2_Sp_fail ml_Sp_55 mw_Sp_fail mv_Sp_fail rfl d_Sp_takeClauseBreak_28 rfl rfl rfl rfl rfl ?_
        refine Rj_aload_n (q := 1) d_Sp_fail_0 rfl rfl rfl ?_
        refine Rj_gi (q := 4) (ki := 3) (v := 0) gD_Sp_28_2 rfl rfl (show m2 2 3 = 0 from c2.2.2.1) d_Sp_fail_1 rfl ?_
        refine Rj_if_ne (q := 7) (t := 19) d_Sp_fail_4 rfl (by decide) (by decide) (fun c => absurd c (by decide)) (fun _ => ?_)
        refine Rj_aload_n (q := 8) d_Sp_fail_7 rfl rfl rfl ?_
        refine Rj_iconst (q := 9) d_Sp_fail_8 rfl ?_
        refine Rj_bipush (q := 11) d_Sp_fail_9 rfl (by decide +kernel) ?_
        refine Rj_iload_n (q := 12) d_Sp_fail_11 rfl rfl rfl ?_
        refine Rj_imul (q := 13) d_Sp_fail_12 rfl ?_
        refine Rj_iadd (q := 14) d_Sp_fail_13 rfl ?_
        refine Rj_iload_n (q := 15) d_Sp_fail_14 rfl rfl rfl ?_
        refine Rj_iadd (q := 16) d_Sp_fail_15 rfl ?_
        refine Rj_pi (q := 19) (ki := 3) pD_Sp_28_2 rfl rfl d_Sp_fail_16 rfl ?_
        refine Rj_vret d_Sp_fail_19 rfl ?_
        refine Rj_iconst (q := 32) d_Sp_takeClauseBreak_31 rfl ?_
        refine Rj_bret0 d_Sp_takeClauseBreak_32 rfl ?_
        refine Rj_if_eq (q := 44) (t := 48) d_Rr_endClause_41 rfl (by decide) (by decide) (fun _ => ?_) (fun c => absurd c (by decide))
        refine Rj_vret d_Rr_endClause_48 rfl ?_
        exact hE ((1 + (8 * k)) + 0) _ (RUN_junk hs hm hb (fun q => c38_3_5 ((ns_sgn t2 (by omega) (by decide)).mpr q)) (by omega)) (Fr.trans fr2 (Fr.put (Fr.put (Fr.refl _ _) (by unfold Wru; omega)) (by unfold Wru; omega))) rfl (by omega)
  · refine Rj_bipush (q := 20) d_Rr_endClause_18 rfl (by decide +kernel) ?_
    refine Rj_goto (t := 25) d_Rr_endClause_20 (by decide) ?_
    refine Rj_vov (q := 28) (z := y_Bo_emit) (as := [vI 20]) (rest := []) (la := [vA 79, vI 20]) oD_79_Bo_emit ml_Rr_108 mw_Bo_emit mv_Bo_emit rfl d_Rr_endClause_25 rfl rfl rfl rfl rfl ?_
    have ect := hIm.2.2.2.2.2.2.1
    have etr : (20 : Int) = trm c' := by unfold trm; rw [if_pos (ect.mpr (by omega))]
    have zl : (([] : List Int).length : Int) = 0 := rfl
    refine s_emit (op := 20) cm.2.2.2.2.2.2.2.2.2.2.1 cm.2.2.2.2.2.2.2.2.2.2.2.1 (cm.2.2.2.2.2.2.2.2.2.2.2.2.trans (nC_len D c')) (by rw [← nC_len]; omega) (fun m2 fm2 lm lm2 => ?_)
    have c2 := cm.next fm2 etr lm lm2
    have t2 : TD m2 A n := c2.1
    have p2 : m2 2 2 = k := c2.2.1
    have fr2 : Fr (Wru r) μ m2 := Fr.trans fm (Fr.wide fm2 (fun c i q => by unfold Wem at q; unfold Wru; omega))
    refine Rj_aload_n (q := 29) d_Rr_endClause_28 rfl rfl rfl ?_
    refine Rj_bipush (q := 31) d_Rr_endClause_29 rfl (by decide +kernel) ?_
    refine Rj_pi (q := 34) (ki := 8) pD_Rr_39_84 rfl rfl d_Rr_endClause_31 rfl ?_
    refine Rj_aload_n (q := 35) d_Rr_endClause_34 rfl rfl rfl ?_
    refine Rj_gr (q := 38) (zd := 2) gD_Rr_15_84 rfl rfl d_Rr_endClause_35 rfl ?_
    refine Rj_vo (q := 41) (z := y_Sp_takeClauseBreak) (as := []) (rest := []) (la := [vA 2]) oD_2_Sp_takeClauseBreak ml_Rr_147 mw_Sp_takeClauseBreak mv_Sp_takeClauseBreak rfl d_Rr_endClause_38 rfl rfl rfl rfl rfl ?_
    refine Rj_aload_n (q := 1) d_Sp_takeClauseBreak_0 rfl rfl rfl ?_
    refine Rj_bipush (q := 3) d_Sp_takeClauseBreak_1 rfl (by decide +kernel) ?_
    refine Rj_vo (q := 6) (z := y_Sp_takeSign) (as := [vI 59]) (rest := []) (la := [vA 2, vI 59]) oD_2_Sp_takeSign ml_Sp_59 mw_Sp_takeSign mv_Sp_takeSign rfl d_Sp_takeClauseBreak_3 rfl rfl rfl rfl rfl ?_
    refine Rj_aload_n (q := 1) d_Sp_takeSign_0 rfl rfl rfl ?_
    refine Rj_vo (q := 4) (z := y_Sp_nextSign) (as := []) (rest := []) (la := [vA 2]) oD_2_Sp_nextSign ml_Sp_31 mw_Sp_nextSign mv_Sp_nextSign rfl d_Sp_takeSign_1 rfl rfl rfl rfl rfl ?_
    refine s_next (μ := (mset m2 84 8 8)) (A := A) (n := n) (k := k) (t2.keep rfl rfl) p2 (by omega) ?_
    rw [hs]
    have v38_3_1 := nsV_rng t2 (k := k) (by omega)
    rw [show nsV (mset m2 84 8 8) n k = nsV m2 n k from rfl]
    refine Rj_eqm (μ' := (mset m2 84 8 8)) (mset_idv p2) ?_
    refine Rj_iload_n (q := 5) d_Sp_takeSign_4 rfl rfl rfl ?_
    refine Rj_icmp_eq (q := 8) (t := 10) d_Sp_takeSign_5 rfl (by decide) ⟨by omega, by omega⟩ (by decide) (fun c38_3_5 => ?_) (fun c38_3_5 => ?_)
    · refine Rj_aload_n (q := 11) d_Sp_takeSign_10 rfl rfl rfl ?_
      refine Rj_dup (q := 12) d_Sp_takeSign_11 rfl (by intro h; cases h) ?_
      refine Rj_gi (q := 15) (ki := 2) (v := k) gD_Sp_25_2 rfl rfl p2 d_Sp_takeSign_12 rfl ?_
      refine Rj_iconst (q := 16) d_Sp_takeSign_15 rfl ?_
      refine Rj_iadd (q := 17) d_Sp_takeSign_16 rfl ?_
      refine Rj_pi (q := 20) (ki := 2) pD_Sp_25_2 rfl rfl d_Sp_takeSign_17 rfl ?_
      refine Rj_iconst (q := 21) d_Sp_takeSign_20 rfl ?_
      refine Rj_bret1 d_Sp_takeSign_21 rfl ?_
      refine Rj_if_eq (q := 9) (t := 11) d_Sp_takeClauseBreak_6 rfl (by decide) (by decide) (fun c => absurd c (by decide)) (fun _ => ?_)
      refine Rj_iconst (q := 10) d_Sp_takeClauseBreak_9 rfl ?_
      refine Rj_bret1 d_Sp_takeClauseBreak_10 rfl ?_
      refine Rj_if_eq (q := 44) (t := 48) d_Rr_endClause_41 rfl (by decide) (by decide) (fun c => absurd c (by decide)) (fun _ => ?_)
      refine Rj_aload_n (q := 45) d_Rr_endClause_44 rfl rfl rfl ?_
      refine Rj_vov (q := 48) (z := y_Rr_startClause) (as := []) (rest := []) (la := [vA 84]) oD_84_Rr_startClause ml_Rr_42 mw_Rr_startClause mv_Rr_startClause rfl d_Rr_endClause_45 rfl rfl rfl rfl rfl ?_
      have hsg : sgn A n k = 59 := (ns_sgn t2 (by omega) (by decide)).mp c38_3_5
      have kn := ((sgn_eq (by decide)).mp hsg).1
      have c3 : RC ((mset (mset m2 84 8 8) 2 2 (k + 1))) A n r (k + 1) [] cl vl 8 (D ++ [c']) ([], none) := c2.upd (Fr.put (Fr.refl _ _) (by omega)) rfl c2.2.2.2.1 c2.2.2.2.2.1 c2.2.2.2.2.2.1 c2.2.2.2.2.2.2.1 c2.2.2.2.2.2.2.2.1 rfl
      have nN := nC_N D c'
      have lN : (((D ++ [c']).length : Nat) : Int) = (D.length : Int) + 1 := by simp
      have zl : (([] : List Int).length : Int) = 0 := rfl
      refine s_startClause c3 (by omega) (by omega) (by omega) (by omega) (fun e m3 a1 a2 a3 a4 => ?_) (fun m3 k3 a1 a2 a3 a4 a5 => ?_)
      · have fr3 : Fr (Wru r) μ m3 := Fr.trans (Fr.trans fr2 (Fr.put (Fr.put (Fr.refl _ _) (by unfold Wru; omega)) (by unfold Wru; omega))) a2
        refine Rj_vret d_Rr_endClause_48 rfl ?_
        exact hE e m3 (RUN_semi hs hm hb hsg es a1) fr3 a3 a4
      · have fr3 : Fr (Wru r) μ m3 := Fr.trans (Fr.trans fr2 (Fr.put (Fr.put (Fr.refl _ _) (by unfold Wru; omega)) (by unfold Wru; omega))) a2
        refine Rj_vret d_Rr_endClause_48 rfl ?_
        exact hG m3 k3 [] (cl + 1) vl 0 (D ++ [c']) ([], none) (fun x g => RUN_semi hs hm hb hsg es (a1 x g)) fr3 a3 a4 (by omega)
    · refine Rj_iconst (q := 9) d_Sp_takeSign_8 rfl ?_
      refine Rj_bret0 d_Sp_takeSign_9 rfl ?_
      refine Rj_if_eq (q := 9) (t := 11) d_Sp_takeClauseBreak_6 rfl (by decide) (by decide) (fun _ => ?_) (fun c => absurd c (by decide))
      refine Rj_aload_n (q := 12) d_Sp_takeClauseBreak_11 rfl rfl rfl ?_
      refine Rj_gi (q := 15) (ki := 2) (v := k) gD_Sp_25_2 rfl rfl p2 d_Sp_takeClauseBreak_12 rfl ?_
      refine Rj_aload_n (q := 16) d_Sp_takeClauseBreak_15 rfl rfl rfl ?_
      refine Rj_gi (q := 19) (ki := 1) (v := n) gD_Sp_21_2 rfl rfl t2.2.1 d_Sp_takeClauseBreak_16 rfl ?_
      refine Rj_icmp_ge (q := 22) (t := 31) d_Sp_takeClauseBreak_19 rfl (by decide) ⟨by omega, by omega⟩ ⟨by omega, by omega⟩ (fun c38_19 => ?_) (fun c38_19 => ?_)
      · refine Rj_iconst (q := 32) d_Sp_takeClauseBreak_31 rfl ?_
        refine Rj_bret0 d_Sp_takeClauseBreak_32 rfl ?_
        refine Rj_if_eq (q := 44) (t := 48) d_Rr_endClause_41 rfl (by decide) (by decide) (fun _ => ?_) (fun c => absurd c (by decide))
        refine Rj_vret d_Rr_endClause_48 rfl ?_
        have nN := nC_N D c'
        have lN : (((D ++ [c']).length : Nat) : Int) = (D.length : Int) + 1 := by simp
        have zl : (([] : List Int).length : Int) = 0 := rfl
        have lf : (((flC (D ++ [c'])).length : Nat) : Int) = nC D c' + 1 := by rw [← nN, nC_len]; simp
        exact hF _ (D ++ [c']) (RUN_end hs hm hb (by omega) es) (Fr.trans fr2 (Fr.put (Fr.refl _ _) (by unfold Wru; omega))) ⟨c2.2.2.1, rfl, by rw [flC_snoc, ← etr]; exact lm, by rw [lf, nC_len]; exact lm2, by omega, by omega, by omega⟩
      · refine Rj_aload_n (q := 23) d_Sp_takeClauseBreak_22 rfl rfl rfl ?_
        refine Rj_aload_n (q := 24) d_Sp_takeClauseBreak_23 rfl rfl rfl ?_
        refine Rj_gi (q := 27) (ki := 2) (v := k) gD_Sp_25_2 rfl rfl p2 d_Sp_takeClauseBreak_24 rfl ?_
        refine Rj_iconst (q := 28) d_Sp_takeClauseBreak_27 rfl ?_
        refine Rj_vov (q := 31) (z := y_Sp_fail) (as := [vI k, vI 0]) (rest := []) (la := [vA 2, vI k, vI 0]) oD_2_Sp_fail ml_Sp_55 mw_Sp_fail mv_Sp_fail rfl d_Sp_takeClauseBreak_28 rfl rfl rfl rfl rfl ?_
        refine Rj_aload_n (q := 1) d_Sp_fail_0 rfl rfl rfl ?_
        refine Rj_gi (q := 4) (ki := 3) (v := 0) gD_Sp_28_2 rfl rfl (show m2 2 3 = 0 from c2.2.2.1) d_Sp_fail_1 rfl ?_
        refine Rj_if_ne (q := 7) (t := 19) d_Sp_fail_4 rfl (by decide) (by decide) (fun c => absurd c (by decide)) (fun _ => ?_)
        refine Rj_aload_n (q := 8) d_Sp_fail_7 rfl rfl rfl ?_
        refine Rj_iconst (q := 9) d_Sp_fail_8 rfl ?_
        refine Rj_bipush (q := 11) d_Sp_fail_9 rfl (by decide +kernel) ?_
        refine Rj_iload_n (q := 12) d_Sp_fail_11 rfl rfl rfl ?_
        refine Rj_imul (q := 13) d_Sp_fail_12 rfl ?_
        refine Rj_iadd (q := 14) d_Sp_fail_13 rfl ?_
        refine Rj_iload_n (q := 15) d_Sp_fail_14 rfl rfl rfl ?_
        refine Rj_iadd (q := 16) d_Sp_fail_15 rfl ?_
        refine Rj_pi (q := 19) (ki := 3) pD_Sp_28_2 rfl rfl d_Sp_fail_16 rfl ?_
        refine Rj_vret d_Sp_fail_19 rfl ?_
        refine Rj_iconst (q := 32) d_Sp_takeClauseBreak_31 rfl ?_
        refine Rj_bret0 d_Sp_takeClauseBreak_32 rfl ?_
        refine Rj_if_eq (q := 44) (t := 48) d_Rr_endClause_41 rfl (by decide) (by decide) (fun _ => ?_) (fun c => absurd c (by decide))
        refine Rj_vret d_Rr_endClause_48 rfl ?_
        exact hE ((1 + (8 * k)) + 0) _ (RUN_junk hs hm hb (fun q => c38_3_5 ((ns_sgn t2 (by omega) (by decide)).mpr q)) (by omega)) (Fr.trans fr2 (Fr.put (Fr.put (Fr.refl _ _) (by unfold Wru; omega)) (by unfold Wru; omega))) rfl (by omega)
