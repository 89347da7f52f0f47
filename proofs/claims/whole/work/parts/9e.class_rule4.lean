theorem oD_84_Rr_settle : OI YD 84 y_Rr_settle := ⟨by decide, _, _, _, cD_84, rfl⟩
theorem pD_Rr_69_2 : PI YD "DoorsOnCogs$RuleReader" 69 2 2 none .int := ⟨by decide, _, _, _, fl_Rr_69, fp_7_2, cD_2, by decide, rfl⟩
theorem oD_84_Rr_joinBy : OI YD 84 y_Rr_joinBy := ⟨by decide, _, _, _, cD_84, rfl⟩
/-! the class reads a rule: signs that join -/
section RCP
variable {μ μ' : Mem} {A : Int → Int} {n r k k' cl vl nx nx' op : Int} {w : List Int} {D : List CLS} {c : CLS}
theorem RC.pop (h : RC μ A n r k (op :: w) cl vl nx D c) (f : Fr (fun c i => c = 84 ∧ 3 ≤ i) μ μ') (a3 : μ' 84 3 = (w.length : Int)) (a4 : μ' 84 4 = dpn w) (a5 : μ' 84 5 = brn w) (a6 : μ' 84 6 = cl) (a7 : μ' 84 7 = vl) (a8 : μ' 84 8 = nx') : RC μ' A n r k w cl vl nx' D c := by
  obtain ⟨hT, hk, hf0, h3, h4, h5, h6, h7, h8, hW, hr, hL, hl⟩ := h
  exact ⟨hT.keep (f 2 1 (by omega)) (f.row (fun i q => by omega)), (f 2 2 (by omega)).trans hk, (f 2 3 (by omega)).trans hf0, a3, a4, a5, a6, a7, a8, WST_keep hW.2 (fun i i0 i1 => f 85 i (by omega)), ⟨(f 79 1 (by omega)).trans hr.1, hr.2⟩, LST_keep hL (fun i i0 i1 => f 80 i (by omega)), (f 81 r (by omega)).trans hl⟩
theorem cuC_if {a : CLS} (h : a.2 = none) : cuC (a.1, some []) = cuC a := by
  unfold cuC; rw [h]; rfl
theorem RC.iff {a : CLS} (ha : a.2 = none) (h : RC μ A n r k w cl vl nx D a) : RC μ A n r k w cl vl nx D (a.1, some []) := by
  unfold RC nC at *
  rw [cuC_if ha]; exact h
theorem IV.iff {a : CLS} (ha : a.2 = none) (h : IV n k w cl vl nx D a) (hx : 2 ≤ nx' ∧ nx' ≤ 7) : IV n k w cl vl nx' D (a.1, some []) := by
  obtain ⟨h1, h2, h3, h4, h5, h6, h7⟩ := h
  refine ⟨h1, h2, h3, ?_, h5, by omega, ⟨fun q => absurd q (by simp), fun q => by omega⟩, fun q => by omega⟩
  unfold nC at *
  rw [cuC_if ha]; exact h4
end RCP
theorem bnd_rng {op : Int} (h : 8 ≤ op ∧ op ≤ 19) : 1 ≤ bnd op ∧ bnd op ≤ 6 := by
  unfold bnd
  (repeat' split) <;> omega
set_option maxHeartbeats 4000000 in
theorem s_joinBy {μ : Mem} {Q : PV → Mem → Prop} {A : Int → Int} {n r k cl vl nx : Int} {w : List Int} {D : List CLS} {c : CLS} {op nx' : Int} {w' : List Int} {c' : CLS} (hC : RC μ A n r k w cl vl nx D c) (hI : IV n k w cl vl nx D c) (ho : 8 ≤ op ∧ op ≤ 18) (es : stl (bnd op) w c = (w', c')) (hQ : ∀ μ', Fr (Wru r) μ μ' → RC μ' A n r k (op :: w') cl vl nx' D c' → Q vU μ') : Rj YD y_Rr_joinBy 0 [vA 84, vI op, vI nx'] [] μ Q := by
  obtain ⟨hT, hk, hf0, h3, h4, h5, h6, h7, h8, hW, hr, hL, hl⟩ := id hC
  obtain ⟨i1, i2, i3, i4, i5, i6, i7, i8⟩ := id hI
  have hn := hT.2.1
  have hX := hT.1.1
  have dw := dpn_bd w
  have bw := brn_bd w
  have nn := nC_nn D c
  have ob := bnd_rng (op := op) (by omega)
  refine Rj_aload_n (q := 1) d_Rr_joinBy_0 rfl rfl rfl ?_
  refine Rj_iload_n (q := 2) d_Rr_joinBy_1 rfl rfl rfl ?_
  refine Rj_vov (q := 5) (z := y_Rr_settle) (as := [vI op]) (rest := []) (la := [vA 84, vI op]) oD_84_Rr_settle ml_Rr_127 mw_Rr_settle mv_Rr_settle rfl d_Rr_joinBy_2 rfl rfl rfl rfl rfl ?_
  refine s_settle (b := bnd op) hC hI (by omega) rfl ob (fun m fm cm => ?_)
  rw [es] at cm
  dsimp only at cm
  have hIm := hI.settE es
  have xm := hIm.2.2.2.1
  have ym := hIm.1
  have zm := nC_nn D c'
  have dprm := dpn_bd (w')
  have bprm := brn_bd (w')
  refine Rj_aload_n (q := 6) d_Rr_joinBy_5 rfl rfl rfl ?_
  refine Rj_iload_n (q := 7) d_Rr_joinBy_6 rfl rfl rfl ?_
  refine Rj_vov (q := 10) (z := y_Rr_hold) (as := [vI op]) (rest := []) (la := [vA 84, vI op]) oD_84_Rr_hold ml_Rr_89 mw_Rr_hold mv_Rr_hold rfl d_Rr_joinBy_7 rfl rfl rfl rfl rfl ?_
  refine Rj_aload_n (q := 1) d_Rr_hold_0 rfl rfl rfl ?_
  refine Rj_gi (q := 4) (ki := 3) (v := ((w').length : Int)) gD_Rr_23_84 rfl rfl cm.2.2.2.1 d_Rr_hold_1 rfl ?_
  refine Rj_aload_n (q := 5) d_Rr_hold_4 rfl rfl rfl ?_
  refine Rj_gr (q := 8) (zd := 85) gD_Rr_9_84 rfl rfl d_Rr_hold_5 rfl ?_
  refine Rj_al (q := 9) (zn := 400) aD_85 rfl rfl d_Rr_hold_8 rfl ?_
  refine Rj_icmp_ge (q := 12) (t := 58) d_Rr_hold_9 rfl (by decide) ⟨by omega, by omega⟩ (by decide) (fun c7_9 => ?_) (fun c7_9 => ?_)
  · exact absurd c7_9 (by omega)
  · refine Rj_aload_n (q := 13) d_Rr_hold_12 rfl rfl rfl ?_
    refine Rj_gr (q := 16) (zd := 85) gD_Rr_9_84 rfl rfl d_Rr_hold_13 rfl ?_
    refine Rj_aload_n (q := 17) d_Rr_hold_16 rfl rfl rfl ?_
    refine Rj_gi (q := 20) (ki := 3) (v := ((w').length : Int)) gD_Rr_23_84 rfl rfl cm.2.2.2.1 d_Rr_hold_17 rfl ?_
    refine Rj_iload_n (q := 21) d_Rr_hold_20 rfl rfl rfl ?_
    refine Rj_is (q := 22) aD_85 rfl (by omega) d_Rr_hold_21 rfl ?_
    refine Rj_aload_n (q := 23) d_Rr_hold_22 rfl rfl rfl ?_
    refine Rj_dup (q := 24) d_Rr_hold_23 rfl (by intro h; cases h) ?_
    refine Rj_gi (q := 27) (ki := 3) (v := ((w').length : Int)) gD_Rr_23_84 rfl rfl cm.2.2.2.1 d_Rr_hold_24 rfl ?_
    refine Rj_iconst (q := 28) d_Rr_hold_27 rfl ?_
    refine Rj_iadd (q := 29) d_Rr_hold_28 rfl ?_
    refine Rj_pi (q := 32) (ki := 3) pD_Rr_23_84 rfl rfl d_Rr_hold_29 rfl ?_
    refine Rj_aload_n (q := 33) d_Rr_hold_32 rfl rfl rfl ?_
    refine Rj_dup (q := 34) d_Rr_hold_33 rfl (by intro h; cases h) ?_
    refine Rj_gi (q := 37) (ki := 4) (v := dpn (w')) gD_Rr_27_84 rfl rfl cm.2.2.2.2.1 d_Rr_hold_34 rfl ?_
    refine Rj_iload_n (q := 38) d_Rr_hold_37 rfl rfl rfl ?_
    refine Rj_bipush (q := 40) d_Rr_hold_38 rfl (by decide +kernel) ?_
    refine Rj_icmp_eq (q := 43) (t := 49) d_Rr_hold_40 rfl (by decide) ⟨by omega, by omega⟩ (by decide) (fun c7_40 => ?_) (fun c7_40 => ?_)
    · exact absurd c7_40 (by omega)
    · refine Rj_iload_n (q := 44) d_Rr_hold_43 rfl rfl rfl ?_
      refine Rj_bipush (q := 46) d_Rr_hold_44 rfl (by decide +kernel) ?_
      refine Rj_icmp_ne (q := 49) (t := 53) d_Rr_hold_46 rfl (by decide) ⟨by omega, by omega⟩ (by decide) (fun c7_46 => ?_) (fun c7_46 => ?_)
      · refine Rj_iconst (q := 54) d_Rr_hold_53 rfl ?_
        refine Rj_iadd (q := 55) d_Rr_hold_54 rfl ?_
        refine Rj_pi (q := 58) (ki := 4) pD_Rr_27_84 rfl rfl d_Rr_hold_55 rfl ?_
        refine Rj_vret d_Rr_hold_58 rfl ?_
        refine Rj_aload_n (q := 11) d_Rr_joinBy_10 rfl rfl rfl ?_
        refine Rj_iload_n (q := 12) d_Rr_joinBy_11 rfl rfl rfl ?_
        refine Rj_pi (q := 15) (ki := 8) pD_Rr_39_84 rfl rfl d_Rr_joinBy_12 rfl ?_
        refine Rj_vret d_Rr_joinBy_15 rfl ?_
        exact hQ _ (Fr.trans fm (Fr.put (Fr.put (Fr.put (Fr.put (Fr.refl _ _) (by unfold Wru; omega)) (by unfold Wru; omega)) (by unfold Wru; omega)) (by unfold Wru; omega))) (cm.push (op := op) (Fr.put (Fr.put (Fr.put (Fr.put (Fr.refl _ _) (by omega)) (by omega)) (by omega)) (by omega)) (show m 2 2 = k from cm.2.1) rfl (by rw [if_neg (by omega)]; rfl) (by rw [if_neg (by omega)]; exact cm.2.2.2.2.2.1.trans (Int.add_zero _).symm) (show m 84 6 = cl from cm.2.2.2.2.2.2.1) (show m 84 7 = vl from cm.2.2.2.2.2.2.2.1) rfl (mset_same _ _ _ _))
      · exact absurd c7_46 (by omega)
theorem IV.push_v {n k k' cl vl vl' nx op : Int} {w : List Int} {D : List CLS} {c : CLS} (h : IV n k w cl vl nx D c) (ho : okw op) (hx : nx ≤ 1 → op ≠ 22) (hk : k + 1 ≤ k') (hk' : k' ≤ n) (hv : 0 ≤ vl' ∧ vl' ≤ 60) : IV n k' (op :: w) cl vl' nx D c := by
  obtain ⟨h1, h2, h3, h4, h5, h6, h7⟩ := h.push ho hx hk hk'
  exact ⟨h1, h2, hv, h4, h5, h6, h7⟩
set_option maxHeartbeats 4000000 in
theorem s_readComparison {μ : Mem} {Q : PV → Mem → Prop} {A : Int → Int} {n r k cl vl : Int} {w : List Int} {D : List CLS} {c : CLS} (hC : RC μ A n r k w cl vl 3 D c) (hI : IV n k w cl vl 3 D c) (hs : sk A n k = k) (hnr : ¬ 0 ≤ recOp (sgn A n k)) (hE : ∀ e μ', RUN A n k w cl vl 3 D c (.error e) → Fr (Wru r) μ μ' → μ' 2 3 = e → (1 ≤ e ∧ e ≤ 5000) → Q vU μ') (hG : ∀ μ' k' w' cl' vl' nx' D' c', (∀ x, RUN A n k' w' cl' vl' nx' D' c' x → RUN A n k w cl vl 3 D c x) → Fr (Wru r) μ μ' → RC μ' A n r k' w' cl' vl' nx' D' c' → IV n k' w' cl' vl' nx' D' c' → k < k' → Q vU μ') : Rj YD y_Rr_readComparison 0 [vA 84, vI (nsV μ n k)] [] μ Q := by
  obtain ⟨hT, hk, hf0, h3, h4, h5, h6, h7, h8, hW, hr, hL, hl⟩ := id hC
  obtain ⟨i1, i2, i3, i4, i5, i6, i7, i8⟩ := id hI
  have hn := hT.2.1
  have hX := hT.1.1
  have dw := dpn_bd w
  have bw := brn_bd w
  have nn := nC_nn D c
  have vk := nsV_rng hT (k := k) (by omega)
  refine Rj_aload_n (q := 1) d_Rr_readComparison_0 rfl rfl rfl ?_
  refine Rj_gr (q := 4) (zd := 2) gD_Rr_15_84 rfl rfl d_Rr_readComparison_1 rfl ?_
  refine Rj_aload_n (q := 5) d_Rr_readComparison_4 rfl rfl rfl ?_
  refine Rj_gr (q := 8) (zd := 2) gD_Rr_15_84 rfl rfl d_Rr_readComparison_5 rfl ?_
  refine Rj_gi (q := 11) (ki := 2) (v := k) gD_Rr_69_2 rfl rfl hk d_Rr_readComparison_8 rfl ?_
  refine Rj_iconst (q := 12) d_Rr_readComparison_11 rfl ?_
  refine Rj_iadd (q := 13) d_Rr_readComparison_12 rfl ?_
  refine Rj_vo (q := 16) (z := y_Sp_byteAt) (as := [vI (k + 1)]) (rest := []) (la := [vA 2, vI (k + 1)]) oD_2_Sp_byteAt ml_Rr_140 mw_Sp_byteAt mv_Sp_byteAt rfl d_Rr_readComparison_13 rfl rfl rfl rfl rfl ?_
  refine s_byteAt (A := A) (n := n) hT (by omega) ?_
  have bv := nsV_rng hT (k := k + 1) (by omega)
  refine Rj_bipush (q := 18) d_Rr_readComparison_16 rfl (by decide +kernel) ?_
  refine Rj_icmp_ne (q := 21) (t := 25) d_Rr_readComparison_18 rfl (by decide) ⟨by omega, by omega⟩ (by decide) (fun c18 => ?_) (fun c18 => ?_)
  · refine Rj_iconst (q := 26) d_Rr_readComparison_25 rfl ?_
    refine Rj_istore_n (q := 27) (ls' := [vA 84, vI (nsV μ n k), vI 0]) d_Rr_readComparison_26 rfl rfl (by decide) rfl ?_
    refine Rj_iload_n (q := 28) d_Rr_readComparison_27 rfl rfl rfl ?_
    refine Rj_iload_n (q := 29) d_Rr_readComparison_28 rfl rfl rfl ?_
    refine Rj_cs (q := 32) (z := y_Bo_comparisonOf) (as := [vI (nsV μ n k), vI 0]) (rest := []) (la := [vI (nsV μ n k), vI 0]) ml_Rr_143 mw_Bo_comparisonOf ms_Bo_comparisonOf d_Rr_readComparison_29 rfl rfl rfl rfl rfl ?_
    refine Rj_iload_n (q := 1) d_Bo_comparisonOf_0 rfl rfl rfl ?_
    rcases (show nsV μ n k = 60 ∨ nsV μ n k = 61 ∨ nsV μ n k = 62 ∨ (nsV μ n k < 60 ∨ 62 < nsV μ n k) by omega) with hs1 | hs1 | hs1 | hs1
    · refine Rj_tsI (t := 28) d_Bo_comparisonOf_1 ⟨by omega, by omega⟩ (by omega) (by omega) (by rw [hs1]; rfl) (by decide) ?_
      refine Rj_iload_n (q := 29) d_Bo_comparisonOf_28 rfl rfl rfl ?_
      refine Rj_if_eq (q := 32) (t := 37) d_Bo_comparisonOf_29 rfl (by decide) (by decide) (fun _ => ?_) (fun c => absurd c (by decide))
      refine Rj_bipush (q := 39) d_Bo_comparisonOf_37 rfl (by decide +kernel) ?_
      refine Rj_iret d_Bo_comparisonOf_39 rfl ?_
      refine Rj_istore_n (q := 33) (ls' := [vA 84, vI (nsV μ n k), vI 0, vI 12]) d_Rr_readComparison_32 rfl rfl (by decide) rfl ?_
      refine Rj_iload_n (q := 34) d_Rr_readComparison_33 rfl rfl rfl ?_
      refine Rj_iconst (q := 35) d_Rr_readComparison_34 rfl ?_
      refine Rj_icmp_ne (q := 38) (t := 56) d_Rr_readComparison_35 rfl (by decide) (by decide) (by decide) (fun _ => ?_) (fun c => absurd c (by decide))
      refine Rj_aload_n (q := 57) d_Rr_readComparison_56 rfl rfl rfl ?_
      refine Rj_aload_n (q := 58) d_Rr_readComparison_57 rfl rfl rfl ?_
      refine Rj_gr (q := 61) (zd := 2) gD_Rr_15_84 rfl rfl d_Rr_readComparison_58 rfl ?_
      refine Rj_gi (q := 64) (ki := 2) (v := k) gD_Rr_69_2 rfl rfl hk d_Rr_readComparison_61 rfl ?_
      refine Rj_vo (q := 67) (z := y_Rr_isRoomForValue) (as := [vI k]) (rest := []) (la := [vA 84, vI k]) oD_84_Rr_isRoomForValue ml_Rr_104 mw_Rr_isRoomForValue mv_Rr_isRoomForValue rfl d_Rr_readComparison_64 rfl rfl rfl rfl rfl ?_
      refine Rj_aload_n (q := 1) d_Rr_isRoomForValue_0 rfl rfl rfl ?_
      refine Rj_gi (q := 4) (ki := 7) (v := vl) gD_Rr_36_84 rfl rfl h7 d_Rr_isRoomForValue_1 rfl ?_
      refine Rj_bipush (q := 6) d_Rr_isRoomForValue_4 rfl (by decide +kernel) ?_
      refine Rj_icmp_lt (q := 9) (t := 20) d_Rr_isRoomForValue_6 rfl (by decide) ⟨by omega, by omega⟩ (by decide) (fun c64_6 => ?_) (fun c64_6 => ?_)
      · refine Rj_aload_n (q := 21) d_Rr_isRoomForValue_20 rfl rfl rfl ?_
        refine Rj_dup (q := 22) d_Rr_isRoomForValue_21 rfl (by intro h; cases h) ?_
        refine Rj_gi (q := 25) (ki := 7) (v := vl) gD_Rr_36_84 rfl rfl h7 d_Rr_isRoomForValue_22 rfl ?_
        refine Rj_iconst (q := 26) d_Rr_isRoomForValue_25 rfl ?_
        refine Rj_iadd (q := 27) d_Rr_isRoomForValue_26 rfl ?_
        refine Rj_pi (q := 30) (ki := 7) pD_Rr_36_84 rfl rfl d_Rr_isRoomForValue_27 rfl ?_
        refine Rj_iconst (q := 31) d_Rr_isRoomForValue_30 rfl ?_
        refine Rj_bret1 d_Rr_isRoomForValue_31 rfl ?_
        refine Rj_if_eq (q := 70) (t := 105) d_Rr_readComparison_67 rfl (by decide) (by decide) (fun c => absurd c (by decide)) (fun _ => ?_)
        refine Rj_aload_n (q := 71) d_Rr_readComparison_70 rfl rfl rfl ?_
        refine Rj_gr (q := 74) (zd := 2) gD_Rr_15_84 rfl rfl d_Rr_readComparison_71 rfl ?_
        refine Rj_dup (q := 75) d_Rr_readComparison_74 rfl (by intro h; cases h) ?_
        refine Rj_gi (q := 78) (ki := 2) (v := k) gD_Rr_69_2 rfl rfl hk d_Rr_readComparison_75 rfl ?_
        refine Rj_iload_n (q := 79) d_Rr_readComparison_78 rfl rfl rfl ?_
        refine Rj_bipush (q := 81) d_Rr_readComparison_79 rfl (by decide +kernel) ?_
        refine Rj_icmp_eq (q := 84) (t := 90) d_Rr_readComparison_81 rfl (by decide) (by decide) (by decide) (fun c => absurd c (by decide)) (fun _ => ?_)
        refine Rj_iload_n (q := 85) d_Rr_readComparison_84 rfl rfl rfl ?_
        refine Rj_bipush (q := 87) d_Rr_readComparison_85 rfl (by decide +kernel) ?_
        refine Rj_icmp_ne (q := 90) (t := 94) d_Rr_readComparison_87 rfl (by decide) (by decide) (by decide) (fun _ => ?_) (fun c => absurd c (by decide))
        refine Rj_iconst (q := 95) d_Rr_readComparison_94 rfl ?_
        refine Rj_iadd (q := 96) d_Rr_readComparison_95 rfl ?_
        refine Rj_pi (q := 99) (ki := 2) pD_Rr_69_2 rfl rfl d_Rr_readComparison_96 rfl ?_
        refine Rj_aload_n (q := 100) d_Rr_readComparison_99 rfl rfl rfl ?_
        refine Rj_iload_n (q := 101) d_Rr_readComparison_100 rfl rfl rfl ?_
        refine Rj_iconst (q := 102) d_Rr_readComparison_101 rfl ?_
        refine Rj_vov (q := 105) (z := y_Rr_joinBy) (as := [vI 12, vI 4]) (rest := []) (la := [vA 84, vI 12, vI 4]) oD_84_Rr_joinBy ml_Rr_119 mw_Rr_joinBy mv_Rr_joinBy rfl d_Rr_readComparison_102 rfl rfl rfl rfl rfl ?_
        have hop : cmpOp (sgn A n k) (decide (sgn A n (k + 1) = 61)) = 12 := by rw [← cmp_ns hT (by omega), hs1, show decide (sgn A n (k + 1) = 61) = false from decide_eq_false (fun q => c18 ((ns_sgn hT (by omega) (by decide)).mpr q))]; rfl
        have kn : k < n := by have q := vk.2.1; omega
        have cv : RC ((mset (mset μ 84 7 (vl + 1)) 2 2 (k + 1))) A n r (k + 1) w cl (vl + 1) 3 D c := hC.upd (Fr.put (Fr.put (Fr.refl _ _) (by omega)) (by omega)) rfl h3 h4 h5 h6 rfl h8
        have iv : IV n (k + 1) w cl (vl + 1) 3 D c := by obtain ⟨a1, a2, a3, a4, a5, a6, a7, a8⟩ := id hI; exact ⟨by omega, a2, by omega, by omega, a5, a6, a7, a8⟩
        refine s_joinBy (op := 12) (nx' := 4) cv iv (by decide) rfl (fun m fm cm => ?_)
        have frm : Fr (Wru r) μ m := Fr.trans (Fr.put (Fr.put (Fr.refl _ _) (by unfold Wru; omega)) (by unfold Wru; omega)) fm
        refine Rj_vret d_Rr_readComparison_105 rfl ?_
        exact hG _ (k + 1) (12 :: (stl 4 w c).1) cl (vl + 1) 4 D (stl 4 w c).2 (fun x g => RUN_cmp hs hnr hop (by decide) (by omega) (by rw [if_neg (by decide)]) rfl g) frm cm (((hI.sett (b := 4)).push_v (by decide) (fun q => absurd q (by decide)) (by omega) (by omega) (by omega)).at (by decide) (by decide)) (by omega)
      · refine Rj_aload_n (q := 10) d_Rr_isRoomForValue_9 rfl rfl rfl ?_
        refine Rj_gr (q := 13) (zd := 2) gD_Rr_15_84 rfl rfl d_Rr_isRoomForValue_10 rfl ?_
        refine Rj_iload_n (q := 14) d_Rr_isRoomForValue_13 rfl rfl rfl ?_
        refine Rj_iconst (q := 15) d_Rr_isRoomForValue_14 rfl ?_
        refine Rj_vov (q := 18) (z := y_Sp_fail) (as := [vI k, vI 3]) (rest := []) (la := [vA 2, vI k, vI 3]) oD_2_Sp_fail ml_Rr_72 mw_Sp_fail mv_Sp_fail rfl d_Rr_isRoomForValue_15 rfl rfl rfl rfl rfl ?_
        refine Rj_aload_n (q := 1) d_Sp_fail_0 rfl rfl rfl ?_
        refine Rj_gi (q := 4) (ki := 3) (v := 0) gD_Sp_28_2 rfl rfl hf0 d_Sp_fail_1 rfl ?_
        refine Rj_if_ne (q := 7) (t := 19) d_Sp_fail_4 rfl (by decide) (by decide) (fun c => absurd c (by decide)) (fun _ => ?_)
        refine Rj_aload_n (q := 8) d_Sp_fail_7 rfl rfl rfl ?_
        refine Rj_iconst (q := 9) d_Sp_fail_8 rfl ?_
        refine Rj_bipush (q := 11) d_Sp_fail_9 rfl (by decide +kernel) ?_
        refine Rj_iload_n (q := 12) d_Sp_fail_11 rfl rfl rfl ?_
        refine Rj_imul (q := 13) d_Sp_fail_12 rfl ?_
        refine Rj_iadd (q := 14) d_Sp_fail_13 rfl ?_
        refine Rj_iload_n (q := 15) d_Sp_fail_14 rfl rfl rfl ?_
        refine Rj_iadd (q := 16) d_Sp_fail_15 rfl ?_
        refine Rj_pi (q := 19) (ki := 3) pD_Sp_28_2 rfl rfl d_Sp_fail_16 rfl ?_
        refine Rj_vret d_Sp_fail_19 rfl ?_
        refine Rj_iconst (q := 19) d_Rr_isRoomForValue_18 rfl ?_
        refine Rj_bret0 d_Rr_isRoomForValue_19 rfl ?_
        refine Rj_if_eq (q := 70) (t := 105) d_Rr_readComparison_67 rfl (by decide) (by decide) (fun _ => ?_) (fun c => absurd c (by decide))
        refine Rj_vret d_Rr_readComparison_105 rfl ?_
        have hop : cmpOp (sgn A n k) (decide (sgn A n (k + 1) = 61)) = 12 := by rw [← cmp_ns hT (by omega), hs1, show decide (sgn A n (k + 1) = 61) = false from decide_eq_false (fun q => c18 ((ns_sgn hT (by omega) (by decide)).mpr q))]; rfl
        exact hE ((1 + (8 * k)) + 3) _ (RUN_cmany hs hnr (by rw [hop]; decide) (by omega)) (Fr.put (Fr.refl _ _) (by unfold Wru; omega)) rfl (by omega)
    · refine Rj_tsI (t := 52) d_Bo_comparisonOf_1 ⟨by omega, by omega⟩ (by omega) (by omega) (by rw [hs1]; rfl) (by decide) ?_
      refine Rj_bipush (q := 54) d_Bo_comparisonOf_52 rfl (by decide +kernel) ?_
      refine Rj_iret d_Bo_comparisonOf_54 rfl ?_
      refine Rj_istore_n (q := 33) (ls' := [vA 84, vI (nsV μ n k), vI 0, vI 14]) d_Rr_readComparison_32 rfl rfl (by decide) rfl ?_
      refine Rj_iload_n (q := 34) d_Rr_readComparison_33 rfl rfl rfl ?_
      refine Rj_iconst (q := 35) d_Rr_readComparison_34 rfl ?_
      refine Rj_icmp_ne (q := 38) (t := 56) d_Rr_readComparison_35 rfl (by decide) (by decide) (by decide) (fun _ => ?_) (fun c => absurd c (by decide))
      refine Rj_aload_n (q := 57) d_Rr_readComparison_56 rfl rfl rfl ?_
      refine Rj_aload_n (q := 58) d_Rr_readComparison_57 rfl rfl rfl ?_
      refine Rj_gr (q := 61) (zd := 2) gD_Rr_15_84 rfl rfl d_Rr_readComparison_58 rfl ?_
      refine Rj_gi (q := 64) (ki := 2) (v := k) gD_Rr_69_2 rfl rfl hk d_Rr_readComparison_61 rfl ?_
      refine Rj_vo (q := 67) (z := y_Rr_isRoomForValue) (as := [vI k]) (rest := []) (la := [vA 84, vI k]) oD_84_Rr_isRoomForValue ml_Rr_104 mw_Rr_isRoomForValue mv_Rr_isRoomForValue rfl d_Rr_readComparison_64 rfl rfl rfl rfl rfl ?_
      refine Rj_aload_n (q := 1) d_Rr_isRoomForValue_0 rfl rfl rfl ?_
      refine Rj_gi (q := 4) (ki := 7) (v := vl) gD_Rr_36_84 rfl rfl h7 d_Rr_isRoomForValue_1 rfl ?_
      refine Rj_bipush (q := 6) d_Rr_isRoomForValue_4 rfl (by decide +kernel) ?_
      refine Rj_icmp_lt (q := 9) (t := 20) d_Rr_isRoomForValue_6 rfl (by decide) ⟨by omega, by omega⟩ (by decide) (fun c64_6 => ?_) (fun c64_6 => ?_)
      · refine Rj_aload_n (q := 21) d_Rr_isRoomForValue_20 rfl rfl rfl ?_
        refine Rj_dup (q := 22) d_Rr_isRoomForValue_21 rfl (by intro h; cases h) ?_
        refine Rj_gi (q := 25) (ki := 7) (v := vl) gD_Rr_36_84 rfl rfl h7 d_Rr_isRoomForValue_22 rfl ?_
        refine Rj_iconst (q := 26) d_Rr_isRoomForValue_25 rfl ?_
        refine Rj_iadd (q := 27) d_Rr_isRoomForValue_26 rfl ?_
        refine Rj_pi (q := 30) (ki := 7) pD_Rr_36_84 rfl rfl d_Rr_isRoomForValue_27 rfl ?_
        refine Rj_iconst (q := 31) d_Rr_isRoomForValue_30 rfl ?_
        refine Rj_bret1 d_Rr_isRoomForValue_31 rfl ?_
        refine Rj_if_eq (q := 70) (t := 105) d_Rr_readComparison_67 rfl (by decide) (by decide) (fun c => absurd c (by decide)) (fun _ => ?_)
        refine Rj_aload_n (q := 71) d_Rr_readComparison_70 rfl rfl rfl ?_
        refine Rj_gr (q := 74) (zd := 2) gD_Rr_15_84 rfl rfl d_Rr_readComparison_71 rfl ?_
        refine Rj_dup (q := 75) d_Rr_readComparison_74 rfl (by intro h; cases h) ?_
        refine Rj_gi (q := 78) (ki := 2) (v := k) gD_Rr_69_2 rfl rfl hk d_Rr_readComparison_75 rfl ?_
        refine Rj_iload_n (q := 79) d_Rr_readComparison_78 rfl rfl rfl ?_
        refine Rj_bipush (q := 81) d_Rr_readComparison_79 rfl (by decide +kernel) ?_
        refine Rj_icmp_eq (q := 84) (t := 90) d_Rr_readComparison_81 rfl (by decide) (by decide) (by decide) (fun c => absurd c (by decide)) (fun _ => ?_)
        refine Rj_iload_n (q := 85) d_Rr_readComparison_84 rfl rfl rfl ?_
        refine Rj_bipush (q := 87) d_Rr_readComparison_85 rfl (by decide +kernel) ?_
        refine Rj_icmp_ne (q := 90) (t := 94) d_Rr_readComparison_87 rfl (by decide) (by decide) (by decide) (fun _ => ?_) (fun c => absurd c (by decide))
        refine Rj_iconst (q := 95) d_Rr_readComparison_94 rfl ?_
        refine Rj_iadd (q := 96) d_Rr_readComparison_95 rfl ?_
        refine Rj_pi (q := 99) (ki := 2) pD_Rr_69_2 rfl rfl d_Rr_readComparison_96 rfl ?_
        refine Rj_aload_n (q := 100) d_Rr_readComparison_99 rfl rfl rfl ?_
        refine Rj_iload_n (q := 101) d_Rr_readComparison_100 rfl rfl rfl ?_
        refine Rj_iconst (q := 102) d_Rr_readComparison_101 rfl ?_
        refine Rj_vov (q := 105) (z := y_Rr_joinBy) (as := [vI 14, vI 4]) (rest := []) (la := [vA 84, vI 14, vI 4]) oD_84_Rr_joinBy ml_Rr_119 mw_Rr_joinBy mv_Rr_joinBy rfl d_Rr_readComparison_102 rfl rfl rfl rfl rfl ?_
        have hop : cmpOp (sgn A n k) (decide (sgn A n (k + 1) = 61)) = 14 := by rw [← cmp_ns hT (by omega), hs1, show decide (sgn A n (k + 1) = 61) = false from decide_eq_false (fun q => c18 ((ns_sgn hT (by omega) (by decide)).mpr q))]; rfl
        have kn : k < n := by have q := vk.2.1; omega
        have cv : RC ((mset (mset μ 84 7 (vl + 1)) 2 2 (k + 1))) A n r (k + 1) w cl (vl + 1) 3 D c := hC.upd (Fr.put (Fr.put (Fr.refl _ _) (by omega)) (by omega)) rfl h3 h4 h5 h6 rfl h8
        have iv : IV n (k + 1) w cl (vl + 1) 3 D c := by obtain ⟨a1, a2, a3, a4, a5, a6, a7, a8⟩ := id hI; exact ⟨by omega, a2, by omega, by omega, a5, a6, a7, a8⟩
        refine s_joinBy (op := 14) (nx' := 4) cv iv (by decide) rfl (fun m fm cm => ?_)
        have frm : Fr (Wru r) μ m := Fr.trans (Fr.put (Fr.put (Fr.refl _ _) (by unfold Wru; omega)) (by unfold Wru; omega)) fm
        refine Rj_vret d_Rr_readComparison_105 rfl ?_
        exact hG _ (k + 1) (14 :: (stl 4 w c).1) cl (vl + 1) 4 D (stl 4 w c).2 (fun x g => RUN_cmp hs hnr hop (by decide) (by omega) (by rw [if_neg (by decide)]) rfl g) frm cm (((hI.sett (b := 4)).push_v (by decide) (fun q => absurd q (by decide)) (by omega) (by omega) (by omega)).at (by decide) (by decide)) (by omega)
      · refine Rj_aload_n (q := 10) d_Rr_isRoomForValue_9 rfl rfl rfl ?_
        refine Rj_gr (q := 13) (zd := 2) gD_Rr_15_84 rfl rfl d_Rr_isRoomForValue_10 rfl ?_
        refine Rj_iload_n (q := 14) d_Rr_isRoomForValue_13 rfl rfl rfl ?_
        refine Rj_iconst (q := 15) d_Rr_isRoomForValue_14 rfl ?_
        refine Rj_vov (q := 18) (z := y_Sp_fail) (as := [vI k, vI 3]) (rest := []) (la := [vA 2, vI k, vI 3]) oD_2_Sp_fail ml_Rr_72 mw_Sp_fail mv_Sp_fail rfl d_Rr_isRoomForValue_15 rfl rfl rfl rfl rfl ?_
        refine Rj_aload_n (q := 1) d_Sp_fail_0 rfl rfl rfl ?_
        refine Rj_gi (q := 4) (ki := 3) (v := 0) gD_Sp_28_2 rfl rfl hf0 d_Sp_fail_1 rfl ?_
        refine Rj_if_ne (q := 7) (t := 19) d_Sp_fail_4 rfl (by decide) (by decide) (fun c => absurd c (by decide)) (fun _ => ?_)
        refine Rj_aload_n (q := 8) d_Sp_fail_7 rfl rfl rfl ?_
        refine Rj_iconst (q := 9) d_Sp_fail_8 rfl ?_
        refine Rj_bipush (q := 11) d_Sp_fail_9 rfl (by decide +kernel) ?_
        refine Rj_iload_n (q := 12) d_Sp_fail_11 rfl rfl rfl ?_
        refine Rj_imul (q := 13) d_Sp_fail_12 rfl ?_
        refine Rj_iadd (q := 14) d_Sp_fail_13 rfl ?_
        refine Rj_iload_n (q := 15) d_Sp_fail_14 rfl rfl rfl ?_
        refine Rj_iadd (q := 16) d_Sp_fail_15 rfl ?_
        refine Rj_pi (q := 19) (ki := 3) pD_Sp_28_2 rfl rfl d_Sp_fail_16 rfl ?_
        refine Rj_vret d_Sp_fail_19 rfl ?_
        refine Rj_iconst (q := 19) d_Rr_isRoomForValue_18 rfl ?_
        refine Rj_bret0 d_Rr_isRoomForValue_19 rfl ?_
        refine Rj_if_eq (q := 70) (t := 105) d_Rr_readComparison_67 rfl (by decide) (by decide) (fun _ => ?_) (fun c => absurd c (by decide))
        refine Rj_vret d_Rr_readComparison_105 rfl ?_
        have hop : cmpOp (sgn A n k) (decide (sgn A n (k + 1) = 61)) = 14 := by rw [← cmp_ns hT (by omega), hs1, show decide (sgn A n (k + 1) = 61) = false from decide_eq_false (fun q => c18 ((ns_sgn hT (by omega) (by decide)).mpr q))]; rfl
        exact hE ((1 + (8 * k)) + 3) _ (RUN_cmany hs hnr (by rw [hop]; decide) (by omega)) (Fr.put (Fr.refl _ _) (by unfold Wru; omega)) rfl (by omega)
    · refine Rj_tsI (t := 40) d_Bo_comparisonOf_1 ⟨by omega, by omega⟩ (by omega) (by omega) (by rw [hs1]; rfl) (by decide) ?_
      refine Rj_iload_n (q := 41) d_Bo_comparisonOf_40 rfl rfl rfl ?_
      refine Rj_if_eq (q := 44) (t := 49) d_Bo_comparisonOf_41 rfl (by decide) (by decide) (fun _ => ?_) (fun c => absurd c (by decide))
      refine Rj_bipush (q := 51) d_Bo_comparisonOf_49 rfl (by decide +kernel) ?_
      refine Rj_iret d_Bo_comparisonOf_51 rfl ?_
      refine Rj_istore_n (q := 33) (ls' := [vA 84, vI (nsV μ n k), vI 0, vI 16]) d_Rr_readComparison_32 rfl rfl (by decide) rfl ?_
      refine Rj_iload_n (q := 34) d_Rr_readComparison_33 rfl rfl rfl ?_
      refine Rj_iconst (q := 35) d_Rr_readComparison_34 rfl ?_
      refine Rj_icmp_ne (q := 38) (t := 56) d_Rr_readComparison_35 rfl (by decide) (by decide) (by decide) (fun _ => ?_) (fun c => absurd c (by decide))
      refine Rj_aload_n (q := 57) d_Rr_readComparison_56 rfl rfl rfl ?_
      refine Rj_aload_n (q := 58) d_Rr_readComparison_57 rfl rfl rfl ?_
      refine Rj_gr (q := 61) (zd := 2) gD_Rr_15_84 rfl rfl d_Rr_readComparison_58 rfl ?_
      refine Rj_gi (q := 64) (ki := 2) (v := k) gD_Rr_69_2 rfl rfl hk d_Rr_readComparison_61 rfl ?_
      refine Rj_vo (q := 67) (z := y_Rr_isRoomForValue) (as := [vI k]) (rest := []) (la := [vA 84, vI k]) oD_84_Rr_isRoomForValue ml_Rr_104 mw_Rr_isRoomForValue mv_Rr_isRoomForValue rfl d_Rr_readComparison_64 rfl rfl rfl rfl rfl ?_
      refine Rj_aload_n (q := 1) d_Rr_isRoomForValue_0 rfl rfl rfl ?_
      refine Rj_gi (q := 4) (ki := 7) (v := vl) gD_Rr_36_84 rfl rfl h7 d_Rr_isRoomForValue_1 rfl ?_
      refine Rj_bipush (q := 6) d_Rr_isRoomForValue_4 rfl (by decide +kernel) ?_
      refine Rj_icmp_lt (q := 9) (t := 20) d_Rr_isRoomForValue_6 rfl (by decide) ⟨by omega, by omega⟩ (by decide) (fun c64_6 => ?_) (fun c64_6 => ?_)
      · refine Rj_aload_n (q := 21) d_Rr_isRoomForValue_20 rfl rfl rfl ?_
        refine Rj_dup (q := 22) d_Rr_isRoomForValue_21 rfl (by intro h; cases h) ?_
        refine Rj_gi (q := 25) (ki := 7) (v := vl) gD_Rr_36_84 rfl rfl h7 d_Rr_isRoomForValue_22 rfl ?_
        refine Rj_iconst (q := 26) d_Rr_isRoomForValue_25 rfl ?_
        refine Rj_iadd (q := 27) d_Rr_isRoomForValue_26 rfl ?_
        refine Rj_pi (q := 30) (ki := 7) pD_Rr_36_84 rfl rfl d_Rr_isRoomForValue_27 rfl ?_
        refine Rj_iconst (q := 31) d_Rr_isRoomForValue_30 rfl ?_
        refine Rj_bret1 d_Rr_isRoomForValue_31 rfl ?_
        refine Rj_if_eq (q := 70) (t := 105) d_Rr_readComparison_67 rfl (by decide) (by decide) (fun c => absurd c (by decide)) (fun _ => ?_)
        refine Rj_aload_n (q := 71) d_Rr_readComparison_70 rfl rfl rfl ?_
        refine Rj_gr (q := 74) (zd := 2) gD_Rr_15_84 rfl rfl d_Rr_readComparison_71 rfl ?_
        refine Rj_dup (q := 75) d_Rr_readComparison_74 rfl (by intro h; cases h) ?_
        refine Rj_gi (q := 78) (ki := 2) (v := k) gD_Rr_69_2 rfl rfl hk d_Rr_readComparison_75 rfl ?_
        refine Rj_iload_n (q := 79) d_Rr_readComparison_78 rfl rfl rfl ?_
        refine Rj_bipush (q := 81) d_Rr_readComparison_79 rfl (by decide +kernel) ?_
        refine Rj_icmp_eq (q := 84) (t := 90) d_Rr_readComparison_81 rfl (by decide) (by decide) (by decide) (fun c => absurd c (by decide)) (fun _ => ?_)
        refine Rj_iload_n (q := 85) d_Rr_readComparison_84 rfl rfl rfl ?_
        refine Rj_bipush (q := 87) d_Rr_readComparison_85 rfl (by decide +kernel) ?_
        refine Rj_icmp_ne (q := 90) (t := 94) d_Rr_readComparison_87 rfl (by decide) (by decide) (by decide) (fun _ => ?_) (fun c => absurd c (by decide))
        refine Rj_iconst (q := 95) d_Rr_readComparison_94 rfl ?_
        refine Rj_iadd (q := 96) d_Rr_readComparison_95 rfl ?_
        refine Rj_pi (q := 99) (ki := 2) pD_Rr_69_2 rfl rfl d_Rr_readComparison_96 rfl ?_
        refine Rj_aload_n (q := 100) d_Rr_readComparison_99 rfl rfl rfl ?_
        refine Rj_iload_n (q := 101) d_Rr_readComparison_100 rfl rfl rfl ?_
        refine Rj_iconst (q := 102) d_Rr_readComparison_101 rfl ?_
        refine Rj_vov (q := 105) (z := y_Rr_joinBy) (as := [vI 16, vI 4]) (rest := []) (la := [vA 84, vI 16, vI 4]) oD_84_Rr_joinBy ml_Rr_119 mw_Rr_joinBy mv_Rr_joinBy rfl d_Rr_readComparison_102 rfl rfl rfl rfl rfl ?_
        have hop : cmpOp (sgn A n k) (decide (sgn A n (k + 1) = 61)) = 16 := by rw [← cmp_ns hT (by omega), hs1, show decide (sgn A n (k + 1) = 61) = false from decide_eq_false (fun q => c18 ((ns_sgn hT (by omega) (by decide)).mpr q))]; rfl
        have kn : k < n := by have q := vk.2.1; omega
        have cv : RC ((mset (mset μ 84 7 (vl + 1)) 2 2 (k + 1))) A n r (k + 1) w cl (vl + 1) 3 D c := hC.upd (Fr.put (Fr.put (Fr.refl _ _) (by omega)) (by omega)) rfl h3 h4 h5 h6 rfl h8
        have iv : IV n (k + 1) w cl (vl + 1) 3 D c := by obtain ⟨a1, a2, a3, a4, a5, a6, a7, a8⟩ := id hI; exact ⟨by omega, a2, by omega, by omega, a5, a6, a7, a8⟩
        refine s_joinBy (op := 16) (nx' := 4) cv iv (by decide) rfl (fun m fm cm => ?_)
        have frm : Fr (Wru r) μ m := Fr.trans (Fr.put (Fr.put (Fr.refl _ _) (by unfold Wru; omega)) (by unfold Wru; omega)) fm
        refine Rj_vret d_Rr_readComparison_105 rfl ?_
        exact hG _ (k + 1) (16 :: (stl 4 w c).1) cl (vl + 1) 4 D (stl 4 w c).2 (fun x g => RUN_cmp hs hnr hop (by decide) (by omega) (by rw [if_neg (by decide)]) rfl g) frm cm (((hI.sett (b := 4)).push_v (by decide) (fun q => absurd q (by decide)) (by omega) (by omega) (by omega)).at (by decide) (by decide)) (by omega)
      · refine Rj_aload_n (q := 10) d_Rr_isRoomForValue_9 rfl rfl rfl ?_
        refine Rj_gr (q := 13) (zd := 2) gD_Rr_15_84 rfl rfl d_Rr_isRoomForValue_10 rfl ?_
        refine Rj_iload_n (q := 14) d_Rr_isRoomForValue_13 rfl rfl rfl ?_
        refine Rj_iconst (q := 15) d_Rr_isRoomForValue_14 rfl ?_
        refine Rj_vov (q := 18) (z := y_Sp_fail) (as := [vI k, vI 3]) (rest := []) (la := [vA 2, vI k, vI 3]) oD_2_Sp_fail ml_Rr_72 mw_Sp_fail mv_Sp_fail rfl d_Rr_isRoomForValue_15 rfl rfl rfl rfl rfl ?_
        refine Rj_aload_n (q := 1) d_Sp_fail_0 rfl rfl rfl ?_
        refine Rj_gi (q := 4) (ki := 3) (v := 0) gD_Sp_28_2 rfl rfl hf0 d_Sp_fail_1 rfl ?_
        refine Rj_if_ne (q := 7) (t := 19) d_Sp_fail_4 rfl (by decide) (by decide) (fun c => absurd c (by decide)) (fun _ => ?_)
        refine Rj_aload_n (q := 8) d_Sp_fail_7 rfl rfl rfl ?_
        refine Rj_iconst (q := 9) d_Sp_fail_8 rfl ?_
        refine Rj_bipush (q := 11) d_Sp_fail_9 rfl (by decide +kernel) ?_
        refine Rj_iload_n (q := 12) d_Sp_fail_11 rfl rfl rfl ?_
        refine Rj_imul (q := 13) d_Sp_fail_12 rfl ?_
        refine Rj_iadd (q := 14) d_Sp_fail_13 rfl ?_
        refine Rj_iload_n (q := 15) d_Sp_fail_14 rfl rfl rfl ?_
        refine Rj_iadd (q := 16) d_Sp_fail_15 rfl ?_
        refine Rj_pi (q := 19) (ki := 3) pD_Sp_28_2 rfl rfl d_Sp_fail_16 rfl ?_
        refine Rj_vret d_Sp_fail_19 rfl ?_
        refine Rj_iconst (q := 19) d_Rr_isRoomForValue_18 rfl ?_
        refine Rj_bret0 d_Rr_isRoomForValue_19 rfl ?_
        refine Rj_if_eq (q := 70) (t := 105) d_Rr_readComparison_67 rfl (by decide) (by decide) (fun _ => ?_) (fun c => absurd c (by decide))
        refine Rj_vret d_Rr_readComparison_105 rfl ?_
        have hop : cmpOp (sgn A n k) (decide (sgn A n (k + 1) = 61)) = 16 := by rw [← cmp_ns hT (by omega), hs1, show decide (sgn A n (k + 1) = 61) = false from decide_eq_false (fun q => c18 ((ns_sgn hT (by omega) (by decide)).mpr q))]; rfl
        exact hE ((1 + (8 * k)) + 3) _ (RUN_cmany hs hnr (by rw [hop]; decide) (by omega)) (Fr.put (Fr.refl _ _) (by unfold Wru; omega)) rfl (by omega)
    · refine Rj_tsO (t := 55) d_Bo_comparisonOf_1 ⟨by omega, by omega⟩ hs1 (by decide) ?_
      refine Rj_iconst (q := 56) d_Bo_comparisonOf_55 rfl ?_
      refine Rj_iret d_Bo_comparisonOf_56 rfl ?_
      refine Rj_istore_n (q := 33) (ls' := [vA 84, vI (nsV μ n k), vI 0, vI (-1)]) d_Rr_readComparison_32 rfl rfl (by decide) rfl ?_
      refine Rj_iload_n (q := 34) d_Rr_readComparison_33 rfl rfl rfl ?_
      refine Rj_iconst (q := 35) d_Rr_readComparison_34 rfl ?_
      refine Rj_icmp_ne (q := 38) (t := 56) d_Rr_readComparison_35 rfl (by decide) (by decide) (by decide) (fun c => absurd c (by decide)) (fun _ => ?_)
      refine Rj_aload_n (q := 39) d_Rr_readComparison_38 rfl rfl rfl ?_
      refine Rj_gr (q := 42) (zd := 2) gD_Rr_15_84 rfl rfl d_Rr_readComparison_39 rfl ?_
      refine Rj_aload_n (q := 43) d_Rr_readComparison_42 rfl rfl rfl ?_
      refine Rj_gr (q := 46) (zd := 2) gD_Rr_15_84 rfl rfl d_Rr_readComparison_43 rfl ?_
      refine Rj_gi (q := 49) (ki := 2) (v := k) gD_Rr_69_2 rfl rfl hk d_Rr_readComparison_46 rfl ?_
      refine Rj_iconst (q := 50) d_Rr_readComparison_49 rfl ?_
      refine Rj_vov (q := 53) (z := y_Sp_fail) (as := [vI k, vI 0]) (rest := []) (la := [vA 2, vI k, vI 0]) oD_2_Sp_fail ml_Rr_72 mw_Sp_fail mv_Sp_fail rfl d_Rr_readComparison_50 rfl rfl rfl rfl rfl ?_
      refine Rj_aload_n (q := 1) d_Sp_fail_0 rfl rfl rfl ?_
      refine Rj_gi (q := 4) (ki := 3) (v := 0) gD_Sp_28_2 rfl rfl hf0 d_Sp_fail_1 rfl ?_
      refine Rj_if_ne (q := 7) (t := 19) d_Sp_fail_4 rfl (by decide) (by decide) (fun c => absurd c (by decide)) (fun _ => ?_)
      refine Rj_aload_n (q := 8) d_Sp_fail_7 rfl rfl rfl ?_
      refine Rj_iconst (q := 9) d_Sp_fail_8 rfl ?_
      refine Rj_bipush (q := 11) d_Sp_fail_9 rfl (by decide +kernel) ?_
      refine Rj_iload_n (q := 12) d_Sp_fail_11 rfl rfl rfl ?_
      refine Rj_imul (q := 13) d_Sp_fail_12 rfl ?_
      refine Rj_iadd (q := 14) d_Sp_fail_13 rfl ?_
      refine Rj_iload_n (q := 15) d_Sp_fail_14 rfl rfl rfl ?_
      refine Rj_iadd (q := 16) d_Sp_fail_15 rfl ?_
      refine Rj_pi (q := 19) (ki := 3) pD_Sp_28_2 rfl rfl d_Sp_fail_16 rfl ?_
      refine Rj_vret d_Sp_fail_19 rfl ?_
      refine Rj_goto (t := 105) d_Rr_readComparison_53 (by decide) ?_
      refine Rj_vret d_Rr_readComparison_105 rfl ?_
      have hop : cmpOp (sgn A n k) (decide (sgn A n (k + 1) = 61)) = -1 := by rw [← cmp_ns hT (by omega)]; unfold cmpOp; rw [if_neg (by omega), if_neg (by omega), if_neg (by omega)]
      exact hE ((1 + (8 * k)) + 0) _ (RUN_cbad hs hnr hop) (Fr.put (Fr.refl _ _) (by unfold Wru; omega)) rfl (by omega)
  · refine Rj_iconst (q := 22) d_Rr_readComparison_21 rfl ?_
    refine Rj_goto (t := 26) d_Rr_readComparison_22 (by decide) ?_
    refine Rj_istore_n (q := 27) (ls' := [vA 84, vI (nsV μ n k), vI 1]) d_Rr_readComparison_26 rfl rfl (by decide) rfl ?_
    refine Rj_iload_n (q := 28) d_Rr_readComparison_27 rfl rfl rfl ?_
    refine Rj_iload_n (q := 29) d_Rr_readComparison_28 rfl rfl rfl ?_
    refine Rj_cs (q := 32) (z := y_Bo_comparisonOf) (as := [vI (nsV μ n k), vI 1]) (rest := []) (la := [vI (nsV μ n k), vI 1]) ml_Rr_143 mw_Bo_comparisonOf ms_Bo_comparisonOf d_Rr_readComparison_29 rfl rfl rfl rfl rfl ?_
    refine Rj_iload_n (q := 1) d_Bo_comparisonOf_0 rfl rfl rfl ?_
    rcases (show nsV μ n k = 60 ∨ nsV μ n k = 61 ∨ nsV μ n k = 62 ∨ (nsV μ n k < 60 ∨ 62 < nsV μ n k) by omega) with hs1 | hs1 | hs1 | hs1
    · refine Rj_tsI (t := 28) d_Bo_comparisonOf_1 ⟨by omega, by omega⟩ (by omega) (by omega) (by rw [hs1]; rfl) (by decide) ?_
      refine Rj_iload_n (q := 29) d_Bo_comparisonOf_28 rfl rfl rfl ?_
      refine Rj_if_eq (q := 32) (t := 37) d_Bo_comparisonOf_29 rfl (by decide) (by decide) (fun c => absurd c (by decide)) (fun _ => ?_)
      refine Rj_bipush (q := 34) d_Bo_comparisonOf_32 rfl (by decide +kernel) ?_
      refine Rj_goto (t := 39) d_Bo_comparisonOf_34 (by decide) ?_
      refine Rj_iret d_Bo_comparisonOf_39 rfl ?_
      refine Rj_istore_n (q := 33) (ls' := [vA 84, vI (nsV μ n k), vI 1, vI 13]) d_Rr_readComparison_32 rfl rfl (by decide) rfl ?_
      refine Rj_iload_n (q := 34) d_Rr_readComparison_33 rfl rfl rfl ?_
      refine Rj_iconst (q := 35) d_Rr_readComparison_34 rfl ?_
      refine Rj_icmp_ne (q := 38) (t := 56) d_Rr_readComparison_35 rfl (by decide) (by decide) (by decide) (fun _ => ?_) (fun c => absurd c (by decide))
      refine Rj_aload_n (q := 57) d_Rr_readComparison_56 rfl rfl rfl ?_
      refine Rj_aload_n (q := 58) d_Rr_readComparison_57 rfl rfl rfl ?_
      refine Rj_gr (q := 61) (zd := 2) gD_Rr_15_84 rfl rfl d_Rr_readComparison_58 rfl ?_
      refine Rj_gi (q := 64) (ki := 2) (v := k) gD_Rr_69_2 rfl rfl hk d_Rr_readComparison_61 rfl ?_
      refine Rj_vo (q := 67) (z := y_Rr_isRoomForValue) (as := [vI k]) (rest := []) (la := [vA 84, vI k]) oD_84_Rr_isRoomForValue ml_Rr_104 mw_Rr_isRoomForValue mv_Rr_isRoomForValue rfl d_Rr_readComparison_64 rfl rfl rfl rfl rfl ?_
      refine Rj_aload_n (q := 1) d_Rr_isRoomForValue_0 rfl rfl rfl ?_
      refine Rj_gi (q := 4) (ki := 7) (v := vl) gD_Rr_36_84 rfl rfl h7 d_Rr_isRoomForValue_1 rfl ?_
      refine Rj_bipush (q := 6) d_Rr_isRoomForValue_4 rfl (by decide +kernel) ?_
      refine Rj_icmp_lt (q := 9) (t := 20) d_Rr_isRoomForValue_6 rfl (by decide) ⟨by omega, by omega⟩ (by decide) (fun c64_6 => ?_) (fun c64_6 => ?_)
      · refine Rj_aload_n (q := 21) d_Rr_isRoomForValue_20 rfl rfl rfl ?_
        refine Rj_dup (q := 22) d_Rr_isRoomForValue_21 rfl (by intro h; cases h) ?_
        refine Rj_gi (q := 25) (ki := 7) (v := vl) gD_Rr_36_84 rfl rfl h7 d_Rr_isRoomForValue_22 rfl ?_
        refine Rj_iconst (q := 26) d_Rr_isRoomForValue_25 rfl ?_
        refine Rj_iadd (q := 27) d_Rr_isRoomForValue_26 rfl ?_
        refine Rj_pi (q := 30) (ki := 7) pD_Rr_36_84 rfl rfl d_Rr_isRoomForValue_27 rfl ?_
        refine Rj_iconst (q := 31) d_Rr_isRoomForValue_30 rfl ?_
        refine Rj_bret1 d_Rr_isRoomForValue_31 rfl ?_
        refine Rj_if_eq (q := 70) (t := 105) d_Rr_readComparison_67 rfl (by decide) (by decide) (fun c => absurd c (by decide)) (fun _ => ?_)
        refine Rj_aload_n (q := 71) d_Rr_readComparison_70 rfl rfl rfl ?_
        refine Rj_gr (q := 74) (zd := 2) gD_Rr_15_84 rfl rfl d_Rr_readComparison_71 rfl ?_
        refine Rj_dup (q := 75) d_Rr_readComparison_74 rfl (by intro h; cases h) ?_
        refine Rj_gi (q := 78) (ki := 2) (v := k) gD_Rr_69_2 rfl rfl hk d_Rr_readComparison_75 rfl ?_
        refine Rj_iload_n (q := 79) d_Rr_readComparison_78 rfl rfl rfl ?_
        refine Rj_bipush (q := 81) d_Rr_readComparison_79 rfl (by decide +kernel) ?_
        refine Rj_icmp_eq (q := 84) (t := 90) d_Rr_readComparison_81 rfl (by decide) (by decide) (by decide) (fun _ => ?_) (fun c => absurd c (by decide))
        refine Rj_iconst (q := 91) d_Rr_readComparison_90 rfl ?_
        refine Rj_goto (t := 95) d_Rr_readComparison_91 (by decide) ?_
        refine Rj_iadd (q := 96) d_Rr_readComparison_95 rfl ?_
        refine Rj_pi (q := 99) (ki := 2) pD_Rr_69_2 rfl rfl d_Rr_readComparison_96 rfl ?_
        refine Rj_aload_n (q := 100) d_Rr_readComparison_99 rfl rfl rfl ?_
        refine Rj_iload_n (q := 101) d_Rr_readComparison_100 rfl rfl rfl ?_
        refine Rj_iconst (q := 102) d_Rr_readComparison_101 rfl ?_
        refine Rj_vov (q := 105) (z := y_Rr_joinBy) (as := [vI 13, vI 4]) (rest := []) (la := [vA 84, vI 13, vI 4]) oD_84_Rr_joinBy ml_Rr_119 mw_Rr_joinBy mv_Rr_joinBy rfl d_Rr_readComparison_102 rfl rfl rfl rfl rfl ?_
        have hop : cmpOp (sgn A n k) (decide (sgn A n (k + 1) = 61)) = 13 := by rw [← cmp_ns hT (by omega), hs1, show decide (sgn A n (k + 1) = 61) = true from decide_eq_true ((ns_sgn hT (by omega) (by decide)).mp c18)]; rfl
        have kn : k < n := by have q := vk.2.1; omega
        have kn2 : k + 1 < n := by have q := bv.2.1; omega
        have cv : RC ((mset (mset μ 84 7 (vl + 1)) 2 2 (k + 2))) A n r (k + 2) w cl (vl + 1) 3 D c := hC.upd (Fr.put (Fr.put (Fr.refl _ _) (by omega)) (by omega)) rfl h3 h4 h5 h6 rfl h8
        have iv : IV n (k + 2) w cl (vl + 1) 3 D c := by obtain ⟨a1, a2, a3, a4, a5, a6, a7, a8⟩ := id hI; exact ⟨by omega, a2, by omega, by omega, a5, a6, a7, a8⟩
        refine s_joinBy (op := 13) (nx' := 4) cv iv (by decide) rfl (fun m fm cm => ?_)
        have frm : Fr (Wru r) μ m := Fr.trans (Fr.put (Fr.put (Fr.refl _ _) (by unfold Wru; omega)) (by unfold Wru; omega)) fm
        refine Rj_vret d_Rr_readComparison_105 rfl ?_
        exact hG _ (k + 2) (13 :: (stl 4 w c).1) cl (vl + 1) 4 D (stl 4 w c).2 (fun x g => RUN_cmp hs hnr hop (by decide) (by omega) (by rw [if_pos (by decide)]) rfl g) frm cm (((hI.sett (b := 4)).push_v (by decide) (fun q => absurd q (by decide)) (by omega) (by omega) (by omega)).at (by decide) (by decide)) (by omega)
      · refine Rj_aload_n (q := 10) d_Rr_isRoomForValue_9 rfl rfl rfl ?_
        refine Rj_gr (q := 13) (zd := 2) gD_Rr_15_84 rfl rfl d_Rr_isRoomForValue_10 rfl ?_
        refine Rj_iload_n (q := 14) d_Rr_isRoomForValue_13 rfl rfl rfl ?_
        refine Rj_iconst (q := 15) d_Rr_isRoomForValue_14 rfl ?_
        refine Rj_vov (q := 18) (z := y_Sp_fail) (as := [vI k, vI 3]) (rest := []) (la := [vA 2, vI k, vI 3]) oD_2_Sp_fail ml_Rr_72 mw_Sp_fail mv_Sp_fail rfl d_Rr_isRoomForValue_15 rfl rfl rfl rfl rfl ?_
        refine Rj_aload_n (q := 1) d_Sp_fail_0 rfl rfl rfl ?_
        refine Rj_gi (q := 4) (ki := 3) (v := 0) gD_Sp_28_2 rfl rfl hf0 d_Sp_fail_1 rfl ?_
        refine Rj_if_ne (q := 7) (t := 19) d_Sp_fail_4 rfl (by decide) (by decide) (fun c => absurd c (by decide)) (fun _ => ?_)
        refine Rj_aload_n (q := 8) d_Sp_fail_7 rfl rfl rfl ?_
        refine Rj_iconst (q := 9) d_Sp_fail_8 rfl ?_
        refine Rj_bipush (q := 11) d_Sp_fail_9 rfl (by decide +kernel) ?_
        refine Rj_iload_n (q := 12) d_Sp_fail_11 rfl rfl rfl ?_
        refine Rj_imul (q := 13) d_Sp_fail_12 rfl ?_
        refine Rj_iadd (q := 14) d_Sp_fail_13 rfl ?_
        refine Rj_iload_n (q := 15) d_Sp_fail_14 rfl rfl rfl ?_
        refine Rj_iadd (q := 16) d_Sp_fail_15 rfl ?_
        refine Rj_pi (q := 19) (ki := 3) pD_Sp_28_2 rfl rfl d_Sp_fail_16 rfl ?_
        refine Rj_vret d_Sp_fail_19 rfl ?_
        refine Rj_iconst (q := 19) d_Rr_isRoomForValue_18 rfl ?_
        refine Rj_bret0 d_Rr_isRoomForValue_19 rfl ?_
        refine Rj_if_eq (q := 70) (t := 105) d_Rr_readComparison_67 rfl (by decide) (by decide) (fun _ => ?_) (fun c => absurd c (by decide))
        refine Rj_vret d_Rr_readComparison_105 rfl ?_
        have hop : cmpOp (sgn A n k) (decide (sgn A n (k + 1) = 61)) = 13 := by rw [← cmp_ns hT (by omega), hs1, show decide (sgn A n (k + 1) = 61) = true from decide_eq_true ((ns_sgn hT (by omega) (by decide)).mp c18)]; rfl
        exact hE ((1 + (8 * k)) + 3) _ (RUN_cmany hs hnr (by rw [hop]; decide) (by omega)) (Fr.put (Fr.refl _ _) (by unfold Wru; omega)) rfl (by omega)
    · refine Rj_tsI (t := 52) d_Bo_comparisonOf_1 ⟨by omega, by omega⟩ (by omega) (by omega) (by rw [hs1]; rfl) (by decide) ?_
      refine Rj_bipush (q := 54) d_Bo_comparisonOf_52 rfl (by decide +kernel) ?_
      refine Rj_iret d_Bo_comparisonOf_54 rfl ?_
      refine Rj_istore_n (q := 33) (ls' := [vA 84, vI (nsV μ n k), vI 1, vI 14]) d_Rr_readComparison_32 rfl rfl (by decide) rfl ?_
      refine Rj_iload_n (q := 34) d_Rr_readComparison_33 rfl rfl rfl ?_
      refine Rj_iconst (q := 35) d_Rr_readComparison_34 rfl ?_
      refine Rj_icmp_ne (q := 38) (t := 56) d_Rr_readComparison_35 rfl (by decide) (by decide) (by decide) (fun _ => ?_) (fun c => absurd c (by decide))
      refine Rj_aload_n (q := 57) d_Rr_readComparison_56 rfl rfl rfl ?_
      refine Rj_aload_n (q := 58) d_Rr_readComparison_57 rfl rfl rfl ?_
      refine Rj_gr (q := 61) (zd := 2) gD_Rr_15_84 rfl rfl d_Rr_readComparison_58 rfl ?_
      refine Rj_gi (q := 64) (ki := 2) (v := k) gD_Rr_69_2 rfl rfl hk d_Rr_readComparison_61 rfl ?_
      refine Rj_vo (q := 67) (z := y_Rr_isRoomForValue) (as := [vI k]) (rest := []) (la := [vA 84, vI k]) oD_84_Rr_isRoomForValue ml_Rr_104 mw_Rr_isRoomForValue mv_Rr_isRoomForValue rfl d_Rr_readComparison_64 rfl rfl rfl rfl rfl ?_
      refine Rj_aload_n (q := 1) d_Rr_isRoomForValue_0 rfl rfl rfl ?_
      refine Rj_gi (q := 4) (ki := 7) (v := vl) gD_Rr_36_84 rfl rfl h7 d_Rr_isRoomForValue_1 rfl ?_
      refine Rj_bipush (q := 6) d_Rr_isRoomForValue_4 rfl (by decide +kernel) ?_
      refine Rj_icmp_lt (q := 9) (t := 20) d_Rr_isRoomForValue_6 rfl (by decide) ⟨by omega, by omega⟩ (by decide) (fun c64_6 => ?_) (fun c64_6 => ?_)
      · refine Rj_aload_n (q := 21) d_Rr_isRoomForValue_20 rfl rfl rfl ?_
        refine Rj_dup (q := 22) d_Rr_isRoomForValue_21 rfl (by intro h; cases h) ?_
        refine Rj_gi (q := 25) (ki := 7) (v := vl) gD_Rr_36_84 rfl rfl h7 d_Rr_isRoomForValue_22 rfl ?_
        refine Rj_iconst (q := 26) d_Rr_isRoomForValue_25 rfl ?_
        refine Rj_iadd (q := 27) d_Rr_isRoomForValue_26 rfl ?_
        refine Rj_pi (q := 30) (ki := 7) pD_Rr_36_84 rfl rfl d_Rr_isRoomForValue_27 rfl ?_
        refine Rj_iconst (q := 31) d_Rr_isRoomForValue_30 rfl ?_
        refine Rj_bret1 d_Rr_isRoomForValue_31 rfl ?_
        refine Rj_if_eq (q := 70) (t := 105) d_Rr_readComparison_67 rfl (by decide) (by decide) (fun c => absurd c (by decide)) (fun _ => ?_)
        refine Rj_aload_n (q := 71) d_Rr_readComparison_70 rfl rfl rfl ?_
        refine Rj_gr (q := 74) (zd := 2) gD_Rr_15_84 rfl rfl d_Rr_readComparison_71 rfl ?_
        refine Rj_dup (q := 75) d_Rr_readComparison_74 rfl (by intro h; cases h) ?_
        refine Rj_gi (q := 78) (ki := 2) (v := k) gD_Rr_69_2 rfl rfl hk d_Rr_readComparison_75 rfl ?_
        refine Rj_iload_n (q := 79) d_Rr_readComparison_78 rfl rfl rfl ?_
        refine Rj_bipush (q := 81) d_Rr_readComparison_79 rfl (by decide +kernel) ?_
        refine Rj_icmp_eq (q := 84) (t := 90) d_Rr_readComparison_81 rfl (by decide) (by decide) (by decide) (fun c => absurd c (by decide)) (fun _ => ?_)
        refine Rj_iload_n (q := 85) d_Rr_readComparison_84 rfl rfl rfl ?_
        refine Rj_bipush (q := 87) d_Rr_readComparison_85 rfl (by decide +kernel) ?_
        refine Rj_icmp_ne (q := 90) (t := 94) d_Rr_readComparison_87 rfl (by decide) (by decide) (by decide) (fun _ => ?_) (fun c => absurd c (by decide))
        refine Rj_iconst (q := 95) d_Rr_readComparison_94 rfl ?_
        refine Rj_iadd (q := 96) d_Rr_readComparison_95 rfl ?_
        refine Rj_pi (q := 99) (ki := 2) pD_Rr_69_2 rfl rfl d_Rr_readComparison_96 rfl ?_
        refine Rj_aload_n (q := 100) d_Rr_readComparison_99 rfl rfl rfl ?_
        refine Rj_iload_n (q := 101) d_Rr_readComparison_100 rfl rfl rfl ?_
        refine Rj_iconst (q := 102) d_Rr_readComparison_101 rfl ?_
        refine Rj_vov (q := 105) (z := y_Rr_joinBy) (as := [vI 14, vI 4]) (rest := []) (la := [vA 84, vI 14, vI 4]) oD_84_Rr_joinBy ml_Rr_119 mw_Rr_joinBy mv_Rr_joinBy rfl d_Rr_readComparison_102 rfl rfl rfl rfl rfl ?_
        have hop : cmpOp (sgn A n k) (decide (sgn A n (k + 1) = 61)) = 14 := by rw [← cmp_ns hT (by omega), hs1, show decide (sgn A n (k + 1) = 61) = true from decide_eq_true ((ns_sgn hT (by omega) (by decide)).mp c18)]; rfl
        have kn : k < n := by have q := vk.2.1; omega
        have cv : RC ((mset (mset μ 84 7 (vl + 1)) 2 2 (k + 1))) A n r (k + 1) w cl (vl + 1) 3 D c := hC.upd (Fr.put (Fr.put (Fr.refl _ _) (by omega)) (by omega)) rfl h3 h4 h5 h6 rfl h8
        have iv : IV n (k + 1) w cl (vl + 1) 3 D c := by obtain ⟨a1, a2, a3, a4, a5, a6, a7, a8⟩ := id hI; exact ⟨by omega, a2, by omega, by omega, a5, a6, a7, a8⟩
        refine s_joinBy (op := 14) (nx' := 4) cv iv (by decide) rfl (fun m fm cm => ?_)
        have frm : Fr (Wru r) μ m := Fr.trans (Fr.put (Fr.put (Fr.refl _ _) (by unfold Wru; omega)) (by unfold Wru; omega)) fm
        refine Rj_vret d_Rr_readComparison_105 rfl ?_
        exact hG _ (k + 1) (14 :: (stl 4 w c).1) cl (vl + 1) 4 D (stl 4 w c).2 (fun x g => RUN_cmp hs hnr hop (by decide) (by omega) (by rw [if_neg (by decide)]) rfl g) frm cm (((hI.sett (b := 4)).push_v (by decide) (fun q => absurd q (by decide)) (by omega) (by omega) (by omega)).at (by decide) (by decide)) (by omega)
      · refine Rj_aload_n (q := 10) d_Rr_isRoomForValue_9 rfl rfl rfl ?_
        refine Rj_gr (q := 13) (zd := 2) gD_Rr_15_84 rfl rfl d_Rr_isRoomForValue_10 rfl ?_
        refine Rj_iload_n (q := 14) d_Rr_isRoomForValue_13 rfl rfl rfl ?_
        refine Rj_iconst (q := 15) d_Rr_isRoomForValue_14 rfl ?_
        refine Rj_vov (q := 18) (z := y_Sp_fail) (as := [vI k, vI 3]) (rest := []) (la := [vA 2, vI k, vI 3]) oD_2_Sp_fail ml_Rr_72 mw_Sp_fail mv_Sp_fail rfl d_Rr_isRoomForValue_15 rfl rfl rfl rfl rfl ?_
        refine Rj_aload_n (q := 1) d_Sp_fail_0 rfl rfl rfl ?_
        refine Rj_gi (q := 4) (ki := 3) (v := 0) gD_Sp_28_2 rfl rfl hf0 d_Sp_fail_1 rfl ?_
        refine Rj_if_ne (q := 7) (t := 19) d_Sp_fail_4 rfl (by decide) (by decide) (fun c => absurd c (by decide)) (fun _ => ?_)
        refine Rj_aload_n (q := 8) d_Sp_fail_7 rfl rfl rfl ?_
        refine Rj_iconst (q := 9) d_Sp_fail_8 rfl ?_
        refine Rj_bipush (q := 11) d_Sp_fail_9 rfl (by decide +kernel) ?_
        refine Rj_iload_n (q := 12) d_Sp_fail_11 rfl rfl rfl ?_
        refine Rj_imul (q := 13) d_Sp_fail_12 rfl ?_
        refine Rj_iadd (q := 14) d_Sp_fail_13 rfl ?_
        refine Rj_iload_n (q := 15) d_Sp_fail_14 rfl rfl rfl ?_
        refine Rj_iadd (q := 16) d_Sp_fail_15 rfl ?_
        refine Rj_pi (q := 19) (ki := 3) pD_Sp_28_2 rfl rfl d_Sp_fail_16 rfl ?_
        refine Rj_vret d_Sp_fail_19 rfl ?_
        refine Rj_iconst (q := 19) d_Rr_isRoomForValue_18 rfl ?_
        refine Rj_bret0 d_Rr_isRoomForValue_19 rfl ?_
        refine Rj_if_eq (q := 70) (t := 105) d_Rr_readComparison_67 rfl (by decide) (by decide) (fun _ => ?_) (fun c => absurd c (by decide))
        refine Rj_vret d_Rr_readComparison_105 rfl ?_
        have hop : cmpOp (sgn A n k) (decide (sgn A n (k + 1) = 61)) = 14 := by rw [← cmp_ns hT (by omega), hs1, show decide (sgn A n (k + 1) = 61) = true from decide_eq_true ((ns_sgn hT (by omega) (by decide)).mp c18)]; rfl
        exact hE ((1 + (8 * k)) + 3) _ (RUN_cmany hs hnr (by rw [hop]; decide) (by omega)) (Fr.put (Fr.refl _ _) (by unfold Wru; omega)) rfl (by omega)
    · refine Rj_tsI (t := 40) d_Bo_comparisonOf_1 ⟨by omega, by omega⟩ (by omega) (by omega) (by rw [hs1]; rfl) (by decide) ?_
      refine Rj_iload_n (q := 41) d_Bo_comparisonOf_40 rfl rfl rfl ?_
      refine Rj_if_eq (q := 44) (t := 49) d_Bo_comparisonOf_41 rfl (by decide) (by decide) (fun c => absurd c (by decide)) (fun _ => ?_)
      refine Rj_bipush (q := 46) d_Bo_comparisonOf_44 rfl (by decide +kernel) ?_
      refine Rj_goto (t := 51) d_Bo_comparisonOf_46 (by decide) ?_
      refine Rj_iret d_Bo_comparisonOf_51 rfl ?_
      refine Rj_istore_n (q := 33) (ls' := [vA 84, vI (nsV μ n k), vI 1, vI 15]) d_Rr_readComparison_32 rfl rfl (by decide) rfl ?_
      refine Rj_iload_n (q := 34) d_Rr_readComparison_33 rfl rfl rfl ?_
      refine Rj_iconst (q := 35) d_Rr_readComparison_34 rfl ?_
      refine Rj_icmp_ne (q := 38) (t := 56) d_Rr_readComparison_35 rfl (by decide) (by decide) (by decide) (fun _ => ?_) (fun c => absurd c (by decide))
      refine Rj_aload_n (q := 57) d_Rr_readComparison_56 rfl rfl rfl ?_
      refine Rj_aload_n (q := 58) d_Rr_readComparison_57 rfl rfl rfl ?_
      refine Rj_gr (q := 61) (zd := 2) gD_Rr_15_84 rfl rfl d_Rr_readComparison_58 rfl ?_
      refine Rj_gi (q := 64) (ki := 2) (v := k) gD_Rr_69_2 rfl rfl hk d_Rr_readComparison_61 rfl ?_
      refine Rj_vo (q := 67) (z := y_Rr_isRoomForValue) (as := [vI k]) (rest := []) (la := [vA 84, vI k]) oD_84_Rr_isRoomForValue ml_Rr_104 mw_Rr_isRoomForValue mv_Rr_isRoomForValue rfl d_Rr_readComparison_64 rfl rfl rfl rfl rfl ?_
      refine Rj_aload_n (q := 1) d_Rr_isRoomForValue_0 rfl rfl rfl ?_
      refine Rj_gi (q := 4) (ki := 7) (v := vl) gD_Rr_36_84 rfl rfl h7 d_Rr_isRoomForValue_1 rfl ?_
      refine Rj_bipush (q := 6) d_Rr_isRoomForValue_4 rfl (by decide +kernel) ?_
      refine Rj_icmp_lt (q := 9) (t := 20) d_Rr_isRoomForValue_6 rfl (by decide) ⟨by omega, by omega⟩ (by decide) (fun c64_6 => ?_) (fun c64_6 => ?_)
      · refine Rj_aload_n (q := 21) d_Rr_isRoomForValue_20 rfl rfl rfl ?_
        refine Rj_dup (q := 22) d_Rr_isRoomForValue_21 rfl (by intro h; cases h) ?_
        refine Rj_gi (q := 25) (ki := 7) (v := vl) gD_Rr_36_84 rfl rfl h7 d_Rr_isRoomForValue_22 rfl ?_
        refine Rj_iconst (q := 26) d_Rr_isRoomForValue_25 rfl ?_
        refine Rj_iadd (q := 27) d_Rr_isRoomForValue_26 rfl ?_
        refine Rj_pi (q := 30) (ki := 7) pD_Rr_36_84 rfl rfl d_Rr_isRoomForValue_27 rfl ?_
        refine Rj_iconst (q := 31) d_Rr_isRoomForValue_30 rfl ?_
        refine Rj_bret1 d_Rr_isRoomForValue_31 rfl ?_
        refine Rj_if_eq (q := 70) (t := 105) d_Rr_readComparison_67 rfl (by decide) (by decide) (fun c => absurd c (by decide)) (fun _ => ?_)
        refine Rj_aload_n (q := 71) d_Rr_readComparison_70 rfl rfl rfl ?_
        refine Rj_gr (q := 74) (zd := 2) gD_Rr_15_84 rfl rfl d_Rr_readComparison_71 rfl ?_
        refine Rj_dup (q := 75) d_Rr_readComparison_74 rfl (by intro h; cases h) ?_
        refine Rj_gi (q := 78) (ki := 2) (v := k) gD_Rr_69_2 rfl rfl hk d_Rr_readComparison_75 rfl ?_
        refine Rj_iload_n (q := 79) d_Rr_readComparison_78 rfl rfl rfl ?_
        refine Rj_bipush (q := 81) d_Rr_readComparison_79 rfl (by decide +kernel) ?_
        refine Rj_icmp_eq (q := 84) (t := 90) d_Rr_readComparison_81 rfl (by decide) (by decide) (by decide) (fun c => absurd c (by decide)) (fun _ => ?_)
        refine Rj_iload_n (q := 85) d_Rr_readComparison_84 rfl rfl rfl ?_
        refine Rj_bipush (q := 87) d_Rr_readComparison_85 rfl (by decide +kernel) ?_
        refine Rj_icmp_ne (q := 90) (t := 94) d_Rr_readComparison_87 rfl (by decide) (by decide) (by decide) (fun c => absurd c (by decide)) (fun _ => ?_)
        refine Rj_iconst (q := 91) d_Rr_readComparison_90 rfl ?_
        refine Rj_goto (t := 95) d_Rr_readComparison_91 (by decide) ?_
        refine Rj_iadd (q := 96) d_Rr_readComparison_95 rfl ?_
        refine Rj_pi (q := 99) (ki := 2) pD_Rr_69_2 rfl rfl d_Rr_readComparison_96 rfl ?_
        refine Rj_aload_n (q := 100) d_Rr_readComparison_99 rfl rfl rfl ?_
        refine Rj_iload_n (q := 101) d_Rr_readComparison_100 rfl rfl rfl ?_
        refine Rj_iconst (q := 102) d_Rr_readComparison_101 rfl ?_
        refine Rj_vov (q := 105) (z := y_Rr_joinBy) (as := [vI 15, vI 4]) (rest := []) (la := [vA 84, vI 15, vI 4]) oD_84_Rr_joinBy ml_Rr_119 mw_Rr_joinBy mv_Rr_joinBy rfl d_Rr_readComparison_102 rfl rfl rfl rfl rfl ?_
        have hop : cmpOp (sgn A n k) (decide (sgn A n (k + 1) = 61)) = 15 := by rw [← cmp_ns hT (by omega), hs1, show decide (sgn A n (k + 1) = 61) = true from decide_eq_true ((ns_sgn hT (by omega) (by decide)).mp c18)]; rfl
        have kn : k < n := by have q := vk.2.1; omega
        have kn2 : k + 1 < n := by have q := bv.2.1; omega
        have cv : RC ((mset (mset μ 84 7 (vl + 1)) 2 2 (k + 2))) A n r (k + 2) w cl (vl + 1) 3 D c := hC.upd (Fr.put (Fr.put (Fr.refl _ _) (by omega)) (by omega)) rfl h3 h4 h5 h6 rfl h8
        have iv : IV n (k + 2) w cl (vl + 1) 3 D c := by obtain ⟨a1, a2, a3, a4, a5, a6, a7, a8⟩ := id hI; exact ⟨by omega, a2, by omega, by omega, a5, a6, a7, a8⟩
        refine s_joinBy (op := 15) (nx' := 4) cv iv (by decide) rfl (fun m fm cm => ?_)
        have frm : Fr (Wru r) μ m := Fr.trans (Fr.put (Fr.put (Fr.refl _ _) (by unfold Wru; omega)) (by unfold Wru; omega)) fm
        refine Rj_vret d_Rr_readComparison_105 rfl ?_
        exact hG _ (k + 2) (15 :: (stl 4 w c).1) cl (vl + 1) 4 D (stl 4 w c).2 (fun x g => RUN_cmp hs hnr hop (by decide) (by omega) (by rw [if_pos (by decide)]) rfl g) frm cm (((hI.sett (b := 4)).push_v (by decide) (fun q => absurd q (by decide)) (by omega) (by omega) (by omega)).at (by decide) (by decide)) (by omega)
      · refine Rj_aload_n (q := 10) d_Rr_isRoomForValue_9 rfl rfl rfl ?_
        refine Rj_gr (q := 13) (zd := 2) gD_Rr_15_84 rfl rfl d_Rr_isRoomForValue_10 rfl ?_
        refine Rj_iload_n (q := 14) d_Rr_isRoomForValue_13 rfl rfl rfl ?_
        refine Rj_iconst (q := 15) d_Rr_isRoomForValue_14 rfl ?_
        refine Rj_vov (q := 18) (z := y_Sp_fail) (as := [vI k, vI 3]) (rest := []) (la := [vA 2, vI k, vI 3]) oD_2_Sp_fail ml_Rr_72 mw_Sp_fail mv_Sp_fail rfl d_Rr_isRoomForValue_15 rfl rfl rfl rfl rfl ?_
        refine Rj_aload_n (q := 1) d_Sp_fail_0 rfl rfl rfl ?_
        refine Rj_gi (q := 4) (ki := 3) (v := 0) gD_Sp_28_2 rfl rfl hf0 d_Sp_fail_1 rfl ?_
        refine Rj_if_ne (q := 7) (t := 19) d_Sp_fail_4 rfl (by decide) (by decide) (fun c => absurd c (by decide)) (fun _ => ?_)
        refine Rj_aload_n (q := 8) d_Sp_fail_7 rfl rfl rfl ?_
        refine Rj_iconst (q := 9) d_Sp_fail_8 rfl ?_
        refine Rj_bipush (q := 11) d_Sp_fail_9 rfl (by decide +kernel) ?_
        refine Rj_iload_n (q := 12) d_Sp_fail_11 rfl rfl rfl ?_
        refine Rj_imul (q := 13) d_Sp_fail_12 rfl ?_
        refine Rj_iadd (q := 14) d_Sp_fail_13 rfl ?_
        refine Rj_iload_n (q := 15) d_Sp_fail_14 rfl rfl rfl ?_
        refine Rj_iadd (q := 16) d_Sp_fail_15 rfl ?_
        refine Rj_pi (q := 19) (ki := 3) pD_Sp_28_2 rfl rfl d_Sp_fail_16 rfl ?_
        refine Rj_vret d_Sp_fail_19 rfl ?_
        refine Rj_iconst (q := 19) d_Rr_isRoomForValue_18 rfl ?_
        refine Rj_bret0 d_Rr_isRoomForValue_19 rfl ?_
        refine Rj_if_eq (q := 70) (t := 105) d_Rr_readComparison_67 rfl (by decide) (by decide) (fun _ => ?_) (fun c => absurd c (by decide))
        refine Rj_vret d_Rr_readComparison_105 rfl ?_
        have hop : cmpOp (sgn A n k) (decide (sgn A n (k + 1) = 61)) = 15 := by rw [← cmp_ns hT (by omega), hs1, show decide (sgn A n (k + 1) = 61) = true from decide_eq_true ((ns_sgn hT (by omega) (by decide)).mp c18)]; rfl
        exact hE ((1 + (8 * k)) + 3) _ (RUN_cmany hs hnr (by rw [hop]; decide) (by omega)) (Fr.put (Fr.refl _ _) (by unfold Wru; omega)) rfl (by omega)
    · refine Rj_tsO (t := 55) d_Bo_comparisonOf_1 ⟨by omega, by omega⟩ hs1 (by decide) ?_
      refine Rj_iconst (q := 56) d_Bo_comparisonOf_55 rfl ?_
      refine Rj_iret d_Bo_comparisonOf_56 rfl ?_
      refine Rj_istore_n (q := 33) (ls' := [vA 84, vI (nsV μ n k), vI 1, vI (-1)]) d_Rr_readComparison_32 rfl rfl (by decide) rfl ?_
      refine Rj_iload_n (q := 34) d_Rr_readComparison_33 rfl rfl rfl ?_
      refine Rj_iconst (q := 35) d_Rr_readComparison_34 rfl ?_
      refine Rj_icmp_ne (q := 38) (t := 56) d_Rr_readComparison_35 rfl (by decide) (by decide) (by decide) (fun c => absurd c (by decide)) (fun _ => ?_)
      refine Rj_aload_n (q := 39) d_Rr_readComparison_38 rfl rfl rfl ?_
      refine Rj_gr (q := 42) (zd := 2) gD_Rr_15_84 rfl rfl d_Rr_readComparison_39 rfl ?_
      refine Rj_aload_n (q := 43) d_Rr_readComparison_42 rfl rfl rfl ?_
      refine Rj_gr (q := 46) (zd := 2) gD_Rr_15_84 rfl rfl d_Rr_readComparison_43 rfl ?_
      refine Rj_gi (q := 49) (ki := 2) (v := k) gD_Rr_69_2 rfl rfl hk d_Rr_readComparison_46 rfl ?_
      refine Rj_iconst (q := 50) d_Rr_readComparison_49 rfl ?_
      refine Rj_vov (q := 53) (z := y_Sp_fail) (as := [vI k, vI 0]) (rest := []) (la := [vA 2, vI k, vI 0]) oD_2_Sp_fail ml_Rr_72 mw_Sp_fail mv_Sp_fail rfl d_Rr_readComparison_50 rfl rfl rfl rfl rfl ?_
      refine Rj_aload_n (q := 1) d_Sp_fail_0 rfl rfl rfl ?_
      refine Rj_gi (q := 4) (ki := 3) (v := 0) gD_Sp_28_2 rfl rfl hf0 d_Sp_fail_1 rfl ?_
      refine Rj_if_ne (q := 7) (t := 19) d_Sp_fail_4 rfl (by decide) (by decide) (fun c => absurd c (by decide)) (fun _ => ?_)
      refine Rj_aload_n (q := 8) d_Sp_fail_7 rfl rfl rfl ?_
      refine Rj_iconst (q := 9) d_Sp_fail_8 rfl ?_
      refine Rj_bipush (q := 11) d_Sp_fail_9 rfl (by decide +kernel) ?_
      refine Rj_iload_n (q := 12) d_Sp_fail_11 rfl rfl rfl ?_
      refine Rj_imul (q := 13) d_Sp_fail_12 rfl ?_
      refine Rj_iadd (q := 14) d_Sp_fail_13 rfl ?_
      refine Rj_iload_n (q := 15) d_Sp_fail_14 rfl rfl rfl ?_
      refine Rj_iadd (q := 16) d_Sp_fail_15 rfl ?_
      refine Rj_pi (q := 19) (ki := 3) pD_Sp_28_2 rfl rfl d_Sp_fail_16 rfl ?_
      refine Rj_vret d_Sp_fail_19 rfl ?_
      refine Rj_goto (t := 105) d_Rr_readComparison_53 (by decide) ?_
      refine Rj_vret d_Rr_readComparison_105 rfl ?_
      have hop : cmpOp (sgn A n k) (decide (sgn A n (k + 1) = 61)) = -1 := by rw [← cmp_ns hT (by omega)]; unfold cmpOp; rw [if_neg (by omega), if_neg (by omega), if_neg (by omega)]
      exact hE ((1 + (8 * k)) + 0) _ (RUN_cbad hs hnr hop) (Fr.put (Fr.refl _ _) (by unfold Wru; omega)) rfl (by omega)
