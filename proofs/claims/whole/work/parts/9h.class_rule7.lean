theorem oD_84_Rr_readBehind : OI YD 84 y_Rr_readBehind := ⟨by decide, _, _, _, cD_84, rfl⟩
theorem oD_84_Rr_readValue : OI YD 84 y_Rr_readValue := ⟨by decide, _, _, _, cD_84, rfl⟩
theorem oD_84_Rr_isOpener : OI YD 84 y_Rr_isOpener := ⟨by decide, _, _, _, cD_84, rfl⟩
theorem oD_84_Rr_readOpener : OI YD 84 y_Rr_readOpener := ⟨by decide, _, _, _, cD_84, rfl⟩
/-! the class reads a rule: the loop -/
set_option maxHeartbeats 4000000 in
theorem s_read_bad {μ : Mem} {Q : PV → Mem → Prop} {i e : Int} (hi : 0 ≤ i ∧ i ≤ 402) (he : μ 2 3 = e) (hr : 1 ≤ e ∧ e ≤ 5000) (hQ : Q vU μ) : Rj YD y_Rr_read 37 [vA 84, vI i] [] μ Q := by
  refine Rj_iload_n (q := 38) d_Rr_read_37 rfl rfl rfl ?_
  refine Rj_sipush (q := 41) d_Rr_read_38 rfl (by decide +kernel) ?_
  refine Rj_icmp_gt (q := 44) (t := 112) d_Rr_read_41 rfl (by decide) ⟨by omega, by omega⟩ (by decide) (fun c41 => ?_) (fun c41 => ?_)
  · refine Rj_vret d_Rr_read_112 rfl ?_
    exact hQ
  · refine Rj_aload_n (q := 45) d_Rr_read_44 rfl rfl rfl ?_
    refine Rj_gr (q := 48) (zd := 2) gD_Rr_15_84 rfl rfl d_Rr_read_45 rfl ?_
    refine Rj_vo (q := 51) (z := y_Sp_isSound) (as := []) (rest := []) (la := [vA 2]) oD_2_Sp_isSound ml_Rr_45 mw_Sp_isSound mv_Sp_isSound rfl d_Rr_read_48 rfl rfl rfl rfl rfl ?_
    refine Rj_aload_n (q := 1) d_Sp_isSound_0 rfl rfl rfl ?_
    refine Rj_gi (q := 4) (ki := 3) (v := e) gD_Sp_28_2 rfl rfl he d_Sp_isSound_1 rfl ?_
    refine Rj_if_ne (q := 7) (t := 11) d_Sp_isSound_4 rfl (by decide) ⟨by omega, by omega⟩ (fun c48_4 => ?_) (fun c48_4 => ?_)
    · refine Rj_iconst (q := 12) d_Sp_isSound_11 rfl ?_
      refine Rj_bret0 d_Sp_isSound_12 rfl ?_
      refine Rj_if_eq (q := 54) (t := 112) d_Rr_read_51 rfl (by decide) (by decide) (fun _ => ?_) (fun c => absurd c (by decide))
      refine Rj_vret d_Rr_read_112 rfl ?_
      exact hQ
    · exact absurd c48_4 (by omega)
set_option maxHeartbeats 4000000 in
theorem s_read_fin {μ : Mem} {Q : PV → Mem → Prop} {i : Int} (hi : 0 ≤ i ∧ i ≤ 402) (he : μ 2 3 = 0) (h8 : μ 84 8 = 8) (hQ : Q vU μ) : Rj YD y_Rr_read 37 [vA 84, vI i] [] μ Q := by
  refine Rj_iload_n (q := 38) d_Rr_read_37 rfl rfl rfl ?_
  refine Rj_sipush (q := 41) d_Rr_read_38 rfl (by decide +kernel) ?_
  refine Rj_icmp_gt (q := 44) (t := 112) d_Rr_read_41 rfl (by decide) ⟨by omega, by omega⟩ (by decide) (fun c41 => ?_) (fun c41 => ?_)
  · refine Rj_vret d_Rr_read_112 rfl ?_
    exact hQ
  · refine Rj_aload_n (q := 45) d_Rr_read_44 rfl rfl rfl ?_
    refine Rj_gr (q := 48) (zd := 2) gD_Rr_15_84 rfl rfl d_Rr_read_45 rfl ?_
    refine Rj_vo (q := 51) (z := y_Sp_isSound) (as := []) (rest := []) (la := [vA 2]) oD_2_Sp_isSound ml_Rr_45 mw_Sp_isSound mv_Sp_isSound rfl d_Rr_read_48 rfl rfl rfl rfl rfl ?_
    refine Rj_aload_n (q := 1) d_Sp_isSound_0 rfl rfl rfl ?_
    refine Rj_gi (q := 4) (ki := 3) (v := 0) gD_Sp_28_2 rfl rfl he d_Sp_isSound_1 rfl ?_
    refine Rj_if_ne (q := 7) (t := 11) d_Sp_isSound_4 rfl (by decide) (by decide) (fun c => absurd c (by decide)) (fun _ => ?_)
    refine Rj_iconst (q := 8) d_Sp_isSound_7 rfl ?_
    refine Rj_goto (t := 12) d_Sp_isSound_8 (by decide) ?_
    refine Rj_bret1 d_Sp_isSound_12 rfl ?_
    refine Rj_if_eq (q := 54) (t := 112) d_Rr_read_51 rfl (by decide) (by decide) (fun c => absurd c (by decide)) (fun _ => ?_)
    refine Rj_aload_n (q := 55) d_Rr_read_54 rfl rfl rfl ?_
    refine Rj_gi (q := 58) (ki := 8) (v := 8) gD_Rr_39_84 rfl rfl h8 d_Rr_read_55 rfl ?_
    refine Rj_bipush (q := 60) d_Rr_read_58 rfl (by decide +kernel) ?_
    refine Rj_icmp_eq (q := 63) (t := 112) d_Rr_read_60 rfl (by decide) (by decide) (by decide) (fun _ => ?_) (fun c => absurd c (by decide))
    refine Rj_vret d_Rr_read_112 rfl ?_
    exact hQ
set_option maxHeartbeats 4000000 in
theorem s_read_37 : ∀ (f : Nat) {μ : Mem} {Q : PV → Mem → Prop} {A : Int → Int} {n r k cl vl nx : Int} {w : List Int} {D : List CLS} {c : CLS} {i : Int}, ((n - k).toNat < f) → (RC μ A n r k w cl vl nx D c) → (IV n k w cl vl nx D c) → (0 ≤ i ∧ i ≤ k) → (∀ e μ', RUN A n k w cl vl nx D c (.error e) → Fr (Wru r) μ μ' → μ' 2 3 = e → (1 ≤ e ∧ e ≤ 5000) → Q vU μ') → (∀ μ' D', RUN A n k w cl vl nx D c (.ok D') → Fr (Wru r) μ μ' → FIN μ' r D' → Q vU μ') → Rj YD y_Rr_read 37 [vA 84, vI i] [] μ Q := by
  intro f
  induction f with
  | zero => intro μ Q A n r k cl vl nx w D c i hf hC hI hi hE hF; exact absurd hf (by omega)
  | succ f ih =>
    intro μ Q A n r k cl vl nx w D c i hf hC hI hi hE hF
    obtain ⟨hT, hk, hf0, h3, h4, h5, h6, h7, h8, hW, hr, hL, hl⟩ := id hC
    obtain ⟨i1, i2, i3, i4, i5, i6, i7, i8⟩ := id hI
    have hn := hT.2.1
    have hX := hT.1.1
    have dw := dpn_bd w
    have bw := brn_bd w
    have nn := nC_nn D c
    have tm := Int.tmod_eq_emod_of_nonneg (a := nx) (b := 2) (by omega)
    refine Rj_iload_n (q := 38) d_Rr_read_37 rfl rfl rfl ?_
    refine Rj_sipush (q := 41) d_Rr_read_38 rfl (by decide +kernel) ?_
    refine Rj_icmp_gt (q := 44) (t := 112) d_Rr_read_41 rfl (by decide) ⟨by omega, by omega⟩ (by decide) (fun c41 => ?_) (fun c41 => ?_)
    · exact absurd c41 (by omega)
    · refine Rj_aload_n (q := 45) d_Rr_read_44 rfl rfl rfl ?_
      refine Rj_gr (q := 48) (zd := 2) gD_Rr_15_84 rfl rfl d_Rr_read_45 rfl ?_
      refine Rj_vo (q := 51) (z := y_Sp_isSound) (as := []) (rest := []) (la := [vA 2]) oD_2_Sp_isSound ml_Rr_45 mw_Sp_isSound mv_Sp_isSound rfl d_Rr_read_48 rfl rfl rfl rfl rfl ?_
      refine Rj_aload_n (q := 1) d_Sp_isSound_0 rfl rfl rfl ?_
      refine Rj_gi (q := 4) (ki := 3) (v := 0) gD_Sp_28_2 rfl rfl hf0 d_Sp_isSound_1 rfl ?_
      refine Rj_if_ne (q := 7) (t := 11) d_Sp_isSound_4 rfl (by decide) (by decide) (fun c => absurd c (by decide)) (fun _ => ?_)
      refine Rj_iconst (q := 8) d_Sp_isSound_7 rfl ?_
      refine Rj_goto (t := 12) d_Sp_isSound_8 (by decide) ?_
      refine Rj_bret1 d_Sp_isSound_12 rfl ?_
      refine Rj_if_eq (q := 54) (t := 112) d_Rr_read_51 rfl (by decide) (by decide) (fun c => absurd c (by decide)) (fun _ => ?_)
      refine Rj_aload_n (q := 55) d_Rr_read_54 rfl rfl rfl ?_
      refine Rj_gi (q := 58) (ki := 8) (v := nx) gD_Rr_39_84 rfl rfl h8 d_Rr_read_55 rfl ?_
      refine Rj_bipush (q := 60) d_Rr_read_58 rfl (by decide +kernel) ?_
      refine Rj_icmp_eq (q := 63) (t := 112) d_Rr_read_60 rfl (by decide) ⟨by omega, by omega⟩ (by decide) (fun c60 => ?_) (fun c60 => ?_)
      · exact absurd c60 (by omega)
      · refine Rj_aload_n (q := 64) d_Rr_read_63 rfl rfl rfl ?_
        refine Rj_gi (q := 67) (ki := 8) (v := nx) gD_Rr_39_84 rfl rfl h8 d_Rr_read_64 rfl ?_
        refine Rj_bipush (q := 69) d_Rr_read_67 rfl (by decide +kernel) ?_
        refine Rj_icmp_ne (q := 72) (t := 86) d_Rr_read_69 rfl (by decide) ⟨by omega, by omega⟩ (by decide) (fun c69 => ?_) (fun c69 => ?_)
        · refine Rj_aload_n (q := 87) d_Rr_read_86 rfl rfl rfl ?_
          refine Rj_gi (q := 90) (ki := 8) (v := nx) gD_Rr_39_84 rfl rfl h8 d_Rr_read_87 rfl ?_
          refine Rj_iconst (q := 91) d_Rr_read_90 rfl ?_
          refine Rj_irem (q := 92) d_Rr_read_91 rfl ⟨by omega, by omega⟩ (by decide) (by decide) ?_
          refine Rj_if_ne (q := 95) (t := 102) d_Rr_read_92 rfl (by decide) ⟨by omega, by omega⟩ (fun c92 => ?_) (fun c92 => ?_)
          · refine Rj_aload_n (q := 103) d_Rr_read_102 rfl rfl rfl ?_
            refine Rj_vov (q := 106) (z := y_Rr_readBehind) (as := []) (rest := []) (la := [vA 84]) oD_84_Rr_readBehind ml_Rr_60 mw_Rr_readBehind mv_Rr_readBehind rfl d_Rr_read_103 rfl rfl rfl rfl rfl ?_
            refine s_readBehind hC hI (by omega) (fun e m a1 a2 a3 a4 => ?_) (fun m k2 w2 cl2 vl2 nx2 D2 c2 a1 a2 a3 a4 a5 => ?_) (fun m D2 a1 a2 a3 => ?_)
            · have fr2 : Fr (Wru r) μ m := a2
              refine Rj_iinc (q := 109) (ls' := [vA 84, vI (i + 1)]) d_Rr_read_106 rfl rfl (by decide) rfl ?_
              refine Rj_goto (t := 37) d_Rr_read_109 (by decide) ?_
              refine Rj_pre (ls' := [vA 84, vI (i + 1)]) (t := []) rfl ?_
              exact s_read_bad (by omega) a3 a4 (hE e m (a1) fr2 a3 a4)
            · have fr2 : Fr (Wru r) μ m := a2
              refine Rj_iinc (q := 109) (ls' := [vA 84, vI (i + 1)]) d_Rr_read_106 rfl rfl (by decide) rfl ?_
              refine Rj_goto (t := 37) d_Rr_read_109 (by decide) ?_
              refine Rj_pre (ls' := [vA 84, vI (i + 1)]) (t := []) rfl ?_
              exact ih (μ := m) (by have := a4.1; omega) a3 a4 (by have := a4.1; omega) (fun e' m' b1 b2 b3 b4 => hE e' m' (a1 _ b1) (fr2.trans b2) b3 b4) (fun m' D' b1 b2 b3 => hF m' D' (a1 _ b1) (fr2.trans b2) b3)
            · have fr2 : Fr (Wru r) μ m := a2
              refine Rj_iinc (q := 109) (ls' := [vA 84, vI (i + 1)]) d_Rr_read_106 rfl rfl (by decide) rfl ?_
              refine Rj_goto (t := 37) d_Rr_read_109 (by decide) ?_
              refine Rj_pre (ls' := [vA 84, vI (i + 1)]) (t := []) rfl ?_
              exact s_read_fin (by omega) a3.1 a3.2.1 (hF m D2 a1 fr2 a3)
          · refine Rj_aload_n (q := 96) d_Rr_read_95 rfl rfl rfl ?_
            refine Rj_vov (q := 99) (z := y_Rr_readValue) (as := []) (rest := []) (la := [vA 84]) oD_84_Rr_readValue ml_Rr_57 mw_Rr_readValue mv_Rr_readValue rfl d_Rr_read_96 rfl rfl rfl rfl rfl ?_
            refine s_readValue hC hI (by omega) (fun q => c69 q.1) (fun e m a1 a2 a3 a4 => ?_) (fun m k2 w2 cl2 vl2 nx2 D2 c2 a1 a2 a3 a4 a5 => ?_)
            · have fr2 : Fr (Wru r) μ m := a2
              refine Rj_goto (t := 106) d_Rr_read_99 (by decide) ?_
              refine Rj_iinc (q := 109) (ls' := [vA 84, vI (i + 1)]) d_Rr_read_106 rfl rfl (by decide) rfl ?_
              refine Rj_goto (t := 37) d_Rr_read_109 (by decide) ?_
              refine Rj_pre (ls' := [vA 84, vI (i + 1)]) (t := []) rfl ?_
              exact s_read_bad (by omega) a3 a4 (hE e m (a1) fr2 a3 a4)
            · have fr2 : Fr (Wru r) μ m := a2
              refine Rj_goto (t := 106) d_Rr_read_99 (by decide) ?_
              refine Rj_iinc (q := 109) (ls' := [vA 84, vI (i + 1)]) d_Rr_read_106 rfl rfl (by decide) rfl ?_
              refine Rj_goto (t := 37) d_Rr_read_109 (by decide) ?_
              refine Rj_pre (ls' := [vA 84, vI (i + 1)]) (t := []) rfl ?_
              exact ih (μ := m) (by have := a4.1; omega) a3 a4 (by have := a4.1; omega) (fun e' m' b1 b2 b3 b4 => hE e' m' (a1 _ b1) (fr2.trans b2) b3 b4) (fun m' D' b1 b2 b3 => hF m' D' (a1 _ b1) (fr2.trans b2) b3)
        · refine Rj_aload_n (q := 73) d_Rr_read_72 rfl rfl rfl ?_
          refine Rj_vo (q := 76) (z := y_Rr_isOpener) (as := []) (rest := []) (la := [vA 84]) oD_84_Rr_isOpener ml_Rr_51 mw_Rr_isOpener mv_Rr_isOpener rfl d_Rr_read_73 rfl rfl rfl rfl rfl ?_
          refine Rj_aload_n (q := 1) d_Rr_isOpener_0 rfl rfl rfl ?_
          refine Rj_gr (q := 4) (zd := 2) gD_Rr_15_84 rfl rfl d_Rr_isOpener_1 rfl ?_
          refine Rj_vo (q := 7) (z := y_Sp_nextSign) (as := []) (rest := []) (la := [vA 2]) oD_2_Sp_nextSign ml_Rr_79 mw_Sp_nextSign mv_Sp_nextSign rfl d_Rr_isOpener_4 rfl rfl rfl rfl rfl ?_
          refine s_next (μ := μ) (A := A) (n := n) (k := k) (hT.keep rfl rfl) hk (by omega) ?_
          have r73_4 := sk_bd A (n := n) (k := k) (by omega)
          have v73_4 := nsV_rng hT (k := sk A n k) (by omega)
          refine Rj_bipush (q := 9) d_Rr_isOpener_7 rfl (by decide +kernel) ?_
          refine Rj_icmp_eq (q := 12) (t := 24) d_Rr_isOpener_9 rfl (by decide) ⟨by omega, by omega⟩ (by decide) (fun c73_9 => ?_) (fun c73_9 => ?_)
          · refine Rj_iconst (q := 25) d_Rr_isOpener_24 rfl ?_
            refine Rj_goto (t := 29) d_Rr_isOpener_25 (by decide) ?_
            refine Rj_bret1 d_Rr_isOpener_29 rfl ?_
            refine Rj_if_eq (q := 79) (t := 86) d_Rr_read_76 rfl (by decide) (by decide) (fun c => absurd c (by decide)) (fun _ => ?_)
            refine Rj_aload_n (q := 80) d_Rr_read_79 rfl rfl rfl ?_
            refine Rj_vov (q := 83) (z := y_Rr_readOpener) (as := []) (rest := []) (la := [vA 84]) oD_84_Rr_readOpener ml_Rr_54 mw_Rr_readOpener mv_Rr_readOpener rfl d_Rr_read_80 rfl rfl rfl rfl rfl ?_
            have fr0 : Fr (Wru r) μ ((mset μ 2 2 (sk A n k))) := (Fr.put (Fr.refl _ _) (by unfold Wru; omega))
            have cv : RC ((mset μ 2 2 (sk A n k))) A n r (sk A n k) w cl vl 6 D c := hC.upd (Fr.put (Fr.refl _ _) (by omega)) rfl h3 h4 h5 h6 h7 (h8.trans c69)
            have iv : IV n (sk A n k) w cl vl 6 D c := by rw [← c69]; exact hI.to (by omega) (by omega)
            refine s_readOpener cv iv (sk_idem _ _ _) (Or.inl ((ns_sgn hT (by omega) (by decide)).mp c73_9)) (fun e m a1 a2 a3 a4 => ?_) (fun m k2 w2 cl2 vl2 nx2 D2 c2 a1 a2 a3 a4 a5 => ?_)
            · have fr2 : Fr (Wru r) μ m := fr0.trans a2
              refine Rj_goto (t := 106) d_Rr_read_83 (by decide) ?_
              refine Rj_iinc (q := 109) (ls' := [vA 84, vI (i + 1)]) d_Rr_read_106 rfl rfl (by decide) rfl ?_
              refine Rj_goto (t := 37) d_Rr_read_109 (by decide) ?_
              refine Rj_pre (ls' := [vA 84, vI (i + 1)]) (t := []) rfl ?_
              exact s_read_bad (by omega) a3 a4 (hE e m ((by rw [c69]; exact RUN_sk a1)) fr2 a3 a4)
            · have fr2 : Fr (Wru r) μ m := fr0.trans a2
              refine Rj_goto (t := 106) d_Rr_read_83 (by decide) ?_
              refine Rj_iinc (q := 109) (ls' := [vA 84, vI (i + 1)]) d_Rr_read_106 rfl rfl (by decide) rfl ?_
              refine Rj_goto (t := 37) d_Rr_read_109 (by decide) ?_
              refine Rj_pre (ls' := [vA 84, vI (i + 1)]) (t := []) rfl ?_
              exact ih (μ := m) (by have := a4.1; omega) a3 a4 (by have := a4.1; omega) (fun e' m' b1 b2 b3 b4 => hE e' m' (by rw [c69]; exact RUN_sk (a1 _ b1)) (fr2.trans b2) b3 b4) (fun m' D' b1 b2 b3 => hF m' D' (by rw [c69]; exact RUN_sk (a1 _ b1)) (fr2.trans b2) b3)
          · refine Rj_aload_n (q := 13) d_Rr_isOpener_12 rfl rfl rfl ?_
            refine Rj_gr (q := 16) (zd := 2) gD_Rr_15_84 rfl rfl d_Rr_isOpener_13 rfl ?_
            refine Rj_ldcS (q := 18) (tx := "not") (k := 6) (z := 6) (by decide) rfl d_Rr_isOpener_16 rfl ?_
            refine Rj_vo (q := 21) (z := y_Sp_isAtWord) (as := [vK 6]) (rest := []) (la := [vA 2, vK 6]) oD_2_Sp_isAtWord ml_Rr_65 mw_Sp_isAtWord mv_Sp_isAtWord rfl d_Rr_isOpener_18 rfl rfl rfl rfl rfl ?_
            refine s_isAtWord (μ := (mset μ 2 2 (sk A n k))) (A := A) (n := n) (k := sk A n k) (w := 6) (hT.keep rfl rfl) rfl (by omega) rfl (by decide) ?_
            rw [wN_6]
            rw [sk_idem]
            by_cases w73_18 : wat A n (sk A n k) 7237492 = true
            · rw [bI_t w73_18]
              refine Rj_eqm (μ' := (mset μ 2 2 (sk A n k))) (mset_idv rfl) ?_
              refine Rj_if_eq (q := 24) (t := 28) d_Rr_isOpener_21 rfl (by decide) (by decide) (fun c => absurd c (by decide)) (fun _ => ?_)
              refine Rj_iconst (q := 25) d_Rr_isOpener_24 rfl ?_
              refine Rj_goto (t := 29) d_Rr_isOpener_25 (by decide) ?_
              refine Rj_bret1 d_Rr_isOpener_29 rfl ?_
              refine Rj_if_eq (q := 79) (t := 86) d_Rr_read_76 rfl (by decide) (by decide) (fun c => absurd c (by decide)) (fun _ => ?_)
              refine Rj_aload_n (q := 80) d_Rr_read_79 rfl rfl rfl ?_
              refine Rj_vov (q := 83) (z := y_Rr_readOpener) (as := []) (rest := []) (la := [vA 84]) oD_84_Rr_readOpener ml_Rr_54 mw_Rr_readOpener mv_Rr_readOpener rfl d_Rr_read_80 rfl rfl rfl rfl rfl ?_
              have fr0 : Fr (Wru r) μ ((mset μ 2 2 (sk A n k))) := (Fr.put (Fr.refl _ _) (by unfold Wru; omega))
              have cv : RC ((mset μ 2 2 (sk A n k))) A n r (sk A n k) w cl vl 6 D c := hC.upd (Fr.put (Fr.refl _ _) (by omega)) rfl h3 h4 h5 h6 h7 (h8.trans c69)
              have iv : IV n (sk A n k) w cl vl 6 D c := by rw [← c69]; exact hI.to (by omega) (by omega)
              refine s_readOpener cv iv (sk_idem _ _ _) (Or.inr w73_18) (fun e m a1 a2 a3 a4 => ?_) (fun m k2 w2 cl2 vl2 nx2 D2 c2 a1 a2 a3 a4 a5 => ?_)
              · have fr2 : Fr (Wru r) μ m := fr0.trans a2
                refine Rj_goto (t := 106) d_Rr_read_83 (by decide) ?_
                refine Rj_iinc (q := 109) (ls' := [vA 84, vI (i + 1)]) d_Rr_read_106 rfl rfl (by decide) rfl ?_
                refine Rj_goto (t := 37) d_Rr_read_109 (by decide) ?_
                refine Rj_pre (ls' := [vA 84, vI (i + 1)]) (t := []) rfl ?_
                exact s_read_bad (by omega) a3 a4 (hE e m ((by rw [c69]; exact RUN_sk a1)) fr2 a3 a4)
              · have fr2 : Fr (Wru r) μ m := fr0.trans a2
                refine Rj_goto (t := 106) d_Rr_read_83 (by decide) ?_
                refine Rj_iinc (q := 109) (ls' := [vA 84, vI (i + 1)]) d_Rr_read_106 rfl rfl (by decide) rfl ?_
                refine Rj_goto (t := 37) d_Rr_read_109 (by decide) ?_
                refine Rj_pre (ls' := [vA 84, vI (i + 1)]) (t := []) rfl ?_
                exact ih (μ := m) (by have := a4.1; omega) a3 a4 (by have := a4.1; omega) (fun e' m' b1 b2 b3 b4 => hE e' m' (by rw [c69]; exact RUN_sk (a1 _ b1)) (fr2.trans b2) b3 b4) (fun m' D' b1 b2 b3 => hF m' D' (by rw [c69]; exact RUN_sk (a1 _ b1)) (fr2.trans b2) b3)
            · rw [bI_f (bool_f w73_18)]
              refine Rj_eqm (μ' := (mset μ 2 2 (sk A n k))) (mset_idv rfl) ?_
              refine Rj_if_eq (q := 24) (t := 28) d_Rr_isOpener_21 rfl (by decide) (by decide) (fun _ => ?_) (fun c => absurd c (by decide))
              refine Rj_iconst (q := 29) d_Rr_isOpener_28 rfl ?_
              refine Rj_bret0 d_Rr_isOpener_29 rfl ?_
              refine Rj_if_eq (q := 79) (t := 86) d_Rr_read_76 rfl (by decide) (by decide) (fun _ => ?_) (fun c => absurd c (by decide))
              refine Rj_aload_n (q := 87) d_Rr_read_86 rfl rfl rfl ?_
              refine Rj_gi (q := 90) (ki := 8) (v := nx) gD_Rr_39_84 rfl rfl h8 d_Rr_read_87 rfl ?_
              refine Rj_iconst (q := 91) d_Rr_read_90 rfl ?_
              refine Rj_irem (q := 92) d_Rr_read_91 rfl ⟨by omega, by omega⟩ (by decide) (by decide) ?_
              refine Rj_if_ne (q := 95) (t := 102) d_Rr_read_92 rfl (by decide) ⟨by omega, by omega⟩ (fun c92 => ?_) (fun c92 => ?_)
              · refine Rj_aload_n (q := 103) d_Rr_read_102 rfl rfl rfl ?_
                refine Rj_vov (q := 106) (z := y_Rr_readBehind) (as := []) (rest := []) (la := [vA 84]) oD_84_Rr_readBehind ml_Rr_60 mw_Rr_readBehind mv_Rr_readBehind rfl d_Rr_read_103 rfl rfl rfl rfl rfl ?_
                exfalso
                omega
              · refine Rj_aload_n (q := 96) d_Rr_read_95 rfl rfl rfl ?_
                refine Rj_vov (q := 99) (z := y_Rr_readValue) (as := []) (rest := []) (la := [vA 84]) oD_84_Rr_readValue ml_Rr_57 mw_Rr_readValue mv_Rr_readValue rfl d_Rr_read_96 rfl rfl rfl rfl rfl ?_
                have fr0 : Fr (Wru r) μ ((mset μ 2 2 (sk A n k))) := (Fr.put (Fr.refl _ _) (by unfold Wru; omega))
                have cv : RC ((mset μ 2 2 (sk A n k))) A n r (sk A n k) w cl vl nx D c := hC.upd (Fr.put (Fr.refl _ _) (by omega)) rfl h3 h4 h5 h6 h7 h8
                have iv : IV n (sk A n k) w cl vl nx D c := hI.to (by omega) (by omega)
                refine s_readValue cv iv (by omega) (fun q => by rw [sk_idem] at q; exact q.2.elim (fun q1 => c73_9 ((ns_sgn hT (by omega) (by decide)).mpr q1)) w73_18) (fun e m a1 a2 a3 a4 => ?_) (fun m k2 w2 cl2 vl2 nx2 D2 c2 a1 a2 a3 a4 a5 => ?_)
                · have fr2 : Fr (Wru r) μ m := fr0.trans a2
                  refine Rj_goto (t := 106) d_Rr_read_99 (by decide) ?_
                  refine Rj_iinc (q := 109) (ls' := [vA 84, vI (i + 1)]) d_Rr_read_106 rfl rfl (by decide) rfl ?_
                  refine Rj_goto (t := 37) d_Rr_read_109 (by decide) ?_
                  refine Rj_pre (ls' := [vA 84, vI (i + 1)]) (t := []) rfl ?_
                  exact s_read_bad (by omega) a3 a4 (hE e m (RUN_sk a1) fr2 a3 a4)
                · have fr2 : Fr (Wru r) μ m := fr0.trans a2
                  refine Rj_goto (t := 106) d_Rr_read_99 (by decide) ?_
                  refine Rj_iinc (q := 109) (ls' := [vA 84, vI (i + 1)]) d_Rr_read_106 rfl rfl (by decide) rfl ?_
                  refine Rj_goto (t := 37) d_Rr_read_109 (by decide) ?_
                  refine Rj_pre (ls' := [vA 84, vI (i + 1)]) (t := []) rfl ?_
                  exact ih (μ := m) (by have := a4.1; omega) a3 a4 (by have := a4.1; omega) (fun e' m' b1 b2 b3 b4 => hE e' m' (RUN_sk (a1 _ b1)) (fr2.trans b2) b3 b4) (fun m' D' b1 b2 b3 => hF m' D' (RUN_sk (a1 _ b1)) (fr2.trans b2) b3)
set_option maxHeartbeats 4000000 in
theorem s_readRule {μ : Mem} {Q : PV → Mem → Prop} {A : Int → Int} {n r : Int} (hT : TD μ A n) (hk : μ 2 2 = 0) (hf0 : μ 2 3 = 0) (hr : μ 79 1 = r ∧ 0 ≤ r ∧ r < 6) (h81 : μ 81 r = 0) (hE : ∀ e μ', RUNN A n 0 0 0 [] (.error e) → Fr (Wru r) μ μ' → μ' 2 3 = e → (1 ≤ e ∧ e ≤ 5000) → Q vU μ') (hF : ∀ μ' D', RUNN A n 0 0 0 [] (.ok D') → Fr (Wru r) μ μ' → FIN μ' r D' → Q vU μ') : Rj YD y_Rr_read 0 [vA 84] [] μ Q := by
  have hn := hT.2.1
  have hX := hT.1.1
  refine Rj_aload_n (q := 1) d_Rr_read_0 rfl rfl rfl ?_
  refine Rj_iconst (q := 2) d_Rr_read_1 rfl ?_
  refine Rj_pi (q := 5) (ki := 3) pD_Rr_23_84 rfl rfl d_Rr_read_2 rfl ?_
  refine Rj_aload_n (q := 6) d_Rr_read_5 rfl rfl rfl ?_
  refine Rj_iconst (q := 7) d_Rr_read_6 rfl ?_
  refine Rj_pi (q := 10) (ki := 4) pD_Rr_27_84 rfl rfl d_Rr_read_7 rfl ?_
  refine Rj_aload_n (q := 11) d_Rr_read_10 rfl rfl rfl ?_
  refine Rj_iconst (q := 12) d_Rr_read_11 rfl ?_
  refine Rj_pi (q := 15) (ki := 5) pD_Rr_30_84 rfl rfl d_Rr_read_12 rfl ?_
  refine Rj_aload_n (q := 16) d_Rr_read_15 rfl rfl rfl ?_
  refine Rj_iconst (q := 17) d_Rr_read_16 rfl ?_
  refine Rj_pi (q := 20) (ki := 6) pD_Rr_33_84 rfl rfl d_Rr_read_17 rfl ?_
  refine Rj_aload_n (q := 21) d_Rr_read_20 rfl rfl rfl ?_
  refine Rj_iconst (q := 22) d_Rr_read_21 rfl ?_
  refine Rj_pi (q := 25) (ki := 7) pD_Rr_36_84 rfl rfl d_Rr_read_22 rfl ?_
  refine Rj_aload_n (q := 26) d_Rr_read_25 rfl rfl rfl ?_
  refine Rj_bipush (q := 28) d_Rr_read_26 rfl (by decide +kernel) ?_
  refine Rj_pi (q := 31) (ki := 8) pD_Rr_39_84 rfl rfl d_Rr_read_28 rfl ?_
  refine Rj_aload_n (q := 32) d_Rr_read_31 rfl rfl rfl ?_
  refine Rj_vov (q := 35) (z := y_Rr_startClause) (as := []) (rest := []) (la := [vA 84]) oD_84_Rr_startClause ml_Rr_42 mw_Rr_startClause mv_Rr_startClause rfl d_Rr_read_32 rfl rfl rfl rfl rfl ?_
  have fr0 : Fr (Wru r) μ ((mset (mset (mset (mset (mset (mset μ 84 3 0) 84 4 0) 84 5 0) 84 6 0) 84 7 0) 84 8 8)) := (Fr.put (Fr.put (Fr.put (Fr.put (Fr.put (Fr.put (Fr.refl _ _) (by unfold Wru; omega)) (by unfold Wru; omega)) (by unfold Wru; omega)) (by unfold Wru; omega)) (by unfold Wru; omega)) (by unfold Wru; omega))
  have c0 : RC ((mset (mset (mset (mset (mset (mset μ 84 3 0) 84 4 0) 84 5 0) 84 6 0) 84 7 0) 84 8 8)) A n r 0 [] 0 0 8 [] ([], none) := ⟨hT.keep rfl rfl, hk, hf0, rfl, rfl, rfl, rfl, rfl, rfl, trivial, hr, trivial, h81⟩
  refine s_startClause c0 ⟨by decide, hX.1, hX.2⟩ (by decide) (by decide) (by decide) (fun e m a1 a2 a3 a4 => ?_) (fun m k2 a1 a2 a3 a4 a5 => ?_)
  · have zz := True.intro
    refine Rj_iconst (q := 36) d_Rr_read_35 rfl ?_
    refine Rj_istore_n (q := 37) (ls' := [vA 84, vI 0]) d_Rr_read_36 rfl rfl (by decide) rfl ?_
    exact s_read_bad (by decide) a3 a4 (hE e m a1 (fr0.trans a2) a3 a4)
  · have zz := True.intro
    refine Rj_iconst (q := 36) d_Rr_read_35 rfl ?_
    refine Rj_istore_n (q := 37) (ls' := [vA 84, vI 0]) d_Rr_read_36 rfl rfl (by decide) rfl ?_
    exact s_read_37 _ (Nat.lt_succ_self _) a3 a4 (by have := a4.1; omega) (fun e' m' b1 b2 b3 b4 => hE e' m' (a1 _ b1) ((fr0.trans a2).trans b2) b3 b4) (fun m' D' b1 b2 b3 => hF m' D' (a1 _ b1) ((fr0.trans a2).trans b2) b3)
