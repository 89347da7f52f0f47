theorem oM_0_M_placeAt : OI YM 0 y_M_placeAt := ⟨by decide, _, _, _, cM_0, rfl⟩
/-! the reference: may a set stand so, is it as wanted -/
set_option maxHeartbeats 4000000 in
theorem s_M_placeAt {μ : Mem} {Q : PV → Mem → Prop} (h : MX μ) {l b x : Int} (hb : RB (μ 11) (μ 14) (μ 15) (μ 16) l 2001 b) (hi : i64 b) (hx : 0 ≤ x ∧ x < μ 11 0) (hl : μ 14 x = l) (hQ : Q (vL (plc (μ 15) (μ 16) (μ 12) x b)) μ) : Rj YM y_M_placeAt 0 [vA 0, vI x, vL b, vU] [] μ Q := by
  obtain ⟨hS, hH, hP, hB, hFx⟩ := id h
  obtain ⟨z0, z1, z6, z5⟩ := h.z
  obtain ⟨tr, sr, lr, kr, ur, un, dr⟩ := Hu_d hS hH hx
  refine Rj_aload_n (q := 1) d_M_placeAt_0 rfl rfl rfl ?_
  refine Rj_gr (q := 4) (zd := 12) gM_M_45_0 rfl rfl d_M_placeAt_1 rfl ?_
  refine Rj_iload_n (q := 5) d_M_placeAt_4 rfl rfl rfl ?_
  refine Rj_la (q := 6) (v := μ 12 x) aM_12 rfl (by omega) rfl d_M_placeAt_5 rfl ?_
  refine Rj_lload_n (q := 7) d_M_placeAt_6 rfl rfl rfl ?_
  refine Rj_aload_n (q := 8) d_M_placeAt_7 rfl rfl rfl ?_
  refine Rj_gr (q := 11) (zd := 16) gM_M_57_0 rfl rfl d_M_placeAt_8 rfl ?_
  refine Rj_iload_n (q := 12) d_M_placeAt_11 rfl rfl rfl ?_
  refine Rj_la (q := 13) (v := μ 16 x) aM_16 rfl (by omega) rfl d_M_placeAt_12 rfl ?_
  refine Rj_ldiv (q := 14) d_M_placeAt_13 rfl (by first | exact hi | exact ⟨by omega, by omega⟩) (by first | exact hi | exact ⟨by omega, by omega⟩) (by omega) ?_
  refine Rj_aload_n (q := 15) d_M_placeAt_14 rfl rfl rfl ?_
  refine Rj_gr (q := 18) (zd := 15) gM_M_54_0 rfl rfl d_M_placeAt_15 rfl ?_
  refine Rj_iload_n (q := 19) d_M_placeAt_18 rfl rfl rfl ?_
  refine Rj_la (q := 20) (v := μ 15 x) aM_15 rfl (by omega) rfl d_M_placeAt_19 rfl ?_
  refine Rj_lmul (q := 21) d_M_placeAt_20 rfl ?_
  refine Rj_ladd (q := 22) d_M_placeAt_21 rfl ?_
  refine Rj_lret d_M_placeAt_22 rfl ?_
  exact hQ
set_option maxHeartbeats 4000000 in
theorem s_M_mayStand_l : ∀ (f : Nat) {μ : Mem} {Q : PV → Mem → Prop} {l b wt d : Int}, ((μ 11 0 - d).toNat < f) → (MX μ) → (RB (μ 11) (μ 14) (μ 15) (μ 16) l 2001 b) → (i64 b) → (0 ≤ l ∧ l < 12) → (0 ≤ wt ∧ wt ≤ 2147483647) → (0 ≤ d ∧ d ≤ μ 11 0) → (∀ x, 0 ≤ x → x < d → μ 14 x = l → byd (μ 11) (pts (μ 11)) x (plc (μ 15) (μ 16) (μ 12) x b) = false ∧ (zbit wt x = 1 → opn (μ 11) (pts (μ 11)) x (plc (μ 15) (μ 16) (μ 12) x b) = false)) → (std (μ 11) (μ 14) (μ 15) (μ 16) (μ 12) l wt b → Q (vI 1) μ) → (¬ std (μ 11) (μ 14) (μ 15) (μ 16) (μ 12) l wt b → Q (vI 0) μ) → Rj YM y_M_mayStand 3 [vA 0, vI l, vL b, vU, vI wt, vI d] [] μ Q := by
  intro f
  induction f with
  | zero => intro μ Q l b wt d hf h hb hi hl hw hd hp h1 h0; exact absurd hf (by omega)
  | succ f ih =>
    intro μ Q l b wt d hf h hb hi hl hw hd hp h1 h0
    obtain ⟨hS, hH, hP, hB, hFx⟩ := id h
    obtain ⟨z0, z1, z6, z5⟩ := h.z
    refine Rj_iload (q := 5) d_M_mayStand_3 rfl rfl ?_
    refine Rj_aload_n (q := 6) d_M_mayStand_5 rfl rfl rfl ?_
    refine Rj_gr (q := 9) (zd := 11) gM_M_42_0 rfl rfl d_M_mayStand_6 rfl ?_
    refine Rj_iconst (q := 10) d_M_mayStand_9 rfl ?_
    refine Rj_ia (q := 11) (v := μ 11 0) aM_11 rfl (by decide) rfl d_M_mayStand_10 rfl ?_
    refine Rj_icmp_ge (q := 14) (t := 75) d_M_mayStand_11 rfl (by decide) ⟨by omega, by omega⟩ ⟨by omega, by omega⟩ (fun c11 => ?_) (fun c11 => ?_)
    · refine Rj_iconst (q := 76) d_M_mayStand_75 rfl ?_
      refine Rj_bret1 d_M_mayStand_76 rfl ?_
      exact h1 (fun x x0 x1 x2 => hp x x0 (by omega) x2)
    · have hd2 : 0 ≤ d ∧ d < μ 11 0 := ⟨hd.1, by omega⟩
      obtain ⟨tr, sr, lr, kr, ur, un, dr⟩ := Hu_d hS hH hd2
      have pb := hB d hd.1 (by omega)
      refine Rj_aload_n (q := 15) d_M_mayStand_14 rfl rfl rfl ?_
      refine Rj_gr (q := 18) (zd := 14) gM_M_51_0 rfl rfl d_M_mayStand_15 rfl ?_
      refine Rj_iload (q := 20) d_M_mayStand_18 rfl rfl ?_
      refine Rj_ia (q := 21) (v := μ 14 d) aM_14 rfl (by omega) rfl d_M_mayStand_20 rfl ?_
      refine Rj_iload_n (q := 22) d_M_mayStand_21 rfl rfl rfl ?_
      refine Rj_icmp_ne (q := 25) (t := 69) d_M_mayStand_22 rfl (by decide) ⟨by omega, by omega⟩ ⟨by omega, by omega⟩ (fun c22 => ?_) (fun c22 => ?_)
      · refine Rj_iinc (q := 72) (ls' := [vA 0, vI l, vL b, vU, vI wt, vI (d + 1)]) d_M_mayStand_69 rfl rfl (by decide) rfl ?_
        refine Rj_goto (t := 3) d_M_mayStand_72 (by decide) ?_
        refine ih (by omega) h hb hi hl hw (by omega) (fun x x0 x1 x2 => ?_) h1 h0
        by_cases e : x = d
        · subst e
          first
          | exact absurd x2 (by omega)
          | exact ⟨c38, fun q => absurd q c48⟩
          | exact ⟨c38, fun _ => c64⟩
        · exact hp x x0 (by omega) x2
      · have ra := hb.at hS hH hd2 (by omega)
        have hpl : -4000000000000000000 ≤ plc (μ 15) (μ 16) (μ 12) d b ∧ plc (μ 15) (μ 16) (μ 12) d b ≤ 4000000000000000000 := by unfold plc; omega
        refine Rj_aload_n (q := 26) d_M_mayStand_25 rfl rfl rfl ?_
        refine Rj_iload (q := 28) d_M_mayStand_26 rfl rfl ?_
        refine Rj_aload_n (q := 29) d_M_mayStand_28 rfl rfl rfl ?_
        refine Rj_iload (q := 31) d_M_mayStand_29 rfl rfl ?_
        refine Rj_lload_n (q := 32) d_M_mayStand_31 rfl rfl rfl ?_
        refine Rj_vo (q := 35) (z := y_M_placeAt) (as := [vI d, vL b]) (rest := [vI d, vA 0]) (la := [vA 0, vI d, vL b, vU]) oM_0_M_placeAt ml_M_391 mw_M_placeAt mv_M_placeAt rfl d_M_mayStand_32 rfl rfl rfl rfl rfl ?_
        refine s_M_placeAt h hb hi ⟨by omega, by omega⟩ (by omega) ?_
        refine Rj_vo (q := 38) (z := y_M_isBeyond) (as := [vI d, vL (plc (μ 15) (μ 16) (μ 12) d b)]) (rest := []) (la := [vA 0, vI d, vL (plc (μ 15) (μ 16) (μ 12) d b), vU]) oM_0_M_isBeyond ml_M_369 mw_M_isBeyond mv_M_isBeyond rfl d_M_mayStand_35 rfl rfl rfl rfl rfl ?_
        refine s_M_isBeyond h ⟨by omega, by omega⟩ (by omega) ?_
        refine Rj_b_ne (q := 41) (t := 67) d_M_mayStand_38 rfl (by decide) (fun c38 => ?_) (fun c38 => ?_)
        · refine Rj_iconst (q := 68) d_M_mayStand_67 rfl ?_
          refine Rj_bret0 d_M_mayStand_68 rfl ?_
          exact h0 (fun q => by have := q d hd.1 hd2.2 (by omega); first | exact absurd (c38.symm.trans this.1) (by decide) | exact absurd (c64.symm.trans (this.2 c48)) (by decide))
        · refine Rj_iload (q := 43) d_M_mayStand_41 rfl rfl ?_
          refine Rj_iload (q := 45) d_M_mayStand_43 rfl rfl ?_
          refine Rj_cs (q := 48) (z := y_M_isOf) (as := [vI wt, vI d]) (rest := []) (la := [vI wt, vI d]) ml_M_317 mw_M_isOf ms_M_isOf d_M_mayStand_45 rfl rfl rfl rfl rfl ?_
          refine s_M_isOf ⟨by omega, by omega⟩ (by omega) ?_
          refine Rj_b_eq (q := 51) (t := 69) d_M_mayStand_48 rfl (by decide) (fun c48 => ?_) (fun c48 => ?_)
          · have c48 := of_decide_eq_false c48
            refine Rj_iinc (q := 72) (ls' := [vA 0, vI l, vL b, vU, vI wt, vI (d + 1)]) d_M_mayStand_69 rfl rfl (by decide) rfl ?_
            refine Rj_goto (t := 3) d_M_mayStand_72 (by decide) ?_
            refine ih (by omega) h hb hi hl hw (by omega) (fun x x0 x1 x2 => ?_) h1 h0
            by_cases e : x = d
            · subst e
              first
              | exact absurd x2 (by omega)
              | exact ⟨c38, fun q => absurd q c48⟩
              | exact ⟨c38, fun _ => c64⟩
            · exact hp x x0 (by omega) x2
          · have c48 := of_decide_eq_true c48
            refine Rj_aload_n (q := 52) d_M_mayStand_51 rfl rfl rfl ?_
            refine Rj_iload (q := 54) d_M_mayStand_52 rfl rfl ?_
            refine Rj_aload_n (q := 55) d_M_mayStand_54 rfl rfl rfl ?_
            refine Rj_iload (q := 57) d_M_mayStand_55 rfl rfl ?_
            refine Rj_lload_n (q := 58) d_M_mayStand_57 rfl rfl rfl ?_
            refine Rj_vo (q := 61) (z := y_M_placeAt) (as := [vI d, vL b]) (rest := [vI d, vA 0]) (la := [vA 0, vI d, vL b, vU]) oM_0_M_placeAt ml_M_391 mw_M_placeAt mv_M_placeAt rfl d_M_mayStand_58 rfl rfl rfl rfl rfl ?_
            refine s_M_placeAt h hb hi ⟨by omega, by omega⟩ (by omega) ?_
            refine Rj_vo (q := 64) (z := y_M_isOpenAt) (as := [vI d, vL (plc (μ 15) (μ 16) (μ 12) d b)]) (rest := []) (la := [vA 0, vI d, vL (plc (μ 15) (μ 16) (μ 12) d b), vU]) oM_0_M_isOpenAt ml_M_346 mw_M_isOpenAt mv_M_isOpenAt rfl d_M_mayStand_61 rfl rfl rfl rfl rfl ?_
            refine s_M_isOpenAt h ⟨by omega, by omega⟩ (by omega) ?_
            refine Rj_b_eq (q := 67) (t := 69) d_M_mayStand_64 rfl (by decide) (fun c64 => ?_) (fun c64 => ?_)
            · refine Rj_iinc (q := 72) (ls' := [vA 0, vI l, vL b, vU, vI wt, vI (d + 1)]) d_M_mayStand_69 rfl rfl (by decide) rfl ?_
              refine Rj_goto (t := 3) d_M_mayStand_72 (by decide) ?_
              refine ih (by omega) h hb hi hl hw (by omega) (fun x x0 x1 x2 => ?_) h1 h0
              by_cases e : x = d
              · subst e
                first
                | exact absurd x2 (by omega)
                | exact ⟨c38, fun q => absurd q c48⟩
                | exact ⟨c38, fun _ => c64⟩
              · exact hp x x0 (by omega) x2
            · refine Rj_iconst (q := 68) d_M_mayStand_67 rfl ?_
              refine Rj_bret0 d_M_mayStand_68 rfl ?_
              exact h0 (fun q => by have := q d hd.1 hd2.2 (by omega); first | exact absurd (c38.symm.trans this.1) (by decide) | exact absurd (c64.symm.trans (this.2 c48)) (by decide))
set_option maxHeartbeats 4000000 in
theorem s_M_mayStand {μ : Mem} {Q : PV → Mem → Prop} (h : MX μ) {l b wt : Int} (hb : RB (μ 11) (μ 14) (μ 15) (μ 16) l 2001 b) (hi : i64 b) (hl : 0 ≤ l ∧ l < 12) (hw : 0 ≤ wt ∧ wt ≤ 2147483647) (h1 : std (μ 11) (μ 14) (μ 15) (μ 16) (μ 12) l wt b → Q (vI 1) μ) (h0 : ¬ std (μ 11) (μ 14) (μ 15) (μ 16) (μ 12) l wt b → Q (vI 0) μ) : Rj YM y_M_mayStand 0 [vA 0, vI l, vL b, vU, vI wt] [] μ Q := by
  obtain ⟨z0, z1, z6, z5⟩ := h.z
  refine Rj_iconst (q := 1) d_M_mayStand_0 rfl ?_
  refine Rj_istore (q := 3) (ls' := [vA 0, vI l, vL b, vU, vI wt, vI 0]) d_M_mayStand_1 rfl (by decide) rfl ?_
  exact s_M_mayStand_l _ (Nat.lt_succ_self _) h hb hi hl hw (by omega) (fun x x0 x1 => by omega) h1 h0
set_option maxHeartbeats 4000000 in
theorem s_M_isWanted_l : ∀ (f : Nat) {μ : Mem} {Q : PV → Mem → Prop} {l b d : Int}, ((μ 11 0 - d).toNat < f) → (MX μ) → (RB (μ 11) (μ 14) (μ 15) (μ 16) l 2001 b) → (i64 b) → (0 ≤ l ∧ l < 12) → (0 ≤ μ 11 3 ∧ μ 11 3 ≤ 2147483647) → (0 ≤ μ 11 4 ∧ μ 11 4 ≤ 2147483647) → (∀ x, 0 ≤ x → x < μ 11 0 → μ 14 x = l → μ 17 x = 1 → b = 0) → (0 ≤ d ∧ d ≤ μ 11 0) → (∀ x, 0 ≤ x → x < d → μ 14 x = l → (zbit (μ 11 3) x = 1 → opn (μ 11) (pts (μ 11)) x (plc (μ 15) (μ 16) (μ 12) x b) = true) ∧ (zbit (μ 11 4) x = 1 → opn (μ 11) (pts (μ 11)) x (plc (μ 15) (μ 16) (μ 12) x b) = false)) → (wtd (μ 11) (μ 14) (μ 15) (μ 16) (μ 12) l b → Q (vI 1) μ) → (¬ wtd (μ 11) (μ 14) (μ 15) (μ 16) (μ 12) l b → Q (vI 0) μ) → Rj YM y_M_isWanted 3 [vA 0, vI l, vL b, vU, vI d] [] μ Q := by
  intro f
  induction f with
  | zero => intro μ Q l b d hf h hb hi hl hw3 hw4 hk0 hd hp h1 h0; exact absurd hf (by omega)
  | succ f ih =>
    intro μ Q l b d hf h hb hi hl hw3 hw4 hk0 hd hp h1 h0
    obtain ⟨hS, hH, hP, hB, hFx⟩ := id h
    obtain ⟨z0, z1, z6, z5⟩ := h.z
    refine Rj_iload (q := 5) d_M_isWanted_3 rfl rfl ?_
    refine Rj_aload_n (q := 6) d_M_isWanted_5 rfl rfl rfl ?_
    refine Rj_gr (q := 9) (zd := 11) gM_M_42_0 rfl rfl d_M_isWanted_6 rfl ?_
    refine Rj_iconst (q := 10) d_M_isWanted_9 rfl ?_
    refine Rj_ia (q := 11) (v := μ 11 0) aM_11 rfl (by decide) rfl d_M_isWanted_10 rfl ?_
    refine Rj_icmp_ge (q := 14) (t := 115) d_M_isWanted_11 rfl (by decide) ⟨by omega, by omega⟩ ⟨by omega, by omega⟩ (fun c11 => ?_) (fun c11 => ?_)
    · refine Rj_iconst (q := 116) d_M_isWanted_115 rfl ?_
      refine Rj_bret1 d_M_isWanted_116 rfl ?_
      exact h1 (fun x x0 x1 x2 => hp x x0 (by omega) x2)
    · have hd2 : 0 ≤ d ∧ d < μ 11 0 := ⟨hd.1, by omega⟩
      obtain ⟨tr, sr, lr, kr, ur, un, dr⟩ := Hu_d hS hH hd2
      have pb := hB d hd.1 (by omega)
      refine Rj_aload_n (q := 15) d_M_isWanted_14 rfl rfl rfl ?_
      refine Rj_gr (q := 18) (zd := 14) gM_M_51_0 rfl rfl d_M_isWanted_15 rfl ?_
      refine Rj_iload (q := 20) d_M_isWanted_18 rfl rfl ?_
      refine Rj_ia (q := 21) (v := μ 14 d) aM_14 rfl (by omega) rfl d_M_isWanted_20 rfl ?_
      refine Rj_iload_n (q := 22) d_M_isWanted_21 rfl rfl rfl ?_
      refine Rj_icmp_eq (q := 25) (t := 28) d_M_isWanted_22 rfl (by decide) ⟨by omega, by omega⟩ ⟨by omega, by omega⟩ (fun c22 => ?_) (fun c22 => ?_)
      · have ra := hb.at hS hH hd2 (by omega)
        have hpl : -4000000000000000000 ≤ plc (μ 15) (μ 16) (μ 12) d b ∧ plc (μ 15) (μ 16) (μ 12) d b ≤ 4000000000000000000 := by unfold plc; omega
        refine Rj_aload_n (q := 29) d_M_isWanted_28 rfl rfl rfl ?_
        refine Rj_gr (q := 32) (zd := 17) gM_M_60_0 rfl rfl d_M_isWanted_29 rfl ?_
        refine Rj_iload (q := 34) d_M_isWanted_32 rfl rfl ?_
        refine Rj_za (q := 35) (v := μ 17 d) aM_17 rfl (by omega) rfl d_M_isWanted_34 rfl ?_
        refine Rj_if_eq (q := 38) (t := 48) d_M_isWanted_35 rfl (by decide) ⟨by omega, by omega⟩ (fun c35 => ?_) (fun c35 => ?_)
        · refine Rj_aload_n (q := 49) d_M_isWanted_48 rfl rfl rfl ?_
          refine Rj_iload (q := 51) d_M_isWanted_49 rfl rfl ?_
          refine Rj_lload_n (q := 52) d_M_isWanted_51 rfl rfl rfl ?_
          refine Rj_vo (q := 55) (z := y_M_placeAt) (as := [vI d, vL b]) (rest := []) (la := [vA 0, vI d, vL b, vU]) oM_0_M_placeAt ml_M_391 mw_M_placeAt mv_M_placeAt rfl d_M_isWanted_52 rfl rfl rfl rfl rfl ?_
          refine s_M_placeAt h hb hi ⟨by omega, by omega⟩ (by omega) ?_
          refine Rj_lstore (q := 57) (ls' := [vA 0, vI l, vL b, vU, vI d, vL (plc (μ 15) (μ 16) (μ 12) d b), vU]) d_M_isWanted_55 rfl (by decide) rfl ?_
          refine Rj_aload_n (q := 58) d_M_isWanted_57 rfl rfl rfl ?_
          refine Rj_gr (q := 61) (zd := 11) gM_M_42_0 rfl rfl d_M_isWanted_58 rfl ?_
          refine Rj_iconst (q := 62) d_M_isWanted_61 rfl ?_
          refine Rj_ia (q := 63) (v := μ 11 3) aM_11 rfl (by decide) rfl d_M_isWanted_62 rfl ?_
          refine Rj_iload (q := 65) d_M_isWanted_63 rfl rfl ?_
          refine Rj_cs (q := 68) (z := y_M_isOf) (as := [vI (μ 11 3), vI d]) (rest := []) (la := [vI (μ 11 3), vI d]) ml_M_317 mw_M_isOf ms_M_isOf d_M_isWanted_65 rfl rfl rfl rfl rfl ?_
          refine s_M_isOf ⟨by omega, by omega⟩ (by omega) ?_
          refine Rj_b_eq (q := 71) (t := 82) d_M_isWanted_68 rfl (by decide) (fun c68 => ?_) (fun c68 => ?_)
          · have c68 := of_decide_eq_false c68
            refine Rj_aload_n (q := 83) d_M_isWanted_82 rfl rfl rfl ?_
            refine Rj_gr (q := 86) (zd := 11) gM_M_42_0 rfl rfl d_M_isWanted_83 rfl ?_
            refine Rj_iconst (q := 87) d_M_isWanted_86 rfl ?_
            refine Rj_ia (q := 88) (v := μ 11 4) aM_11 rfl (by decide) rfl d_M_isWanted_87 rfl ?_
            refine Rj_iload (q := 90) d_M_isWanted_88 rfl rfl ?_
            refine Rj_cs (q := 93) (z := y_M_isOf) (as := [vI (μ 11 4), vI d]) (rest := []) (la := [vI (μ 11 4), vI d]) ml_M_317 mw_M_isOf ms_M_isOf d_M_isWanted_90 rfl rfl rfl rfl rfl ?_
            refine s_M_isOf ⟨by omega, by omega⟩ (by omega) ?_
            refine Rj_b_eq (q := 96) (t := 109) d_M_isWanted_93 rfl (by decide) (fun c93 => ?_) (fun c93 => ?_)
            · have c93 := of_decide_eq_false c93
              refine Rj_iinc (q := 112) (ls' := [vA 0, vI l, vL b, vU, vI (d + 1), vL (plc (μ 15) (μ 16) (μ 12) d b), vU]) d_M_isWanted_109 rfl rfl (by decide) rfl ?_
              refine Rj_goto (t := 3) d_M_isWanted_112 (by decide) ?_
              refine Rj_pre (ls' := [vA 0, vI l, vL b, vU, vI (d + 1)]) (t := [vL (plc (μ 15) (μ 16) (μ 12) d b), vU]) rfl ?_
              refine ih (d := d + 1) (by omega) h hb hi hl hw3 hw4 hk0 (by omega) (fun x x0 x1 x2 => ?_) h1 h0
              by_cases e : x = d
              · subst e
                first
                | exact absurd x2 (by omega)
                | exact ⟨fun q => absurd q c68, fun q => absurd q c93⟩
                | exact ⟨fun q => absurd q c68, fun _ => c104⟩
                | exact ⟨fun _ => c79, fun q => absurd q c93⟩
                | exact ⟨fun _ => c79, fun _ => c104⟩
              · exact hp x x0 (by omega) x2
            · have c93 := of_decide_eq_true c93
              refine Rj_aload_n (q := 97) d_M_isWanted_96 rfl rfl rfl ?_
              refine Rj_iload (q := 99) d_M_isWanted_97 rfl rfl ?_
              refine Rj_lload (q := 101) d_M_isWanted_99 rfl rfl ?_
              refine Rj_vo (q := 104) (z := y_M_isOpenAt) (as := [vI d, vL (plc (μ 15) (μ 16) (μ 12) d b)]) (rest := []) (la := [vA 0, vI d, vL (plc (μ 15) (μ 16) (μ 12) d b), vU]) oM_0_M_isOpenAt ml_M_346 mw_M_isOpenAt mv_M_isOpenAt rfl d_M_isWanted_101 rfl rfl rfl rfl rfl ?_
              refine s_M_isOpenAt h ⟨by omega, by omega⟩ (by omega) ?_
              refine Rj_b_eq (q := 107) (t := 109) d_M_isWanted_104 rfl (by decide) (fun c104 => ?_) (fun c104 => ?_)
              · refine Rj_iinc (q := 112) (ls' := [vA 0, vI l, vL b, vU, vI (d + 1), vL (plc (μ 15) (μ 16) (μ 12) d b), vU]) d_M_isWanted_109 rfl rfl (by decide) rfl ?_
                refine Rj_goto (t := 3) d_M_isWanted_112 (by decide) ?_
                refine Rj_pre (ls' := [vA 0, vI l, vL b, vU, vI (d + 1)]) (t := [vL (plc (μ 15) (μ 16) (μ 12) d b), vU]) rfl ?_
                refine ih (d := d + 1) (by omega) h hb hi hl hw3 hw4 hk0 (by omega) (fun x x0 x1 x2 => ?_) h1 h0
                by_cases e : x = d
                · subst e
                  first
                  | exact absurd x2 (by omega)
                  | exact ⟨fun q => absurd q c68, fun q => absurd q c93⟩
                  | exact ⟨fun q => absurd q c68, fun _ => c104⟩
                  | exact ⟨fun _ => c79, fun q => absurd q c93⟩
                  | exact ⟨fun _ => c79, fun _ => c104⟩
                · exact hp x x0 (by omega) x2
              · refine Rj_iconst (q := 108) d_M_isWanted_107 rfl ?_
                refine Rj_bret0 d_M_isWanted_108 rfl ?_
                exact h0 (fun q => by have := q d hd.1 hd2.2 (by omega); first | exact absurd (c79.symm.trans (this.1 c68)) (by decide) | exact absurd (c104.symm.trans (this.2 c93)) (by decide))
          · have c68 := of_decide_eq_true c68
            refine Rj_aload_n (q := 72) d_M_isWanted_71 rfl rfl rfl ?_
            refine Rj_iload (q := 74) d_M_isWanted_72 rfl rfl ?_
            refine Rj_lload (q := 76) d_M_isWanted_74 rfl rfl ?_
            refine Rj_vo (q := 79) (z := y_M_isOpenAt) (as := [vI d, vL (plc (μ 15) (μ 16) (μ 12) d b)]) (rest := []) (la := [vA 0, vI d, vL (plc (μ 15) (μ 16) (μ 12) d b), vU]) oM_0_M_isOpenAt ml_M_346 mw_M_isOpenAt mv_M_isOpenAt rfl d_M_isWanted_76 rfl rfl rfl rfl rfl ?_
            refine s_M_isOpenAt h ⟨by omega, by omega⟩ (by omega) ?_
            refine Rj_b_eq (q := 82) (t := 107) d_M_isWanted_79 rfl (by decide) (fun c79 => ?_) (fun c79 => ?_)
            · refine Rj_iconst (q := 108) d_M_isWanted_107 rfl ?_
              refine Rj_bret0 d_M_isWanted_108 rfl ?_
              exact h0 (fun q => by have := q d hd.1 hd2.2 (by omega); first | exact absurd (c79.symm.trans (this.1 c68)) (by decide) | exact absurd (c104.symm.trans (this.2 c93)) (by decide))
            · refine Rj_aload_n (q := 83) d_M_isWanted_82 rfl rfl rfl ?_
              refine Rj_gr (q := 86) (zd := 11) gM_M_42_0 rfl rfl d_M_isWanted_83 rfl ?_
              refine Rj_iconst (q := 87) d_M_isWanted_86 rfl ?_
              refine Rj_ia (q := 88) (v := μ 11 4) aM_11 rfl (by decide) rfl d_M_isWanted_87 rfl ?_
              refine Rj_iload (q := 90) d_M_isWanted_88 rfl rfl ?_
              refine Rj_cs (q := 93) (z := y_M_isOf) (as := [vI (μ 11 4), vI d]) (rest := []) (la := [vI (μ 11 4), vI d]) ml_M_317 mw_M_isOf ms_M_isOf d_M_isWanted_90 rfl rfl rfl rfl rfl ?_
              refine s_M_isOf ⟨by omega, by omega⟩ (by omega) ?_
              refine Rj_b_eq (q := 96) (t := 109) d_M_isWanted_93 rfl (by decide) (fun c93 => ?_) (fun c93 => ?_)
              · have c93 := of_decide_eq_false c93
                refine Rj_iinc (q := 112) (ls' := [vA 0, vI l, vL b, vU, vI (d + 1), vL (plc (μ 15) (μ 16) (μ 12) d b), vU]) d_M_isWanted_109 rfl rfl (by decide) rfl ?_
                refine Rj_goto (t := 3) d_M_isWanted_112 (by decide) ?_
                refine Rj_pre (ls' := [vA 0, vI l, vL b, vU, vI (d + 1)]) (t := [vL (plc (μ 15) (μ 16) (μ 12) d b), vU]) rfl ?_
                refine ih (d := d + 1) (by omega) h hb hi hl hw3 hw4 hk0 (by omega) (fun x x0 x1 x2 => ?_) h1 h0
                by_cases e : x = d
                · subst e
                  first
                  | exact absurd x2 (by omega)
                  | exact ⟨fun q => absurd q c68, fun q => absurd q c93⟩
                  | exact ⟨fun q => absurd q c68, fun _ => c104⟩
                  | exact ⟨fun _ => c79, fun q => absurd q c93⟩
                  | exact ⟨fun _ => c79, fun _ => c104⟩
                · exact hp x x0 (by omega) x2
              · have c93 := of_decide_eq_true c93
                refine Rj_aload_n (q := 97) d_M_isWanted_96 rfl rfl rfl ?_
                refine Rj_iload (q := 99) d_M_isWanted_97 rfl rfl ?_
                refine Rj_lload (q := 101) d_M_isWanted_99 rfl rfl ?_
                refine Rj_vo (q := 104) (z := y_M_isOpenAt) (as := [vI d, vL (plc (μ 15) (μ 16) (μ 12) d b)]) (rest := []) (la := [vA 0, vI d, vL (plc (μ 15) (μ 16) (μ 12) d b), vU]) oM_0_M_isOpenAt ml_M_346 mw_M_isOpenAt mv_M_isOpenAt rfl d_M_isWanted_101 rfl rfl rfl rfl rfl ?_
                refine s_M_isOpenAt h ⟨by omega, by omega⟩ (by omega) ?_
                refine Rj_b_eq (q := 107) (t := 109) d_M_isWanted_104 rfl (by decide) (fun c104 => ?_) (fun c104 => ?_)
                · refine Rj_iinc (q := 112) (ls' := [vA 0, vI l, vL b, vU, vI (d + 1), vL (plc (μ 15) (μ 16) (μ 12) d b), vU]) d_M_isWanted_109 rfl rfl (by decide) rfl ?_
                  refine Rj_goto (t := 3) d_M_isWanted_112 (by decide) ?_
                  refine Rj_pre (ls' := [vA 0, vI l, vL b, vU, vI (d + 1)]) (t := [vL (plc (μ 15) (μ 16) (μ 12) d b), vU]) rfl ?_
                  refine ih (d := d + 1) (by omega) h hb hi hl hw3 hw4 hk0 (by omega) (fun x x0 x1 x2 => ?_) h1 h0
                  by_cases e : x = d
                  · subst e
                    first
                    | exact absurd x2 (by omega)
                    | exact ⟨fun q => absurd q c68, fun q => absurd q c93⟩
                    | exact ⟨fun q => absurd q c68, fun _ => c104⟩
                    | exact ⟨fun _ => c79, fun q => absurd q c93⟩
                    | exact ⟨fun _ => c79, fun _ => c104⟩
                  · exact hp x x0 (by omega) x2
                · refine Rj_iconst (q := 108) d_M_isWanted_107 rfl ?_
                  refine Rj_bret0 d_M_isWanted_108 rfl ?_
                  exact h0 (fun q => by have := q d hd.1 hd2.2 (by omega); first | exact absurd (c79.symm.trans (this.1 c68)) (by decide) | exact absurd (c104.symm.trans (this.2 c93)) (by decide))
        · have epl : μ 12 d = plc (μ 15) (μ 16) (μ 12) d b := by unfold plc; rw [hk0 d hd.1 hd2.2 (by omega) (by omega)]; simp
          refine Rj_aload_n (q := 39) d_M_isWanted_38 rfl rfl rfl ?_
          refine Rj_gr (q := 42) (zd := 12) gM_M_45_0 rfl rfl d_M_isWanted_39 rfl ?_
          refine Rj_iload (q := 44) d_M_isWanted_42 rfl rfl ?_
          refine Rj_la (q := 45) (v := plc (μ 15) (μ 16) (μ 12) d b) aM_12 rfl (by omega) epl d_M_isWanted_44 rfl ?_
          refine Rj_goto (t := 55) d_M_isWanted_45 (by decide) ?_
          refine Rj_lstore (q := 57) (ls' := [vA 0, vI l, vL b, vU, vI d, vL (plc (μ 15) (μ 16) (μ 12) d b), vU]) d_M_isWanted_55 rfl (by decide) rfl ?_
          refine Rj_aload_n (q := 58) d_M_isWanted_57 rfl rfl rfl ?_
          refine Rj_gr (q := 61) (zd := 11) gM_M_42_0 rfl rfl d_M_isWanted_58 rfl ?_
          refine Rj_iconst (q := 62) d_M_isWanted_61 rfl ?_
          refine Rj_ia (q := 63) (v := μ 11 3) aM_11 rfl (by decide) rfl d_M_isWanted_62 rfl ?_
          refine Rj_iload (q := 65) d_M_isWanted_63 rfl rfl ?_
          refine Rj_cs (q := 68) (z := y_M_isOf) (as := [vI (μ 11 3), vI d]) (rest := []) (la := [vI (μ 11 3), vI d]) ml_M_317 mw_M_isOf ms_M_isOf d_M_isWanted_65 rfl rfl rfl rfl rfl ?_
          refine s_M_isOf ⟨by omega, by omega⟩ (by omega) ?_
          refine Rj_b_eq (q := 71) (t := 82) d_M_isWanted_68 rfl (by decide) (fun c68 => ?_) (fun c68 => ?_)
          · have c68 := of_decide_eq_false c68
            refine Rj_aload_n (q := 83) d_M_isWanted_82 rfl rfl rfl ?_
            refine Rj_gr (q := 86) (zd := 11) gM_M_42_0 rfl rfl d_M_isWanted_83 rfl ?_
            refine Rj_iconst (q := 87) d_M_isWanted_86 rfl ?_
            refine Rj_ia (q := 88) (v := μ 11 4) aM_11 rfl (by decide) rfl d_M_isWanted_87 rfl ?_
            refine Rj_iload (q := 90) d_M_isWanted_88 rfl rfl ?_
            refine Rj_cs (q := 93) (z := y_M_isOf) (as := [vI (μ 11 4), vI d]) (rest := []) (la := [vI (μ 11 4), vI d]) ml_M_317 mw_M_isOf ms_M_isOf d_M_isWanted_90 rfl rfl rfl rfl rfl ?_
            refine s_M_isOf ⟨by omega, by omega⟩ (by omega) ?_
            refine Rj_b_eq (q := 96) (t := 109) d_M_isWanted_93 rfl (by decide) (fun c93 => ?_) (fun c93 => ?_)
            · have c93 := of_decide_eq_false c93
              refine Rj_iinc (q := 112) (ls' := [vA 0, vI l, vL b, vU, vI (d + 1), vL (plc (μ 15) (μ 16) (μ 12) d b), vU]) d_M_isWanted_109 rfl rfl (by decide) rfl ?_
              refine Rj_goto (t := 3) d_M_isWanted_112 (by decide) ?_
              refine Rj_pre (ls' := [vA 0, vI l, vL b, vU, vI (d + 1)]) (t := [vL (plc (μ 15) (μ 16) (μ 12) d b), vU]) rfl ?_
              refine ih (d := d + 1) (by omega) h hb hi hl hw3 hw4 hk0 (by omega) (fun x x0 x1 x2 => ?_) h1 h0
              by_cases e : x = d
              · subst e
                first
                | exact absurd x2 (by omega)
                | exact ⟨fun q => absurd q c68, fun q => absurd q c93⟩
                | exact ⟨fun q => absurd q c68, fun _ => c104⟩
                | exact ⟨fun _ => c79, fun q => absurd q c93⟩
                | exact ⟨fun _ => c79, fun _ => c104⟩
              · exact hp x x0 (by omega) x2
            · have c93 := of_decide_eq_true c93
              refine Rj_aload_n (q := 97) d_M_isWanted_96 rfl rfl rfl ?_
              refine Rj_iload (q := 99) d_M_isWanted_97 rfl rfl ?_
              refine Rj_lload (q := 101) d_M_isWanted_99 rfl rfl ?_
              refine Rj_vo (q := 104) (z := y_M_isOpenAt) (as := [vI d, vL (plc (μ 15) (μ 16) (μ 12) d b)]) (rest := []) (la := [vA 0, vI d, vL (plc (μ 15) (μ 16) (μ 12) d b), vU]) oM_0_M_isOpenAt ml_M_346 mw_M_isOpenAt mv_M_isOpenAt rfl d_M_isWanted_101 rfl rfl rfl rfl rfl ?_
              refine s_M_isOpenAt h ⟨by omega, by omega⟩ (by omega) ?_
              refine Rj_b_eq (q := 107) (t := 109) d_M_isWanted_104 rfl (by decide) (fun c104 => ?_) (fun c104 => ?_)
              · refine Rj_iinc (q := 112) (ls' := [vA 0, vI l, vL b, vU, vI (d + 1), vL (plc (μ 15) (μ 16) (μ 12) d b), vU]) d_M_isWanted_109 rfl rfl (by decide) rfl ?_
                refine Rj_goto (t := 3) d_M_isWanted_112 (by decide) ?_
                refine Rj_pre (ls' := [vA 0, vI l, vL b, vU, vI (d + 1)]) (t := [vL (plc (μ 15) (μ 16) (μ 12) d b), vU]) rfl ?_
                refine ih (d := d + 1) (by omega) h hb hi hl hw3 hw4 hk0 (by omega) (fun x x0 x1 x2 => ?_) h1 h0
                by_cases e : x = d
                · subst e
                  first
                  | exact absurd x2 (by omega)
                  | exact ⟨fun q => absurd q c68, fun q => absurd q c93⟩
                  | exact ⟨fun q => absurd q c68, fun _ => c104⟩
                  | exact ⟨fun _ => c79, fun q => absurd q c93⟩
                  | exact ⟨fun _ => c79, fun _ => c104⟩
                · exact hp x x0 (by omega) x2
              · refine Rj_iconst (q := 108) d_M_isWanted_107 rfl ?_
                refine Rj_bret0 d_M_isWanted_108 rfl ?_
                exact h0 (fun q => by have := q d hd.1 hd2.2 (by omega); first | exact absurd (c79.symm.trans (this.1 c68)) (by decide) | exact absurd (c104.symm.trans (this.2 c93)) (by decide))
          · have c68 := of_decide_eq_true c68
            refine Rj_aload_n (q := 72) d_M_isWanted_71 rfl rfl rfl ?_
            refine Rj_iload (q := 74) d_M_isWanted_72 rfl rfl ?_
            refine Rj_lload (q := 76) d_M_isWanted_74 rfl rfl ?_
            refine Rj_vo (q := 79) (z := y_M_isOpenAt) (as := [vI d, vL (plc (μ 15) (μ 16) (μ 12) d b)]) (rest := []) (la := [vA 0, vI d, vL (plc (μ 15) (μ 16) (μ 12) d b), vU]) oM_0_M_isOpenAt ml_M_346 mw_M_isOpenAt mv_M_isOpenAt rfl d_M_isWanted_76 rfl rfl rfl rfl rfl ?_
            refine s_M_isOpenAt h ⟨by omega, by omega⟩ (by omega) ?_
            refine Rj_b_eq (q := 82) (t := 107) d_M_isWanted_79 rfl (by decide) (fun c79 => ?_) (fun c79 => ?_)
            · refine Rj_iconst (q := 108) d_M_isWanted_107 rfl ?_
              refine Rj_bret0 d_M_isWanted_108 rfl ?_
              exact h0 (fun q => by have := q d hd.1 hd2.2 (by omega); first | exact absurd (c79.symm.trans (this.1 c68)) (by decide) | exact absurd (c104.symm.trans (this.2 c93)) (by decide))
            · refine Rj_aload_n (q := 83) d_M_isWanted_82 rfl rfl rfl ?_
              refine Rj_gr (q := 86) (zd := 11) gM_M_42_0 rfl rfl d_M_isWanted_83 rfl ?_
              refine Rj_iconst (q := 87) d_M_isWanted_86 rfl ?_
              refine Rj_ia (q := 88) (v := μ 11 4) aM_11 rfl (by decide) rfl d_M_isWanted_87 rfl ?_
              refine Rj_iload (q := 90) d_M_isWanted_88 rfl rfl ?_
              refine Rj_cs (q := 93) (z := y_M_isOf) (as := [vI (μ 11 4), vI d]) (rest := []) (la := [vI (μ 11 4), vI d]) ml_M_317 mw_M_isOf ms_M_isOf d_M_isWanted_90 rfl rfl rfl rfl rfl ?_
              refine s_M_isOf ⟨by omega, by omega⟩ (by omega) ?_
              refine Rj_b_eq (q := 96) (t := 109) d_M_isWanted_93 rfl (by decide) (fun c93 => ?_) (fun c93 => ?_)
              · have c93 := of_decide_eq_false c93
                refine Rj_iinc (q := 112) (ls' := [vA 0, vI l, vL b, vU, vI (d + 1), vL (plc (μ 15) (μ 16) (μ 12) d b), vU]) d_M_isWanted_109 rfl rfl (by decide) rfl ?_
                refine Rj_goto (t := 3) d_M_isWanted_112 (by decide) ?_
                refine Rj_pre (ls' := [vA 0, vI l, vL b, vU, vI (d + 1)]) (t := [vL (plc (μ 15) (μ 16) (μ 12) d b), vU]) rfl ?_
                refine ih (d := d + 1) (by omega) h hb hi hl hw3 hw4 hk0 (by omega) (fun x x0 x1 x2 => ?_) h1 h0
                by_cases e : x = d
                · subst e
                  first
                  | exact absurd x2 (by omega)
                  | exact ⟨fun q => absurd q c68, fun q => absurd q c93⟩
                  | exact ⟨fun q => absurd q c68, fun _ => c104⟩
                  | exact ⟨fun _ => c79, fun q => absurd q c93⟩
                  | exact ⟨fun _ => c79, fun _ => c104⟩
                · exact hp x x0 (by omega) x2
              · have c93 := of_decide_eq_true c93
                refine Rj_aload_n (q := 97) d_M_isWanted_96 rfl rfl rfl ?_
                refine Rj_iload (q := 99) d_M_isWanted_97 rfl rfl ?_
                refine Rj_lload (q := 101) d_M_isWanted_99 rfl rfl ?_
                refine Rj_vo (q := 104) (z := y_M_isOpenAt) (as := [vI d, vL (plc (μ 15) (μ 16) (μ 12) d b)]) (rest := []) (la := [vA 0, vI d, vL (plc (μ 15) (μ 16) (μ 12) d b), vU]) oM_0_M_isOpenAt ml_M_346 mw_M_isOpenAt mv_M_isOpenAt rfl d_M_isWanted_101 rfl rfl rfl rfl rfl ?_
                refine s_M_isOpenAt h ⟨by omega, by omega⟩ (by omega) ?_
                refine Rj_b_eq (q := 107) (t := 109) d_M_isWanted_104 rfl (by decide) (fun c104 => ?_) (fun c104 => ?_)
                · refine Rj_iinc (q := 112) (ls' := [vA 0, vI l, vL b, vU, vI (d + 1), vL (plc (μ 15) (μ 16) (μ 12) d b), vU]) d_M_isWanted_109 rfl rfl (by decide) rfl ?_
                  refine Rj_goto (t := 3) d_M_isWanted_112 (by decide) ?_
                  refine Rj_pre (ls' := [vA 0, vI l, vL b, vU, vI (d + 1)]) (t := [vL (plc (μ 15) (μ 16) (μ 12) d b), vU]) rfl ?_
                  refine ih (d := d + 1) (by omega) h hb hi hl hw3 hw4 hk0 (by omega) (fun x x0 x1 x2 => ?_) h1 h0
                  by_cases e : x = d
                  · subst e
                    first
                    | exact absurd x2 (by omega)
                    | exact ⟨fun q => absurd q c68, fun q => absurd q c93⟩
                    | exact ⟨fun q => absurd q c68, fun _ => c104⟩
                    | exact ⟨fun _ => c79, fun q => absurd q c93⟩
                    | exact ⟨fun _ => c79, fun _ => c104⟩
                  · exact hp x x0 (by omega) x2
                · refine Rj_iconst (q := 108) d_M_isWanted_107 rfl ?_
                  refine Rj_bret0 d_M_isWanted_108 rfl ?_
                  exact h0 (fun q => by have := q d hd.1 hd2.2 (by omega); first | exact absurd (c79.symm.trans (this.1 c68)) (by decide) | exact absurd (c104.symm.trans (this.2 c93)) (by decide))
      · refine Rj_goto (t := 109) d_M_isWanted_25 (by decide) ?_
        refine Rj_iinc (q := 112) (ls' := [vA 0, vI l, vL b, vU, vI (d + 1)]) d_M_isWanted_109 rfl rfl (by decide) rfl ?_
        refine Rj_goto (t := 3) d_M_isWanted_112 (by decide) ?_
        refine Rj_pre (ls' := [vA 0, vI l, vL b, vU, vI (d + 1)]) (t := []) rfl ?_
        refine ih (d := d + 1) (by omega) h hb hi hl hw3 hw4 hk0 (by omega) (fun x x0 x1 x2 => ?_) h1 h0
        by_cases e : x = d
        · subst e
          first
          | exact absurd x2 (by omega)
          | exact ⟨fun q => absurd q c68, fun q => absurd q c93⟩
          | exact ⟨fun q => absurd q c68, fun _ => c104⟩
          | exact ⟨fun _ => c79, fun q => absurd q c93⟩
          | exact ⟨fun _ => c79, fun _ => c104⟩
        · exact hp x x0 (by omega) x2
set_option maxHeartbeats 4000000 in
theorem s_M_isWanted {μ : Mem} {Q : PV → Mem → Prop} (h : MX μ) {l b : Int} (hb : RB (μ 11) (μ 14) (μ 15) (μ 16) l 2001 b) (hi : i64 b) (hl : 0 ≤ l ∧ l < 12) (hw3 : 0 ≤ μ 11 3 ∧ μ 11 3 ≤ 2147483647) (hw4 : 0 ≤ μ 11 4 ∧ μ 11 4 ≤ 2147483647) (hk0 : ∀ x, 0 ≤ x → x < μ 11 0 → μ 14 x = l → μ 17 x = 1 → b = 0) (h1 : wtd (μ 11) (μ 14) (μ 15) (μ 16) (μ 12) l b → Q (vI 1) μ) (h0 : ¬ wtd (μ 11) (μ 14) (μ 15) (μ 16) (μ 12) l b → Q (vI 0) μ) : Rj YM y_M_isWanted 0 [vA 0, vI l, vL b, vU] [] μ Q := by
  obtain ⟨z0, z1, z6, z5⟩ := h.z
  refine Rj_iconst (q := 1) d_M_isWanted_0 rfl ?_
  refine Rj_istore (q := 3) (ls' := [vA 0, vI l, vL b, vU, vI 0]) d_M_isWanted_1 rfl (by decide) rfl ?_
  exact s_M_isWanted_l _ (Nat.lt_succ_self _) h hb hi hl hw3 hw4 hk0 (by omega) (fun x x0 x1 => by omega) h1 h0
