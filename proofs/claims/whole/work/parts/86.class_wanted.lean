theorem gD_Pl_73_74 : GI YD "DoorsOnCogs$Planner" 73 74 10 none := ⟨by decide, _, _, _, fl_Pl_73, cD_74, by decide, rfl⟩
theorem gD_Pl_77_74 : GI YD "DoorsOnCogs$Planner" 77 74 11 none := ⟨by decide, _, _, _, fl_Pl_77, cD_74, by decide, rfl⟩
/-! the class: is a set as wanted behind a turn -/
def WA (S pl V : Int → Int) (wo ws : Int) : Prop := ∀ x, 0 ≤ x → x < S 0 → (zbit wo x = 1 → opn S (pts S) x (pl x + V x) = true) ∧ (zbit ws x = 1 → opn S (pts S) x (pl x + V x) = false)
set_option maxHeartbeats 4000000 in
theorem s_isWatchedOpen {μ : Mem} {Q : PV → Mem → Prop} {S lo up dn lk pl : Int → Int} (h : GX μ S lo up dn lk pl) {V : Int → Int} {l t wa : Int} (hl : 0 ≤ l ∧ l < S 0) (hf : μ 74 9 = l) (ha : μ 74 13 = wa) (hw : 0 ≤ wa ∧ wa < 4096) (hwa : ∀ x, 0 ≤ x → x < S 0 → zbit wa x = 1 → lo x = l ∧ l ≤ x) (hB : BHD μ S lo l t V) (h1 : WO S pl V wa → Q (vI 1) μ) (h0 : ¬ WO S pl V wa → Q (vI 0) μ) : Rj YD y_Pl_isWatchedOpen 0 [vA 74, vL t, vU] [] μ Q := by
  refine Rj_aload_n (q := 1) d_Pl_isWatchedOpen_0 rfl rfl rfl ?_
  refine Rj_gi (q := 4) (ki := 9) (v := l) gD_Pl_67_74 rfl rfl hf d_Pl_isWatchedOpen_1 rfl ?_
  refine Rj_istore_n (q := 5) (ls' := [vA 74, vL t, vU, vI l]) d_Pl_isWatchedOpen_4 rfl rfl (by decide) rfl ?_
  exact s_isWatchedOpen_5 _ (Nat.lt_succ_self _) h hl hf ha hw hwa hB (by omega) (fun x x0 x1 x2 => by have := (hwa x x0 (by omega) x2).2; omega) h1 h0
set_option maxHeartbeats 4000000 in
theorem s_isAsWanted_5 : ∀ (f : Nat) {μ : Mem} {Q : PV → Mem → Prop} {S lo up dn lk pl V : Int → Int} {l t wo ws d : Int}, ((S 0 - d).toNat < f) → (GX μ S lo up dn lk pl) → (0 ≤ l ∧ l < S 0) → (μ 74 9 = l) → (μ 74 10 = wo) → (μ 74 11 = ws) → (0 ≤ wo ∧ wo < 4096) → (0 ≤ ws ∧ ws < 4096) → (∀ x, 0 ≤ x → x < S 0 → zbit wo x = 1 ∨ zbit ws x = 1 → lo x = l ∧ l ≤ x) → (BHD μ S lo l t V) → (0 ≤ d ∧ d ≤ S 0) → (∀ x, 0 ≤ x → x < d → (zbit wo x = 1 → opn S (pts S) x (pl x + V x) = true) ∧ (zbit ws x = 1 → opn S (pts S) x (pl x + V x) = false)) → (WA S pl V wo ws → Q (vI 1) μ) → (¬ WA S pl V wo ws → Q (vI 0) μ) → Rj YD y_Pl_isAsWanted 5 [vA 74, vL t, vU, vI d] [] μ Q := by
  intro f
  induction f with
  | zero => intro μ Q S lo up dn lk pl V l t wo ws d hfu h hl hf ho hs hw hw2 hwa hB hd hp h1 h0; exact absurd hf (by omega)
  | succ f ih =>
    intro μ Q S lo up dn lk pl V l t wo ws d hfu h hl hf ho hs hw hw2 hwa hB hd hp h1 h0
    obtain ⟨z0, z1, z2, z3, z4, z5, z6, z7⟩ := h.z
    have zb := zbit_01 wo d
    have zb2 := zbit_01 ws d
    have zb3 := zbit_01 (z_or wo ws) d
    have orr := z_or_rng (a := wo) (b := ws) (n := 12) (by decide) ⟨by omega, by omega⟩ ⟨by omega, by omega⟩
    have ozb := zbit_or (a := wo) (b := ws) (k := d) (by omega) (by omega) hd.1
    refine Rj_iload_n (q := 6) d_Pl_isAsWanted_5 rfl rfl rfl ?_
    refine Rj_aload_n (q := 7) d_Pl_isAsWanted_6 rfl rfl rfl ?_
    refine Rj_gr (q := 10) (zd := 3) gD_Pl_25_74 rfl rfl d_Pl_isAsWanted_7 rfl ?_
    refine Rj_gi (q := 13) (ki := 0) (v := μ 3 0) gD_Pl_37_3 rfl rfl rfl d_Pl_isAsWanted_10 rfl ?_
    refine Rj_icmp_ge (q := 16) (t := 91) d_Pl_isAsWanted_13 rfl (by decide) ⟨by omega, by omega⟩ ⟨by omega, by omega⟩ (fun c13 => ?_) (fun c13 => ?_)
    · refine Rj_iconst (q := 92) d_Pl_isAsWanted_91 rfl ?_
      refine Rj_bret1 d_Pl_isAsWanted_92 rfl ?_
      exact h1 (fun x x0 x1 => hp x x0 (by omega))
    · refine Rj_aload_n (q := 17) d_Pl_isAsWanted_16 rfl rfl rfl ?_
      refine Rj_gi (q := 20) (ki := 10) (v := wo) gD_Pl_73_74 rfl rfl ho d_Pl_isAsWanted_17 rfl ?_
      refine Rj_aload_n (q := 21) d_Pl_isAsWanted_20 rfl rfl rfl ?_
      refine Rj_gi (q := 24) (ki := 11) (v := ws) gD_Pl_77_74 rfl rfl hs d_Pl_isAsWanted_21 rfl ?_
      refine Rj_ior (q := 25) (z := z_or wo ws) d_Pl_isAsWanted_24 rfl rfl ?_
      refine Rj_iload_n (q := 26) d_Pl_isAsWanted_25 rfl rfl rfl ?_
      refine Rj_cs (q := 29) (z := y_D_bitOf) (as := [vI (z_or wo ws), vI d]) (rest := []) (la := [vI (z_or wo ws), vI d]) ml_Pl_84 mw_D_bitOf ms_D_bitOf d_Pl_isAsWanted_26 rfl rfl rfl rfl rfl ?_
      refine s_D_bitOf (by omega) (by omega) ?_
      refine Rj_iconst (q := 30) d_Pl_isAsWanted_29 rfl ?_
      refine Rj_icmp_ne (q := 33) (t := 46) d_Pl_isAsWanted_30 rfl (by decide) ⟨by omega, by omega⟩ (by decide) (fun c30 => ?_) (fun c30 => ?_)
      · refine Rj_iconst (q := 47) d_Pl_isAsWanted_46 rfl ?_
        refine Rj_istore (q := 49) (ls' := [vA 74, vL t, vU, vI d, vI 0]) d_Pl_isAsWanted_47 rfl (by decide) rfl ?_
        refine Rj_aload_n (q := 50) d_Pl_isAsWanted_49 rfl rfl rfl ?_
        refine Rj_gi (q := 53) (ki := 10) (v := wo) gD_Pl_73_74 rfl rfl ho d_Pl_isAsWanted_50 rfl ?_
        refine Rj_iload_n (q := 54) d_Pl_isAsWanted_53 rfl rfl rfl ?_
        refine Rj_cs (q := 57) (z := y_D_bitOf) (as := [vI wo, vI d]) (rest := []) (la := [vI wo, vI d]) ml_Pl_84 mw_D_bitOf ms_D_bitOf d_Pl_isAsWanted_54 rfl rfl rfl rfl rfl ?_
        refine s_D_bitOf (by omega) (by omega) ?_
        refine Rj_iconst (q := 58) d_Pl_isAsWanted_57 rfl ?_
        refine Rj_icmp_ne (q := 61) (t := 66) d_Pl_isAsWanted_58 rfl (by decide) ⟨by omega, by omega⟩ (by decide) (fun c58 => ?_) (fun c58 => ?_)
        · refine Rj_aload_n (q := 67) d_Pl_isAsWanted_66 rfl rfl rfl ?_
          refine Rj_gi (q := 70) (ki := 11) (v := ws) gD_Pl_77_74 rfl rfl hs d_Pl_isAsWanted_67 rfl ?_
          refine Rj_iload_n (q := 71) d_Pl_isAsWanted_70 rfl rfl rfl ?_
          refine Rj_cs (q := 74) (z := y_D_bitOf) (as := [vI ws, vI d]) (rest := []) (la := [vI ws, vI d]) ml_Pl_84 mw_D_bitOf ms_D_bitOf d_Pl_isAsWanted_71 rfl rfl rfl rfl rfl ?_
          refine s_D_bitOf (by omega) (by omega) ?_
          refine Rj_iconst (q := 75) d_Pl_isAsWanted_74 rfl ?_
          refine Rj_icmp_ne (q := 78) (t := 85) d_Pl_isAsWanted_75 rfl (by decide) ⟨by omega, by omega⟩ (by decide) (fun c75 => ?_) (fun c75 => ?_)
          · refine Rj_iinc (q := 88) (ls' := [vA 74, vL t, vU, vI (d + 1), vI 0]) d_Pl_isAsWanted_85 rfl rfl (by decide) rfl ?_
            refine Rj_goto (t := 5) d_Pl_isAsWanted_88 (by decide) ?_
            refine Rj_pre (ls' := [vA 74, vL t, vU, vI (d + 1)]) (t := [vI 0]) rfl ?_
            refine ih (by omega) h hl hf ho hs hw hw2 hwa hB (by omega) (fun x x0 x1 => ?_) h1 h0
            by_cases e : x = d
            · subst e
              refine ⟨fun q => ?_, fun q => ?_⟩
              · first
                  | exact absurd q c58
                  | exact c39
                  | exact absurd (ozb.mpr (Or.inl q)) c30
              · first
                  | exact absurd q c75
                  | exact c39
                  | exact absurd (ozb.mpr (Or.inr q)) c30
            · exact hp x x0 (by omega)
          · refine Rj_iload (q := 80) d_Pl_isAsWanted_78 rfl rfl ?_
            refine Rj_if_eq (q := 83) (t := 85) d_Pl_isAsWanted_80 rfl (by decide) (by decide) (fun _ => ?_) (fun c => absurd c (by decide))
            refine Rj_iinc (q := 88) (ls' := [vA 74, vL t, vU, vI (d + 1), vI 0]) d_Pl_isAsWanted_85 rfl rfl (by decide) rfl ?_
            refine Rj_goto (t := 5) d_Pl_isAsWanted_88 (by decide) ?_
            refine Rj_pre (ls' := [vA 74, vL t, vU, vI (d + 1)]) (t := [vI 0]) rfl ?_
            refine ih (by omega) h hl hf ho hs hw hw2 hwa hB (by omega) (fun x x0 x1 => ?_) h1 h0
            by_cases e : x = d
            · subst e
              refine ⟨fun q => ?_, fun q => ?_⟩
              · first
                  | exact absurd q c58
                  | exact c39
                  | exact absurd (ozb.mpr (Or.inl q)) c30
              · first
                  | exact absurd q c75
                  | exact c39
                  | exact absurd (ozb.mpr (Or.inr q)) c30
            · exact hp x x0 (by omega)
        · refine Rj_iload (q := 63) d_Pl_isAsWanted_61 rfl rfl ?_
          refine Rj_if_eq (q := 66) (t := 83) d_Pl_isAsWanted_63 rfl (by decide) (by decide) (fun _ => ?_) (fun c => absurd c (by decide))
          refine Rj_iconst (q := 84) d_Pl_isAsWanted_83 rfl ?_
          refine Rj_bret0 d_Pl_isAsWanted_84 rfl ?_
          refine h0 (fun q => ?_)
          have q2 := q d (by omega) (by omega)
          first
            | exact absurd (q2.1 c58) (by rw [c39]; decide)
            | exact absurd (ozb.mpr (Or.inl c58)) c30
            | exact absurd (q2.2 c75) (by rw [c39]; decide)
            | exact absurd (ozb.mpr (Or.inr c75)) c30
      · refine Rj_aload_n (q := 34) d_Pl_isAsWanted_33 rfl rfl rfl ?_
        refine Rj_iload_n (q := 35) d_Pl_isAsWanted_34 rfl rfl rfl ?_
        refine Rj_lload_n (q := 36) d_Pl_isAsWanted_35 rfl rfl rfl ?_
        refine Rj_vo (q := 39) (z := y_Pl_isOpenBehind) (as := [vI d, vL t]) (rest := []) (la := [vA 74, vI d, vL t, vU]) oD_74_Pl_isOpenBehind ml_Pl_165 mw_Pl_isOpenBehind mv_Pl_isOpenBehind rfl d_Pl_isAsWanted_36 rfl rfl rfl rfl rfl ?_
        obtain ⟨w, w1, w2, w3⟩ := hB d (by omega) (by omega) (hwa d (by omega) (by omega) (ozb.mp c30)).1
        refine s_isOpenBehind h hl hf (by omega) w1 w2 w3 ?_
        refine Rj_b_eq (q := 42) (t := 46) d_Pl_isAsWanted_39 rfl (by decide) (fun c39 => ?_) (fun c39 => ?_)
        · refine Rj_iconst (q := 47) d_Pl_isAsWanted_46 rfl ?_
          refine Rj_istore (q := 49) (ls' := [vA 74, vL t, vU, vI d, vI 0]) d_Pl_isAsWanted_47 rfl (by decide) rfl ?_
          refine Rj_aload_n (q := 50) d_Pl_isAsWanted_49 rfl rfl rfl ?_
          refine Rj_gi (q := 53) (ki := 10) (v := wo) gD_Pl_73_74 rfl rfl ho d_Pl_isAsWanted_50 rfl ?_
          refine Rj_iload_n (q := 54) d_Pl_isAsWanted_53 rfl rfl rfl ?_
          refine Rj_cs (q := 57) (z := y_D_bitOf) (as := [vI wo, vI d]) (rest := []) (la := [vI wo, vI d]) ml_Pl_84 mw_D_bitOf ms_D_bitOf d_Pl_isAsWanted_54 rfl rfl rfl rfl rfl ?_
          refine s_D_bitOf (by omega) (by omega) ?_
          refine Rj_iconst (q := 58) d_Pl_isAsWanted_57 rfl ?_
          refine Rj_icmp_ne (q := 61) (t := 66) d_Pl_isAsWanted_58 rfl (by decide) ⟨by omega, by omega⟩ (by decide) (fun c58 => ?_) (fun c58 => ?_)
          · refine Rj_aload_n (q := 67) d_Pl_isAsWanted_66 rfl rfl rfl ?_
            refine Rj_gi (q := 70) (ki := 11) (v := ws) gD_Pl_77_74 rfl rfl hs d_Pl_isAsWanted_67 rfl ?_
            refine Rj_iload_n (q := 71) d_Pl_isAsWanted_70 rfl rfl rfl ?_
            refine Rj_cs (q := 74) (z := y_D_bitOf) (as := [vI ws, vI d]) (rest := []) (la := [vI ws, vI d]) ml_Pl_84 mw_D_bitOf ms_D_bitOf d_Pl_isAsWanted_71 rfl rfl rfl rfl rfl ?_
            refine s_D_bitOf (by omega) (by omega) ?_
            refine Rj_iconst (q := 75) d_Pl_isAsWanted_74 rfl ?_
            refine Rj_icmp_ne (q := 78) (t := 85) d_Pl_isAsWanted_75 rfl (by decide) ⟨by omega, by omega⟩ (by decide) (fun c75 => ?_) (fun c75 => ?_)
            · refine Rj_iinc (q := 88) (ls' := [vA 74, vL t, vU, vI (d + 1), vI 0]) d_Pl_isAsWanted_85 rfl rfl (by decide) rfl ?_
              refine Rj_goto (t := 5) d_Pl_isAsWanted_88 (by decide) ?_
              refine Rj_pre (ls' := [vA 74, vL t, vU, vI (d + 1)]) (t := [vI 0]) rfl ?_
              refine ih (by omega) h hl hf ho hs hw hw2 hwa hB (by omega) (fun x x0 x1 => ?_) h1 h0
              by_cases e : x = d
              · subst e
                refine ⟨fun q => ?_, fun q => ?_⟩
                · first
                    | exact absurd q c58
                    | exact c39
                    | exact absurd (ozb.mpr (Or.inl q)) c30
                · first
                    | exact absurd q c75
                    | exact c39
                    | exact absurd (ozb.mpr (Or.inr q)) c30
              · exact hp x x0 (by omega)
            · refine Rj_iload (q := 80) d_Pl_isAsWanted_78 rfl rfl ?_
              refine Rj_if_eq (q := 83) (t := 85) d_Pl_isAsWanted_80 rfl (by decide) (by decide) (fun _ => ?_) (fun c => absurd c (by decide))
              refine Rj_iinc (q := 88) (ls' := [vA 74, vL t, vU, vI (d + 1), vI 0]) d_Pl_isAsWanted_85 rfl rfl (by decide) rfl ?_
              refine Rj_goto (t := 5) d_Pl_isAsWanted_88 (by decide) ?_
              refine Rj_pre (ls' := [vA 74, vL t, vU, vI (d + 1)]) (t := [vI 0]) rfl ?_
              refine ih (by omega) h hl hf ho hs hw hw2 hwa hB (by omega) (fun x x0 x1 => ?_) h1 h0
              by_cases e : x = d
              · subst e
                refine ⟨fun q => ?_, fun q => ?_⟩
                · first
                    | exact absurd q c58
                    | exact c39
                    | exact absurd (ozb.mpr (Or.inl q)) c30
                · first
                    | exact absurd q c75
                    | exact c39
                    | exact absurd (ozb.mpr (Or.inr q)) c30
              · exact hp x x0 (by omega)
          · refine Rj_iload (q := 63) d_Pl_isAsWanted_61 rfl rfl ?_
            refine Rj_if_eq (q := 66) (t := 83) d_Pl_isAsWanted_63 rfl (by decide) (by decide) (fun _ => ?_) (fun c => absurd c (by decide))
            refine Rj_iconst (q := 84) d_Pl_isAsWanted_83 rfl ?_
            refine Rj_bret0 d_Pl_isAsWanted_84 rfl ?_
            refine h0 (fun q => ?_)
            have q2 := q d (by omega) (by omega)
            first
              | exact absurd (q2.1 c58) (by rw [c39]; decide)
              | exact absurd (ozb.mpr (Or.inl c58)) c30
              | exact absurd (q2.2 c75) (by rw [c39]; decide)
              | exact absurd (ozb.mpr (Or.inr c75)) c30
        · refine Rj_iconst (q := 43) d_Pl_isAsWanted_42 rfl ?_
          refine Rj_goto (t := 47) d_Pl_isAsWanted_43 (by decide) ?_
          refine Rj_istore (q := 49) (ls' := [vA 74, vL t, vU, vI d, vI 1]) d_Pl_isAsWanted_47 rfl (by decide) rfl ?_
          refine Rj_aload_n (q := 50) d_Pl_isAsWanted_49 rfl rfl rfl ?_
          refine Rj_gi (q := 53) (ki := 10) (v := wo) gD_Pl_73_74 rfl rfl ho d_Pl_isAsWanted_50 rfl ?_
          refine Rj_iload_n (q := 54) d_Pl_isAsWanted_53 rfl rfl rfl ?_
          refine Rj_cs (q := 57) (z := y_D_bitOf) (as := [vI wo, vI d]) (rest := []) (la := [vI wo, vI d]) ml_Pl_84 mw_D_bitOf ms_D_bitOf d_Pl_isAsWanted_54 rfl rfl rfl rfl rfl ?_
          refine s_D_bitOf (by omega) (by omega) ?_
          refine Rj_iconst (q := 58) d_Pl_isAsWanted_57 rfl ?_
          refine Rj_icmp_ne (q := 61) (t := 66) d_Pl_isAsWanted_58 rfl (by decide) ⟨by omega, by omega⟩ (by decide) (fun c58 => ?_) (fun c58 => ?_)
          · refine Rj_aload_n (q := 67) d_Pl_isAsWanted_66 rfl rfl rfl ?_
            refine Rj_gi (q := 70) (ki := 11) (v := ws) gD_Pl_77_74 rfl rfl hs d_Pl_isAsWanted_67 rfl ?_
            refine Rj_iload_n (q := 71) d_Pl_isAsWanted_70 rfl rfl rfl ?_
            refine Rj_cs (q := 74) (z := y_D_bitOf) (as := [vI ws, vI d]) (rest := []) (la := [vI ws, vI d]) ml_Pl_84 mw_D_bitOf ms_D_bitOf d_Pl_isAsWanted_71 rfl rfl rfl rfl rfl ?_
            refine s_D_bitOf (by omega) (by omega) ?_
            refine Rj_iconst (q := 75) d_Pl_isAsWanted_74 rfl ?_
            refine Rj_icmp_ne (q := 78) (t := 85) d_Pl_isAsWanted_75 rfl (by decide) ⟨by omega, by omega⟩ (by decide) (fun c75 => ?_) (fun c75 => ?_)
            · refine Rj_iinc (q := 88) (ls' := [vA 74, vL t, vU, vI (d + 1), vI 1]) d_Pl_isAsWanted_85 rfl rfl (by decide) rfl ?_
              refine Rj_goto (t := 5) d_Pl_isAsWanted_88 (by decide) ?_
              refine Rj_pre (ls' := [vA 74, vL t, vU, vI (d + 1)]) (t := [vI 1]) rfl ?_
              refine ih (by omega) h hl hf ho hs hw hw2 hwa hB (by omega) (fun x x0 x1 => ?_) h1 h0
              by_cases e : x = d
              · subst e
                refine ⟨fun q => ?_, fun q => ?_⟩
                · first
                    | exact absurd q c58
                    | exact c39
                    | exact absurd (ozb.mpr (Or.inl q)) c30
                · first
                    | exact absurd q c75
                    | exact c39
                    | exact absurd (ozb.mpr (Or.inr q)) c30
              · exact hp x x0 (by omega)
            · refine Rj_iload (q := 80) d_Pl_isAsWanted_78 rfl rfl ?_
              refine Rj_if_eq (q := 83) (t := 85) d_Pl_isAsWanted_80 rfl (by decide) (by decide) (fun c => absurd c (by decide)) (fun _ => ?_)
              refine Rj_iconst (q := 84) d_Pl_isAsWanted_83 rfl ?_
              refine Rj_bret0 d_Pl_isAsWanted_84 rfl ?_
              refine h0 (fun q => ?_)
              have q2 := q d (by omega) (by omega)
              first
                | exact absurd (q2.1 c58) (by rw [c39]; decide)
                | exact absurd (ozb.mpr (Or.inl c58)) c30
                | exact absurd (q2.2 c75) (by rw [c39]; decide)
                | exact absurd (ozb.mpr (Or.inr c75)) c30
          · refine Rj_iload (q := 63) d_Pl_isAsWanted_61 rfl rfl ?_
            refine Rj_if_eq (q := 66) (t := 83) d_Pl_isAsWanted_63 rfl (by decide) (by decide) (fun c => absurd c (by decide)) (fun _ => ?_)
            refine Rj_aload_n (q := 67) d_Pl_isAsWanted_66 rfl rfl rfl ?_
            refine Rj_gi (q := 70) (ki := 11) (v := ws) gD_Pl_77_74 rfl rfl hs d_Pl_isAsWanted_67 rfl ?_
            refine Rj_iload_n (q := 71) d_Pl_isAsWanted_70 rfl rfl rfl ?_
            refine Rj_cs (q := 74) (z := y_D_bitOf) (as := [vI ws, vI d]) (rest := []) (la := [vI ws, vI d]) ml_Pl_84 mw_D_bitOf ms_D_bitOf d_Pl_isAsWanted_71 rfl rfl rfl rfl rfl ?_
            refine s_D_bitOf (by omega) (by omega) ?_
            refine Rj_iconst (q := 75) d_Pl_isAsWanted_74 rfl ?_
            refine Rj_icmp_ne (q := 78) (t := 85) d_Pl_isAsWanted_75 rfl (by decide) ⟨by omega, by omega⟩ (by decide) (fun c75 => ?_) (fun c75 => ?_)
            · refine Rj_iinc (q := 88) (ls' := [vA 74, vL t, vU, vI (d + 1), vI 1]) d_Pl_isAsWanted_85 rfl rfl (by decide) rfl ?_
              refine Rj_goto (t := 5) d_Pl_isAsWanted_88 (by decide) ?_
              refine Rj_pre (ls' := [vA 74, vL t, vU, vI (d + 1)]) (t := [vI 1]) rfl ?_
              refine ih (by omega) h hl hf ho hs hw hw2 hwa hB (by omega) (fun x x0 x1 => ?_) h1 h0
              by_cases e : x = d
              · subst e
                refine ⟨fun q => ?_, fun q => ?_⟩
                · first
                    | exact absurd q c58
                    | exact c39
                    | exact absurd (ozb.mpr (Or.inl q)) c30
                · first
                    | exact absurd q c75
                    | exact c39
                    | exact absurd (ozb.mpr (Or.inr q)) c30
              · exact hp x x0 (by omega)
            · refine Rj_iload (q := 80) d_Pl_isAsWanted_78 rfl rfl ?_
              refine Rj_if_eq (q := 83) (t := 85) d_Pl_isAsWanted_80 rfl (by decide) (by decide) (fun c => absurd c (by decide)) (fun _ => ?_)
              refine Rj_iconst (q := 84) d_Pl_isAsWanted_83 rfl ?_
              refine Rj_bret0 d_Pl_isAsWanted_84 rfl ?_
              refine h0 (fun q => ?_)
              have q2 := q d (by omega) (by omega)
              first
                | exact absurd (q2.1 c58) (by rw [c39]; decide)
                | exact absurd (ozb.mpr (Or.inl c58)) c30
                | exact absurd (q2.2 c75) (by rw [c39]; decide)
                | exact absurd (ozb.mpr (Or.inr c75)) c30
