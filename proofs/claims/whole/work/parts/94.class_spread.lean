theorem oD_74_Pl_isKnown : OI YD 74 y_Pl_isKnown := ⟨by decide, _, _, _, cD_74, rfl⟩
theorem oD_74_Pl_isWatchedOpen : OI YD 74 y_Pl_isWatchedOpen := ⟨by decide, _, _, _, cD_74, rfl⟩
theorem oD_74_Pl_addState : OI YD 74 y_Pl_addState := ⟨by decide, _, _, _, cD_74, rfl⟩
theorem oD_74_Pl_isAsWanted : OI YD 74 y_Pl_isAsWanted := ⟨by decide, _, _, _, cD_74, rfl⟩
/-! the class spreads from a state: all pushes of one door -/
set_option maxHeartbeats 4000000 in
theorem s_spread_17 : ∀ (f : Nat) {μ : Mem} {Q : PV → Mem → Prop} {S lo up dn lk pl : Int → Int} {l tc wt wo ws wa pu a b c st x k d n : Int}, ((61 - n).toNat < f) → (GX μ S lo up dn lk pl) → (CHO μ S lo lk l tc wt wo ws wa pu a b) → (SID μ S lo up dn lk l c) → (0 ≤ l ∧ l < S 0 ∧ lo l = l) → (c * bel S lo up dn lk l = pts S) → (0 ≤ k ∧ k < μ 74 6) → (0 ≤ d ∧ d < S 0 ∧ lo d = l) → (lk d = 0) → (st = stp S lo up dn lk d l) → (μ 75 k = x) → (-60 ≤ n ∧ n ≤ 61) → (∀ r μ', spr (fun t => stdB S lo up dn pl l wt (c * t)) (fun t => wtdB S lo up dn pl l (c * t)) st x k d f n (bsD μ) = .inl r → Fr Wsd μ μ' → bsD μ' = r.1 → (r.2 = -3 ∨ (0 < r.2 ∧ r.2 < 2000)) → Q (vI r.2) μ') → (∀ μ', spr (fun t => stdB S lo up dn pl l wt (c * t)) (fun t => wtdB S lo up dn pl l (c * t)) st x k d f n (bsD μ) = .inr (bsD μ') → Fr Wsd μ μ' → SID μ' S lo up dn lk l c → Q (vI (-4)) μ') → Rj YD y_Pl_spread 17 [vA 74, vI k, vI d, vL st, vU, vI n] [] μ Q := by
  intro f
  induction f with
  | zero => intro μ Q S lo up dn lk pl l tc wt wo ws wa pu a b c st x k d n hf h hC hI hl hc hk hd hkd hst hx hn h1 h2; exact absurd hf (by omega)
  | succ f ih =>
    intro μ Q S lo up dn lk pl l tc wt wo ws wa pu a b c st x k d n hf h hC hI hl hc hk hd hkd hst hx hn h1 h2
    obtain ⟨z0, z1, z2, z3, z4, z5, z6, z7⟩ := h.z
    have hS := h.1
    have hH := h.2.2.1
    have l1 : 0 ≤ l ∧ l < S 0 := ⟨hl.1, hl.2.1⟩
    have hm := hI.2.1
    have kl : ∀ x, 0 ≤ x → x < S 0 → lo x = l → lk x = 0 := fun y y0 y1 y2 => by rw [lk_alike hH ⟨y0, y1⟩ ⟨hd.1, hd.2.1⟩ (by omega)]; exact hkd
    have hb0 := hI.2.2 k hk.1 hk.2
    rw [hx] at hb0
    have hb75 : ∀ s, 0 ≤ s → s < μ 74 6 → i64 (μ 75 s) := fun s s0 s1 => by
      have q := (hI.2.2 s s0 s1).1.self hS hH l1 hl.2.2 (kl l l1.1 l1.2 hl.2.2)
      exact ⟨by omega, by omega⟩
    have ps := (stp_spec hS hH.1 (p := d) (d := l) ⟨hd.1, hd.2.1⟩ l1 (by omega) (kl l l1.1 l1.2 hl.2.2)).2.1
    rw [← hst] at ps
    have epo : pof (pts S) up dn d l = c * st := by rw [hst]; exact stp_pof hS hH l1 ⟨hd.1, hd.2.1⟩ (by omega) (kl l l1.1 l1.2 hl.2.2) hc
    have xb := hb0.1.self hS hH l1 hl.2.2 (kl l l1.1 l1.2 hl.2.2)
    have hwa : ∀ x, 0 ≤ x → x < S 0 → zbit wa x = 1 → lo x = l ∧ l ≤ x := fun y y0 y1 y2 => by
      have q := ((hC.2.2.1 y y0).2.2.mp y2).1.2
      have := Hung_lo hH ⟨y0, y1⟩
      exact ⟨q, by omega⟩
    have hwo : ∀ x, 0 ≤ x → x < S 0 → zbit wo x = 1 ∨ zbit ws x = 1 → lo x = l ∧ l ≤ x := fun y y0 y1 y2 => by
      have q : lo y = l := y2.elim (fun r => ((hC.2.2.1 y y0).1.mp r).1.2) (fun r => ((hC.2.2.1 y y0).2.1.mp r).1.2)
      have := Hung_lo hH ⟨y0, y1⟩
      exact ⟨q, by omega⟩
    have ca := hC.2.2.2.2.2.1
    have cb := hC.2.2.2.2.2.2.1
    refine Rj_iload (q := 19) d_Pl_spread_17 rfl rfl ?_
    refine Rj_bipush (q := 21) d_Pl_spread_19 rfl (by decide +kernel) ?_
    refine Rj_icmp_gt (q := 24) (t := 132) d_Pl_spread_21 rfl (by decide) ⟨by omega, by omega⟩ (by decide) (fun c21 => ?_) (fun c21 => ?_)
    · refine Rj_bipush (q := 134) d_Pl_spread_132 rfl (by decide +kernel) ?_
      refine Rj_iret d_Pl_spread_134 rfl ?_
      exact h2 μ (spr_out (by omega)) (Fr.refl _ _) hI
    · have n60 : ¬ 60 < n := by omega
      have mn := mul_bd (show -60 ≤ n ∧ n ≤ 60 by omega) ps
      have hTk := hb0.1.add hS hH l1 hl.2.2 ⟨hd.1, hd.2.1⟩ hd.2.2 kl (show -60 ≤ n ∧ n ≤ 60 by omega)
      have hRk := hb0.2.add hS hH l1 hl.2.2 ⟨hd.1, hd.2.1⟩ hd.2.2 (show -60 ≤ n ∧ n ≤ 60 by omega)
      rw [← hst] at hTk
      rw [epo, show c * x + n * (c * st) = c * (x + n * st) by grind] at hRk
      have hts := hTk.self hS hH l1 hl.2.2 (kl l l1.1 l1.2 hl.2.2)
      have hi : i64 (x + n * st) := ⟨by omega, by omega⟩
      have hB := BHD_of h hl kl hc hTk (by omega) hRk
      have hstd := std_D (c := c) h hC hl kl hB ⟨by omega, by omega⟩
      have hwtd := wtd_D (up := up) (dn := dn) (pl := pl) (b' := c * (x + n * st)) (V := Vof up dn (c * (x + n * st))) hC (fun x _ _ _ => rfl)
      refine Rj_aload_n (q := 25) d_Pl_spread_24 rfl rfl rfl ?_
      refine Rj_gr (q := 28) (zd := 75) gD_Pl_11_74 rfl rfl d_Pl_spread_25 rfl ?_
      refine Rj_iload_n (q := 29) d_Pl_spread_28 rfl rfl rfl ?_
      refine Rj_la (q := 30) (v := x) aD_75 rfl (by omega) hx d_Pl_spread_29 rfl ?_
      refine Rj_iload (q := 32) d_Pl_spread_30 rfl rfl ?_
      refine Rj_i2l (q := 33) d_Pl_spread_32 rfl ⟨by omega, by omega⟩ ?_
      refine Rj_lload_n (q := 34) d_Pl_spread_33 rfl rfl rfl ?_
      refine Rj_lmul (q := 35) d_Pl_spread_34 rfl ?_
      refine Rj_ladd (q := 36) d_Pl_spread_35 rfl ?_
      refine Rj_lstore (q := 38) (ls' := [vA 74, vI k, vI d, vL st, vU, vI n, vL (x + (n * st)), vU]) d_Pl_spread_36 rfl (by decide) rfl ?_
      refine Rj_lload (q := 40) d_Pl_spread_38 rfl rfl ?_
      refine Rj_aload_n (q := 41) d_Pl_spread_40 rfl rfl rfl ?_
      refine Rj_gl (q := 44) (ki := 14) (v := a) gD_Pl_113_74 rfl rfl hC.1.2.2.2.2.2.1 d_Pl_spread_41 rfl ?_
      refine Rj_lc_lt (q := 45) (q2 := 48) (t := 126) d_Pl_spread_44 rfl d_Pl_spread_45 rfl (by decide) ⟨by omega, by omega⟩ ⟨by omega, by omega⟩ (fun c44 => ?_) (fun c44 => ?_)
      · refine Rj_iinc (q := 129) (ls' := [vA 74, vI k, vI d, vL st, vU, vI (n + 1), vL (x + (n * st)), vU]) d_Pl_spread_126 rfl rfl (by decide) rfl ?_
        refine Rj_goto (t := 17) d_Pl_spread_129 (by decide) ?_
        refine Rj_pre (ls' := [vA 74, vI k, vI d, vL st, vU, vI (n + 1)]) (t := [vL (x + (n * st)), vU]) rfl ?_
        have esk := spr_skip (SB := (fun t => stdB S lo up dn pl l wt (c * t))) (WB := (fun t => wtdB S lo up dn pl l (c * t))) (st := st) (x := x) (k := k) (d := d) (f := f) (σ := bsD μ) n60 (by first | exact Or.inr (Or.inl (knB_t.mpr q61)) | exact Or.inr (Or.inr (bool_f (fun q => by have := (hstd.mp (stdB_t.mp q)).1; omega))) | exact Or.inr (Or.inr (bool_f (fun q => (hstd.mp (stdB_t.mp q)).2 q70))))
        rw [esk] at h1 h2
        exact ih (by omega) h hC hI hl hc hk hd hkd hst hx (by omega) h1 h2
      · refine Rj_lload (q := 50) d_Pl_spread_48 rfl rfl ?_
        refine Rj_aload_n (q := 51) d_Pl_spread_50 rfl rfl rfl ?_
        refine Rj_gl (q := 54) (ki := 15) (v := b) gD_Pl_119_74 rfl rfl hC.1.2.2.2.2.2.2 d_Pl_spread_51 rfl ?_
        refine Rj_lc_gt (q := 55) (q2 := 58) (t := 126) d_Pl_spread_54 rfl d_Pl_spread_55 rfl (by decide) ⟨by omega, by omega⟩ ⟨by omega, by omega⟩ (fun c54 => ?_) (fun c54 => ?_)
        · refine Rj_iinc (q := 129) (ls' := [vA 74, vI k, vI d, vL st, vU, vI (n + 1), vL (x + (n * st)), vU]) d_Pl_spread_126 rfl rfl (by decide) rfl ?_
          refine Rj_goto (t := 17) d_Pl_spread_129 (by decide) ?_
          refine Rj_pre (ls' := [vA 74, vI k, vI d, vL st, vU, vI (n + 1)]) (t := [vL (x + (n * st)), vU]) rfl ?_
          have esk := spr_skip (SB := (fun t => stdB S lo up dn pl l wt (c * t))) (WB := (fun t => wtdB S lo up dn pl l (c * t))) (st := st) (x := x) (k := k) (d := d) (f := f) (σ := bsD μ) n60 (by first | exact Or.inr (Or.inl (knB_t.mpr q61)) | exact Or.inr (Or.inr (bool_f (fun q => by have := (hstd.mp (stdB_t.mp q)).1; omega))) | exact Or.inr (Or.inr (bool_f (fun q => (hstd.mp (stdB_t.mp q)).2 q70))))
          rw [esk] at h1 h2
          exact ih (by omega) h hC hI hl hc hk hd hkd hst hx (by omega) h1 h2
        · refine Rj_aload_n (q := 59) d_Pl_spread_58 rfl rfl rfl ?_
          refine Rj_lload (q := 61) d_Pl_spread_59 rfl rfl ?_
          refine Rj_vo (q := 64) (z := y_Pl_isKnown) (as := [vL (x + (n * st))]) (rest := []) (la := [vA 74, vL (x + (n * st)), vU]) oD_74_Pl_isKnown ml_Pl_147 mw_Pl_isKnown mv_Pl_isKnown rfl d_Pl_spread_61 rfl rfl rfl rfl rfl ?_
          refine s_isKnown hI.1 rfl hb75 hi (by omega) (fun q61 => ?_) (fun fp q61 F => ?_)
          · have z61 := True.intro
            refine Rj_if_ne (q := 67) (t := 126) d_Pl_spread_64 rfl (by decide) (by decide) (fun _ => ?_) (fun c => absurd c (by decide))
            refine Rj_iinc (q := 129) (ls' := [vA 74, vI k, vI d, vL st, vU, vI (n + 1), vL (x + (n * st)), vU]) d_Pl_spread_126 rfl rfl (by decide) rfl ?_
            refine Rj_goto (t := 17) d_Pl_spread_129 (by decide) ?_
            refine Rj_pre (ls' := [vA 74, vI k, vI d, vL st, vU, vI (n + 1)]) (t := [vL (x + (n * st)), vU]) rfl ?_
            have esk := spr_skip (SB := (fun t => stdB S lo up dn pl l wt (c * t))) (WB := (fun t => wtdB S lo up dn pl l (c * t))) (st := st) (x := x) (k := k) (d := d) (f := f) (σ := bsD μ) n60 (by first | exact Or.inr (Or.inl (knB_t.mpr q61)) | exact Or.inr (Or.inr (bool_f (fun q => by have := (hstd.mp (stdB_t.mp q)).1; omega))) | exact Or.inr (Or.inr (bool_f (fun q => (hstd.mp (stdB_t.mp q)).2 q70))))
            rw [esk] at h1 h2
            exact ih (by omega) h hC hI hl hc hk hd hkd hst hx (by omega) h1 h2
          · have fs0 : Fr Wsd μ (mset μ 74 7 fp) := Fr.put (Fr.refl _ _) (by unfold Wsd; omega)
            refine Rj_if_ne (q := 67) (t := 126) d_Pl_spread_64 rfl (by decide) (by decide) (fun c => absurd c (by decide)) (fun _ => ?_)
            refine Rj_aload_n (q := 68) d_Pl_spread_67 rfl rfl rfl ?_
            refine Rj_lload (q := 70) d_Pl_spread_68 rfl rfl ?_
            refine Rj_vo (q := 73) (z := y_Pl_isWatchedOpen) (as := [vL (x + (n * st))]) (rest := []) (la := [vA 74, vL (x + (n * st)), vU]) oD_74_Pl_isWatchedOpen ml_Pl_157 mw_Pl_isWatchedOpen mv_Pl_isWatchedOpen rfl d_Pl_spread_70 rfl rfl rfl rfl rfl ?_
            refine s_isWatchedOpen (h.sd fs0) ⟨hl.1, hl.2.1⟩ (hC.sd fs0).1.1 (hC.sd fs0).1.2.2.2.2.1 hC.2.1.2.2.2 hwa (show BHD (mset μ 74 7 fp) S lo l (x + n * st) (Vof up dn (c * (x + n * st))) from hB) (fun q70 => ?_) (fun q70 => ?_)
            · have z70 := True.intro
              refine Rj_if_eq (q := 76) (t := 79) d_Pl_spread_73 rfl (by decide) (by decide) (fun c => absurd c (by decide)) (fun _ => ?_)
              refine Rj_goto (t := 126) d_Pl_spread_76 (by decide) ?_
              refine Rj_iinc (q := 129) (ls' := [vA 74, vI k, vI d, vL st, vU, vI (n + 1), vL (x + (n * st)), vU]) d_Pl_spread_126 rfl rfl (by decide) rfl ?_
              refine Rj_goto (t := 17) d_Pl_spread_129 (by decide) ?_
              refine Rj_pre (ls' := [vA 74, vI k, vI d, vL st, vU, vI (n + 1)]) (t := [vL (x + (n * st)), vU]) rfl ?_
              have esk := spr_skip (SB := (fun t => stdB S lo up dn pl l wt (c * t))) (WB := (fun t => wtdB S lo up dn pl l (c * t))) (st := st) (x := x) (k := k) (d := d) (f := f) (σ := bsD μ) n60 (by first | exact Or.inr (Or.inl (knB_t.mpr q61)) | exact Or.inr (Or.inr (bool_f (fun q => by have := (hstd.mp (stdB_t.mp q)).1; omega))) | exact Or.inr (Or.inr (bool_f (fun q => (hstd.mp (stdB_t.mp q)).2 q70))))
              rw [esk] at h1 h2
              exact ih (μ := mset μ 74 7 fp) (by omega) (h.sd fs0) (hC.sd fs0) hI hl hc hk hd hkd hst hx (by omega) (fun r m2 a b c => h1 r m2 a (fs0.trans b) c) (fun m2 a b c => h2 m2 a (fs0.trans b) c)
            · have ncd : ¬ (n = 0 ∨ knB (bsD μ) (x + n * st) = true ∨ stdB S lo up dn pl l wt (c * (x + n * st)) = false) := by
                rintro (q | q | q)
                · exact q61 ⟨k, hk.1, hk.2, by rw [hx, q, Int.zero_mul, Int.add_zero]⟩
                · exact q61 (knB_t.mp q)
                · rw [stdB_t.mpr (hstd.mpr ⟨by omega, q70⟩)] at q; exact absurd q (by decide)
              refine Rj_if_eq (q := 76) (t := 79) d_Pl_spread_73 rfl (by decide) (by decide) (fun _ => ?_) (fun c => absurd c (by decide))
              refine Rj_aload_n (q := 80) d_Pl_spread_79 rfl rfl rfl ?_
              refine Rj_gi (q := 83) (ki := 6) (v := μ 74 6) gD_Pl_144_74 rfl rfl rfl d_Pl_spread_80 rfl ?_
              refine Rj_sipush (q := 86) d_Pl_spread_83 rfl (by decide +kernel) ?_
              refine Rj_icmp_lt (q := 89) (t := 92) d_Pl_spread_86 rfl (by decide) ⟨by omega, by omega⟩ (by decide) (fun c86 => ?_) (fun c86 => ?_)
              · refine Rj_aload_n (q := 93) d_Pl_spread_92 rfl rfl rfl ?_
                refine Rj_lload (q := 95) d_Pl_spread_93 rfl rfl ?_
                refine Rj_iload_n (q := 96) d_Pl_spread_95 rfl rfl rfl ?_
                refine Rj_sipush (q := 99) d_Pl_spread_96 rfl (by decide +kernel) ?_
                refine Rj_iload_n (q := 100) d_Pl_spread_99 rfl rfl rfl ?_
                refine Rj_imul (q := 101) d_Pl_spread_100 rfl ?_
                refine Rj_bipush (q := 103) d_Pl_spread_101 rfl (by decide +kernel) ?_
                refine Rj_iadd (q := 104) d_Pl_spread_103 rfl ?_
                refine Rj_iload (q := 106) d_Pl_spread_104 rfl rfl ?_
                refine Rj_iadd (q := 107) d_Pl_spread_106 rfl ?_
                refine Rj_vov (q := 110) (z := y_Pl_addState) (as := [vL (x + (n * st)), vI k, vI (((1000 * d) + 100) + n)]) (rest := []) (la := [vA 74, vL (x + (n * st)), vU, vI k, vI (((1000 * d) + 100) + n)]) oD_74_Pl_addState ml_Pl_150 mw_Pl_addState mv_Pl_addState rfl d_Pl_spread_107 rfl rfl rfl rfl rfl ?_
                refine s_addState (m := μ 74 6) hI.1 rfl rfl F (by omega) (fun m f1 g1 g2 g3 g4 g5 => ?_)
                have fs : Fr Wsd μ m := fs0.trans (Fr.wide f1 (fun c i q => by unfold Wsd; omega))
                have bsm : bsD m = bsA (bsD μ) (x + (n * st)) (k) (((1000 * d) + 100) + n) := by
                  have r75 : m 75 = fset (μ 75) (μ 74 6) (x + (n * st)) := funext fun i => by
                    by_cases e : i = μ 74 6
                    · rw [e, fset_same]; exact g2
                    · rw [fset_ne _ e]; exact (f1 75 i (by omega)).trans rfl
                  have r76 : m 76 = fset (μ 76) (μ 74 6) (k) := funext fun i => by
                    by_cases e : i = μ 74 6
                    · rw [e, fset_same]; exact g3
                    · rw [fset_ne _ e]; exact (f1 76 i (by omega)).trans rfl
                  have r77 : m 77 = fset (μ 77) (μ 74 6) (((1000 * d) + 100) + n) := funext fun i => by
                    by_cases e : i = μ 74 6
                    · rw [e, fset_same]; exact g4
                    · rw [fset_ne _ e]; exact (f1 77 i (by omega)).trans rfl
                  unfold bsD bsA
                  rw [r75, r76, r77, g5]
                have hIm : SID m S lo up dn lk l c := by
                  refine ⟨by rw [g5]; exact g1, by omega, fun s s0 s1 => ?_⟩
                  by_cases e : s = μ 74 6
                  · rw [e, g2]; exact ⟨hTk.mono (by omega), hRk.mono (by omega)⟩
                  · rw [f1 75 s (by omega)]
                    exact hI.2.2 s s0 (by omega)
                have gm := h.sd fs
                have cm := hC.sd fs
                refine Rj_aload_n (q := 111) d_Pl_spread_110 rfl rfl rfl ?_
                refine Rj_lload (q := 113) d_Pl_spread_111 rfl rfl ?_
                refine Rj_vo (q := 116) (z := y_Pl_isAsWanted) (as := [vL (x + (n * st))]) (rest := []) (la := [vA 74, vL (x + (n * st)), vU]) oD_74_Pl_isAsWanted ml_Pl_51 mw_Pl_isAsWanted mv_Pl_isAsWanted rfl d_Pl_spread_113 rfl rfl rfl rfl rfl ?_
                refine s_isAsWanted (V := Vof up dn (c * (x + n * st))) gm ⟨hl.1, hl.2.1⟩ cm.1.1 cm.1.2.1 cm.1.2.2.1 hC.2.1.1 hC.2.1.2.1 hwo (fun x x0 x1 x2 => ?_) (fun q113 => ?_) (fun q113 => ?_)
                · obtain ⟨w, w1, w2, w3⟩ := hB x x0 x1 x2
                  refine ⟨w, ?_, w2, ?_⟩
                  · rw [fs.row (c := 64) (fun i q => by unfold Wsd at q; omega), fs.row (c := 63) (fun i q => by unfold Wsd at q; omega)]; exact w1
                  · rw [fs.row (c := 63) (fun i q => by unfold Wsd at q; omega)]; exact w3
                · rw [← hwtd] at q113
                  refine Rj_if_eq (q := 119) (t := 126) d_Pl_spread_116 rfl (by decide) (by decide) (fun c => absurd c (by decide)) (fun _ => ?_)
                  refine Rj_aload_n (q := 120) d_Pl_spread_119 rfl rfl rfl ?_
                  refine Rj_gi (q := 123) (ki := 6) (v := μ 74 6 + 1) gD_Pl_144_74 rfl rfl g5 d_Pl_spread_120 rfl ?_
                  refine Rj_iconst (q := 124) d_Pl_spread_123 rfl ?_
                  refine Rj_isub (q := 125) d_Pl_spread_124 rfl ?_
                  refine Rj_iret d_Pl_spread_125 rfl ?_
                  exact fin_I (h1 (bsA (bsD μ) (x + n * st) k (1000 * d + 100 + n), μ 74 6) m (spr_win n60 ncd (show ¬ μ 74 6 = 2000 by omega) (wtdB_t.mpr q113)) fs bsm (Or.inr ⟨by omega, by omega⟩)) (by omega)
                · rw [← hwtd] at q113
                  refine Rj_if_eq (q := 119) (t := 126) d_Pl_spread_116 rfl (by decide) (by decide) (fun _ => ?_) (fun c => absurd c (by decide))
                  refine Rj_iinc (q := 129) (ls' := [vA 74, vI k, vI d, vL st, vU, vI (n + 1), vL (x + (n * st)), vU]) d_Pl_spread_126 rfl rfl (by decide) rfl ?_
                  refine Rj_goto (t := 17) d_Pl_spread_129 (by decide) ?_
                  refine Rj_pre (ls' := [vA 74, vI k, vI d, vL st, vU, vI (n + 1)]) (t := [vL (x + (n * st)), vU]) rfl ?_
                  have ego := spr_go (SB := (fun t => stdB S lo up dn pl l wt (c * t))) (WB := (fun t => wtdB S lo up dn pl l (c * t))) (st := st) (x := x) (k := k) (d := d) (f := f) (σ := bsD μ) n60 ncd (show ¬ μ 74 6 = 2000 by omega) (fun q => q113 (wtdB_t.mp q))
                  rw [ego, ← bsm] at h1 h2
                  exact ih (μ := m) (by omega) gm cm hIm hl hc (by omega) hd hkd hst (by rw [f1 75 k (by omega)]; exact hx) (by omega) (fun r m2 a b c => h1 r m2 a (fs.trans b) c) (fun m2 a b c => h2 m2 a (fs.trans b) c)
              · refine Rj_bipush (q := 91) d_Pl_spread_89 rfl (by decide +kernel) ?_
                refine Rj_iret d_Pl_spread_91 rfl ?_
                exact h1 (bsD μ, -3) (mset μ 74 7 fp) (spr_unk n60 ncd (show μ 74 6 = 2000 by omega)) fs0 rfl (Or.inl rfl)
set_option maxHeartbeats 4000000 in
theorem s_spread {μ : Mem} {Q : PV → Mem → Prop} {S lo up dn lk pl : Int → Int} {l tc wt wo ws wa pu a b c k d : Int} (h : GX μ S lo up dn lk pl) (hC : CHO μ S lo lk l tc wt wo ws wa pu a b) (hI : SID μ S lo up dn lk l c) (hl : 0 ≤ l ∧ l < S 0 ∧ lo l = l) (hc : c * bel S lo up dn lk l = pts S) (hk : 0 ≤ k ∧ k < μ 74 6) (hd : 0 ≤ d ∧ d < S 0 ∧ lo d = l) (hkd : lk d = 0) (h1 : ∀ r μ', spr (fun t => stdB S lo up dn pl l wt (c * t)) (fun t => wtdB S lo up dn pl l (c * t)) (stp S lo up dn lk d l) (μ 75 k) k d 122 (-60) (bsD μ) = .inl r → Fr Wsd μ μ' → bsD μ' = r.1 → (r.2 = -3 ∨ (0 < r.2 ∧ r.2 < 2000)) → Q (vI r.2) μ') (h2 : ∀ μ', spr (fun t => stdB S lo up dn pl l wt (c * t)) (fun t => wtdB S lo up dn pl l (c * t)) (stp S lo up dn lk d l) (μ 75 k) k d 122 (-60) (bsD μ) = .inr (bsD μ') → Fr Wsd μ μ' → SID μ' S lo up dn lk l c → Q (vI (-4)) μ') : Rj YD y_Pl_spread 0 [vA 74, vI k, vI d] [] μ Q := by
  obtain ⟨z0, z1, z2, z3, z4, z5, z6, z7⟩ := h.z
  have hH := h.2.2.1
  have ste := stp_of h (p := d) (d := l) ⟨hd.1, hd.2.1⟩ ⟨hl.1, hl.2.1⟩ (by omega) (by rw [← lk_alike hH ⟨hd.1, hd.2.1⟩ ⟨hl.1, hl.2.1⟩ (by omega)]; exact hkd)
  refine Rj_aload_n (q := 1) d_Pl_spread_0 rfl rfl rfl ?_
  refine Rj_gr (q := 4) (zd := 59) gD_Pl_29_74 rfl rfl d_Pl_spread_1 rfl ?_
  refine Rj_iload_n (q := 5) d_Pl_spread_4 rfl rfl rfl ?_
  refine Rj_aload_n (q := 6) d_Pl_spread_5 rfl rfl rfl ?_
  refine Rj_gi (q := 9) (ki := 9) (v := l) gD_Pl_67_74 rfl rfl hC.1.1 d_Pl_spread_6 rfl ?_
  refine Rj_vo (q := 12) (z := y_Ge_stepOf) (as := [vI d, vI l]) (rest := []) (la := [vA 59, vI d, vI l]) oD_59_Ge_stepOf ml_Pl_101 mw_Ge_stepOf mv_Ge_stepOf rfl d_Pl_spread_9 rfl rfl rfl rfl rfl ?_
  refine Rj_aload_n (q := 1) d_Ge_stepOf_0 rfl rfl rfl ?_
  refine Rj_gr (q := 4) (zd := 64) gD_Ge_25_59 rfl rfl d_Ge_stepOf_1 rfl ?_
  refine Rj_iload_n (q := 5) d_Ge_stepOf_4 rfl rfl rfl ?_
  refine Rj_bipush (q := 7) d_Ge_stepOf_5 rfl (by decide +kernel) ?_
  refine Rj_imul (q := 8) d_Ge_stepOf_7 rfl ?_
  refine Rj_iload_n (q := 9) d_Ge_stepOf_8 rfl rfl rfl ?_
  refine Rj_iadd (q := 10) d_Ge_stepOf_9 rfl ?_
  refine Rj_la (q := 11) (v := stp S lo up dn lk d l) aD_64 rfl (by omega) ste d_Ge_stepOf_10 rfl ?_
  refine Rj_lret d_Ge_stepOf_11 rfl ?_
  refine Rj_lstore_n (q := 13) (ls' := [vA 74, vI k, vI d, vL (stp S lo up dn lk d l), vU]) d_Pl_spread_12 rfl rfl (by decide) rfl ?_
  refine Rj_bipush (q := 15) d_Pl_spread_13 rfl (by decide +kernel) ?_
  refine Rj_istore (q := 17) (ls' := [vA 74, vI k, vI d, vL (stp S lo up dn lk d l), vU, vI (-60)]) d_Pl_spread_15 rfl (by decide) rfl ?_
  exact s_spread_17 122 (by decide) h hC hI hl hc hk hd hkd rfl rfl (by decide) h1 h2
