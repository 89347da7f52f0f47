theorem gD_Pl_42_59 : GI YD "DoorsOnCogs$Planner" 42 59 1 (some (some 60)) := ⟨by decide, _, _, _, fl_Pl_42, cD_59, by decide, rfl⟩
theorem oD_74_Pl_choose : OI YD 74 y_Pl_choose := ⟨by decide, _, _, _, cD_74, rfl⟩
theorem oD_74_Pl_search : OI YD 74 y_Pl_search := ⟨by decide, _, _, _, cD_74, rfl⟩
theorem oD_74_Pl_followBack : OI YD 74 y_Pl_followBack := ⟨by decide, _, _, _, cD_74, rfl⟩
/-! the class plans: sets one after another -/
section PLN2
variable {D : Int} {ac : Int → Bool} {res dp : Int → Int} {kt : Int → Int → Int} {f : Nat} {d b u k : Int}
theorem pln_skip (h : d < D) (h2 : ¬ ac d = true) : pln D ac res dp (f + 1) d b u = pln D ac res dp f (d + 1) b u := by
  show (if _ then _ else _) = _
  rw [if_pos h, if_neg h2]
theorem pln_no (h : d < D) (h2 : ac d = true) (h3 : res d = -2) : pln D ac res dp (f + 1) d b u = -2 := by
  show (if _ then _ else _) = _
  rw [if_pos h, if_pos h2, if_pos h3]
theorem pln_unk (h : d < D) (h2 : ac d = true) (h3 : res d = -3) : pln D ac res dp (f + 1) d b u = pln D ac res dp f (d + 1) b 1 := by
  show (if _ then _ else _) = _
  rw [if_pos h, if_pos h2, if_neg (by omega), if_pos h3]
theorem pln_go (h : d < D) (h2 : ac d = true) (h3 : 0 ≤ res d) : pln D ac res dp (f + 1) d b u = pln D ac res dp f (d + 1) (b + dp d) u := by
  show (if _ then _ else _) = _
  rw [if_pos h, if_pos h2, if_neg (by omega), if_neg (by omega)]
theorem prw_out (h : ¬ d < D) : prw D ac res dp kt (f + 1) d b k = -2 := by
  show (if _ then _ else _) = _
  rw [if_neg h]
theorem prw_end (hdp : ∀ x, 0 ≤ x → ac x = true → 0 ≤ res x → 0 ≤ dp x) : ∀ (f : Nat) (d b : Int), 0 ≤ d → pnd D ac res dp f d b ≤ k → prw D ac res dp kt f d b k = -2
  | 0, _, _, _, _ => rfl
  | f + 1, d, b, d0, h => by
    by_cases c1 : d < D
    · by_cases c2 : ac d = true ∧ 0 ≤ res d
      · rw [pnd_go c1 c2] at h
        have mono : ∀ (f : Nat) (d b : Int), 0 ≤ d → b ≤ pnd D ac res dp f d b := by
          intro f
          induction f with
          | zero => intro d b _; exact Int.le_refl _
          | succ f ih =>
            intro d b d0
            by_cases e1 : d < D
            · by_cases e2 : ac d = true ∧ 0 ≤ res d
              · rw [pnd_go e1 e2]
                have := ih (d + 1) (b + dp d) (by omega)
                have := hdp d d0 e2.1 e2.2
                omega
              · rw [pnd_skip e1 e2]; exact ih (d + 1) b (by omega)
            · rw [pnd_out e1]; exact Int.le_refl _
        have := mono f (d + 1) (b + dp d) (by omega)
        rw [prw_go c1 c2 (by omega)]
        exact prw_end hdp f (d + 1) (b + dp d) (by omega) h
      · rw [pnd_skip c1 c2] at h
        rw [prw_skip c1 c2]
        exact prw_end hdp f (d + 1) b (by omega) h
    · rw [prw_out c1]
end PLN2
abbrev Wso (c : Nat) (i : Int) : Prop := (75 ≤ c ∧ c ≤ 78) ∨ (c = 74 ∧ 6 ≤ i ∧ i ≤ 15)
theorem GX.so {μ ν : Mem} {S lo up dn lk pl : Int → Int} (h : GX μ S lo up dn lk pl) (f : Fr Wso μ ν) : GX ν S lo up dn lk pl := h.fr f (fun c i q => by unfold gxc at q; unfold Wso; omega)
theorem smt_of {S lo up dn pl : Int → Int} {l b : Int} (h : ¬ wtd S lo up dn pl l b) : smt S lo l := by
  refine Classical.byContradiction (fun q => h (fun x x0 x1 x2 => ⟨fun r => absurd ⟨x, x0, x1, x2, Or.inl r⟩ q, fun r => absurd ⟨x, x0, x1, x2, Or.inr r⟩ q⟩))
set_option maxHeartbeats 4000000 in
theorem s_solve_15 : ∀ (f : Nat) {μ : Mem} {Q : PV → Mem → Prop} {S lo up dn lk pl : Int → Int} {tc wt k b u d : Int}, ((S 0 - d).toNat < f) → (GX μ S lo up dn lk pl) → (SB S pl) → ((0 ≤ S 3 ∧ S 3 < 4096) ∧ μ 3 10 = S 3) → ((0 ≤ S 4 ∧ S 4 < 4096) ∧ μ 3 11 = S 4) → (0 ≤ tc ∧ tc < 4096) → (0 ≤ wt ∧ wt < 4096) → (0 ≤ k ∧ k ≤ 2147483647) → (u = 0 ∨ u = 1) → (0 ≤ d ∧ d ≤ S 0) → (0 ≤ b ∧ b ≤ d * 1999) → (b ≤ k → μ 74 8 = -2) → (∀ μ', Fr Wso μ μ' → (0 ≤ pln (S 0) (acP S lo up dn pl) (resP S lo up dn pl lk tc wt) (dpP S lo up dn pl tc wt) f d b u → (b ≤ k → μ' 74 8 = prw (S 0) (acP S lo up dn pl) (resP S lo up dn pl lk tc wt) (dpP S lo up dn pl tc wt) (ktP S lo up dn pl tc wt) f d b k) ∧ (k < b → μ' 74 8 = μ 74 8)) → Q (vI (pln (S 0) (acP S lo up dn pl) (resP S lo up dn pl lk tc wt) (dpP S lo up dn pl tc wt) f d b u)) μ') → Rj YD y_Pl_solve 15 [vA 74, vI tc, vI wt, vI k, vI b, vI u, vI d] [] μ Q := by
  intro f
  induction f with
  | zero => intro μ Q S lo up dn lk pl tc wt k b u d hf h hsb hw3 hw4 htc hwt hk hu hd hb ha hQ; exact absurd hf (by omega)
  | succ f ih =>
    intro μ Q S lo up dn lk pl tc wt k b u d hf h hsb hw3 hw4 htc hwt hk hu hd hb ha hQ
    obtain ⟨z0, z1, z2, z3, z4, z5, z6, z7⟩ := h.z
    refine Rj_iload (q := 17) d_Pl_solve_15 rfl rfl ?_
    refine Rj_aload_n (q := 18) d_Pl_solve_17 rfl rfl rfl ?_
    refine Rj_gr (q := 21) (zd := 3) gD_Pl_25_74 rfl rfl d_Pl_solve_18 rfl ?_
    refine Rj_gi (q := 24) (ki := 0) (v := S 0) gD_Pl_37_3 rfl rfl z2 d_Pl_solve_21 rfl ?_
    refine Rj_icmp_ge (q := 27) (t := 121) d_Pl_solve_24 rfl (by decide) ⟨by omega, by omega⟩ ⟨by omega, by omega⟩ (fun c24 => ?_) (fun c24 => ?_)
    · refine Rj_iload (q := 123) d_Pl_solve_121 rfl rfl ?_
      refine Rj_if_eq (q := 126) (t := 131) d_Pl_solve_123 rfl (by decide) ⟨by omega, by omega⟩ (fun c123 => ?_) (fun c123 => ?_)
      · refine Rj_iload (q := 133) d_Pl_solve_131 rfl rfl ?_
        refine Rj_iret d_Pl_solve_133 rfl ?_
        have nd : ¬ d < S 0 := by omega
        have q := hQ μ (Fr.refl _ _)
        rw [pln_out nd, prw_out nd] at q
        first
          | (rw [if_pos (by omega)] at q; exact q (fun r => absurd r (by decide)))
          | (rw [if_neg (by omega)] at q; exact q (fun _ => ⟨ha, fun _ => rfl⟩))
      · refine Rj_bipush (q := 128) d_Pl_solve_126 rfl (by decide +kernel) ?_
        refine Rj_goto (t := 133) d_Pl_solve_128 (by decide) ?_
        refine Rj_iret d_Pl_solve_133 rfl ?_
        have nd : ¬ d < S 0 := by omega
        have q := hQ μ (Fr.refl _ _)
        rw [pln_out nd, prw_out nd] at q
        first
          | (rw [if_pos (by omega)] at q; exact q (fun r => absurd r (by decide)))
          | (rw [if_neg (by omega)] at q; exact q (fun _ => ⟨ha, fun _ => rfl⟩))
    · obtain ⟨dt, dsp, tr, sr, br, bp, sc, lr, lq, mr, pr, kr, zk⟩ := h.d (d := d) ⟨hd.1, by omega⟩
      refine Rj_aload_n (q := 28) d_Pl_solve_27 rfl rfl rfl ?_
      refine Rj_gr (q := 31) (zd := 59) gD_Pl_29_74 rfl rfl d_Pl_solve_28 rfl ?_
      refine Rj_gr (q := 34) (zd := 60) gD_Pl_42_59 rfl rfl d_Pl_solve_31 rfl ?_
      refine Rj_iload (q := 36) d_Pl_solve_34 rfl rfl ?_
      refine Rj_ia (q := 37) (v := μ 60 d) aD_60 rfl (by omega) rfl d_Pl_solve_36 rfl ?_
      refine Rj_iload (q := 39) d_Pl_solve_37 rfl rfl ?_
      refine Rj_icmp_ne (q := 42) (t := 115) d_Pl_solve_39 rfl (by decide) ⟨by omega, by omega⟩ ⟨by omega, by omega⟩ (fun c39 => ?_) (fun c39 => ?_)
      · refine Rj_iinc (q := 118) (ls' := [vA 74, vI tc, vI wt, vI k, vI b, vI u, vI (d + 1)]) d_Pl_solve_115 rfl rfl (by decide) rfl ?_
        refine Rj_goto (t := 15) d_Pl_solve_118 (by decide) ?_
        refine Rj_pre (ls' := [vA 74, vI tc, vI wt, vI k, vI b, vI u, vI (d + 1)]) (t := []) rfl ?_
        have dS : d < S 0 := by omega
        have na : ¬ acP S lo up dn pl d = true := fun q => by
          have q2 := acP_t.mp q
          first
            | exact absurd q2.1 (by omega)
            | exact q2.2.2 q52
        have v := pln_skip (D := S 0) (ac := (acP S lo up dn pl)) (res := (resP S lo up dn pl lk tc wt)) (dp := (dpP S lo up dn pl tc wt)) (f := f) (d := d) (b := b) (u := u) dS na
        rw [v] at hQ
        have pv := prw_skip (D := S 0) (ac := (acP S lo up dn pl)) (res := (resP S lo up dn pl lk tc wt)) (dp := (dpP S lo up dn pl tc wt)) (f := f) (d := d) (b := b) (kt := (ktP S lo up dn pl tc wt)) (k := k) dS (fun q => na q.1)
        rw [pv] at hQ
        exact ih (by omega) h hsb hw3 hw4 htc hwt hk hu (by omega) (by omega) ha hQ
      · refine Rj_aload_n (q := 43) d_Pl_solve_42 rfl rfl rfl ?_
        refine Rj_iload (q := 45) d_Pl_solve_43 rfl rfl ?_
        refine Rj_iload_n (q := 46) d_Pl_solve_45 rfl rfl rfl ?_
        refine Rj_iload_n (q := 47) d_Pl_solve_46 rfl rfl rfl ?_
        refine Rj_vov (q := 50) (z := y_Pl_choose) (as := [vI d, vI tc, vI wt]) (rest := []) (la := [vA 74, vI d, vI tc, vI wt]) oD_74_Pl_choose ml_Pl_47 mw_Pl_choose mv_Pl_choose rfl d_Pl_solve_47 rfl rfl rfl rfl rfl ?_
        have dS : d < S 0 := by omega
        have ld : lo d = d := by omega
        refine s_choose h hsb ⟨hd.1, dS, ld⟩ hw3 hw4 htc hwt (fun m1 wo ws wa pu a b' f1 cho => ?_)
        have fo1 : Fr Wso μ m1 := Fr.wide f1 (fun c i q => by unfold Wch at q; unfold Wso; omega)
        have g1 := h.so fo1
        have hwo : ∀ x, 0 ≤ x → x < S 0 → zbit wo x = 1 ∨ zbit ws x = 1 → lo x = d ∧ d ≤ x := fun y y0 y1 y2 => by
          have q : lo y = d := y2.elim (fun r => ((cho.2.2.1 y y0).1.mp r).1.2) (fun r => ((cho.2.2.1 y y0).2.1.mp r).1.2)
          have := Hung_lo h.2.2.1 ⟨y0, y1⟩
          exact ⟨q, by omega⟩
        have hwtd := wtd_D (up := up) (dn := dn) (pl := pl) (b' := 0) (V := fun _ => 0) cho (fun x _ _ _ => by unfold plc; rw [Int.zero_tdiv, Int.zero_mul])
        refine Rj_aload_n (q := 51) d_Pl_solve_50 rfl rfl rfl ?_
        refine Rj_lconst (q := 52) (z := 0) d_Pl_solve_51 rfl rfl ?_
        refine Rj_vo (q := 55) (z := y_Pl_isAsWanted) (as := [vL 0]) (rest := []) (la := [vA 74, vL 0, vU]) oD_74_Pl_isAsWanted ml_Pl_51 mw_Pl_isAsWanted mv_Pl_isAsWanted rfl d_Pl_solve_52 rfl rfl rfl rfl rfl ?_
        refine s_isAsWanted g1 ⟨hd.1, dS⟩ cho.1.1 cho.1.2.1 cho.1.2.2.1 cho.2.1.1 cho.2.1.2.1 hwo BHD_0 (fun q52 => ?_) (fun q52 => ?_)
        · rw [← hwtd] at q52
          refine Rj_if_eq (q := 58) (t := 62) d_Pl_solve_55 rfl (by decide) (by decide) (fun c => absurd c (by decide)) (fun _ => ?_)
          refine Rj_iconst (q := 59) d_Pl_solve_58 rfl ?_
          refine Rj_goto (t := 66) d_Pl_solve_59 (by decide) ?_
          refine Rj_istore (q := 68) (ls' := [vA 74, vI tc, vI wt, vI k, vI b, vI u, vI d, vI 0]) d_Pl_solve_66 rfl (by decide) rfl ?_
          refine Rj_iload (q := 70) d_Pl_solve_68 rfl rfl ?_
          refine Rj_bipush (q := 72) d_Pl_solve_70 rfl (by decide +kernel) ?_
          refine Rj_icmp_ne (q := 75) (t := 78) d_Pl_solve_72 rfl (by decide) (by decide) (by decide) (fun _ => ?_) (fun c => absurd c (by decide))
          refine Rj_iload (q := 80) d_Pl_solve_78 rfl rfl ?_
          refine Rj_iload (q := 82) d_Pl_solve_80 rfl rfl ?_
          refine Rj_bipush (q := 84) d_Pl_solve_82 rfl (by decide +kernel) ?_
          refine Rj_icmp_ne (q := 87) (t := 91) d_Pl_solve_84 rfl (by decide) (by decide) (by decide) (fun _ => ?_) (fun c => absurd c (by decide))
          refine Rj_iconst (q := 92) d_Pl_solve_91 rfl ?_
          refine Rj_ior (q := 93) (z := u) d_Pl_solve_92 rfl (by rcases hu with q | q <;> rw [q] <;> decide) ?_
          refine Rj_istore (q := 95) (ls' := [vA 74, vI tc, vI wt, vI k, vI b, vI u, vI d, vI 0]) d_Pl_solve_93 rfl (by decide) rfl ?_
          refine Rj_iload (q := 97) d_Pl_solve_95 rfl rfl ?_
          refine Rj_if_le (q := 100) (t := 115) d_Pl_solve_97 rfl (by decide) (by decide) (fun _ => ?_) (fun c => absurd c (by decide))
          refine Rj_iinc (q := 118) (ls' := [vA 74, vI tc, vI wt, vI k, vI b, vI u, vI (d + 1), vI 0]) d_Pl_solve_115 rfl rfl (by decide) rfl ?_
          refine Rj_goto (t := 15) d_Pl_solve_118 (by decide) ?_
          refine Rj_pre (ls' := [vA 74, vI tc, vI wt, vI k, vI b, vI u, vI (d + 1)]) (t := [vI 0]) rfl ?_
          have na : ¬ acP S lo up dn pl d = true := fun q => by
            have q2 := acP_t.mp q
            first
              | exact absurd q2.1 (by omega)
              | exact q2.2.2 q52
          have v := pln_skip (D := S 0) (ac := (acP S lo up dn pl)) (res := (resP S lo up dn pl lk tc wt)) (dp := (dpP S lo up dn pl tc wt)) (f := f) (d := d) (b := b) (u := u) dS na
          rw [v] at hQ
          have pv := prw_skip (D := S 0) (ac := (acP S lo up dn pl)) (res := (resP S lo up dn pl lk tc wt)) (dp := (dpP S lo up dn pl tc wt)) (f := f) (d := d) (b := b) (kt := (ktP S lo up dn pl tc wt)) (k := k) dS (fun q => na q.1)
          rw [pv] at hQ
          have e8 : m1 74 8 = μ 74 8 := f1 74 8 (by unfold Wch; omega)
          exact ih (μ := m1) (by omega) (h.so fo1) hsb ⟨hw3.1, (fo1 3 10 (by unfold Wso; omega)).trans hw3.2⟩ ⟨hw4.1, (fo1 3 11 (by unfold Wso; omega)).trans hw4.2⟩ htc hwt hk hu (by omega) (by omega) (fun q => e8.trans (ha q)) (fun m4 a1 a2 => hQ m4 (fo1.trans a1) (fun q => ⟨(a2 q).1, fun q2 => ((a2 q).2 q2).trans e8⟩))
        · rw [← hwtd] at q52
          refine Rj_if_eq (q := 58) (t := 62) d_Pl_solve_55 rfl (by decide) (by decide) (fun _ => ?_) (fun c => absurd c (by decide))
          refine Rj_aload_n (q := 63) d_Pl_solve_62 rfl rfl rfl ?_
          refine Rj_vo (q := 66) (z := y_Pl_search) (as := []) (rest := []) (la := [vA 74]) oD_74_Pl_search ml_Pl_55 mw_Pl_search mv_Pl_search rfl d_Pl_solve_63 rfl rfl rfl rfl rfl ?_
          obtain ⟨cc, hcc⟩ := (bel_spec (lk := lk) h.1 h.2.2.1.1 (d := d) ⟨hd.1, dS⟩).2.1
          refine s_srchD (c := cc) g1 cho ⟨hd.1, dS, ld⟩ (by rw [hcc, Int.mul_comm]) (fun m2 f2 gs => ?_)
          have fo2 : Fr Wso μ m2 := fo1.trans (Fr.wide f2 (fun c i q => by unfold Wsd at q; unfold Wso; omega))
          have ac : acP S lo up dn pl d = true := acP_t.mpr ⟨ld, smt_of q52, q52⟩
          have rc := resP_c (S := S) (lo := lo) (up := up) (dn := dn) (pl := pl) (lk := lk) (tc := tc) (wt := wt) (l := d)
          have a8 : m2 74 8 = μ 74 8 := (f2 74 8 (by unfold Wsd; omega)).trans (f1 74 8 (by unfold Wch; omega))
          refine Rj_istore (q := 68) (ls' := [vA 74, vI tc, vI wt, vI k, vI b, vI u, vI d, vI (resP S lo up dn pl lk tc wt d)]) d_Pl_solve_66 rfl (by decide) rfl ?_
          refine Rj_iload (q := 70) d_Pl_solve_68 rfl rfl ?_
          refine Rj_bipush (q := 72) d_Pl_solve_70 rfl (by decide +kernel) ?_
          refine Rj_icmp_ne (q := 75) (t := 78) d_Pl_solve_72 rfl (by decide) ⟨by omega, by omega⟩ (by decide) (fun c72 => ?_) (fun c72 => ?_)
          · refine Rj_iload (q := 80) d_Pl_solve_78 rfl rfl ?_
            refine Rj_iload (q := 82) d_Pl_solve_80 rfl rfl ?_
            refine Rj_bipush (q := 84) d_Pl_solve_82 rfl (by decide +kernel) ?_
            refine Rj_icmp_ne (q := 87) (t := 91) d_Pl_solve_84 rfl (by decide) ⟨by omega, by omega⟩ (by decide) (fun c84 => ?_) (fun c84 => ?_)
            · refine Rj_iconst (q := 92) d_Pl_solve_91 rfl ?_
              refine Rj_ior (q := 93) (z := u) d_Pl_solve_92 rfl (by rcases hu with q | q <;> rw [q] <;> decide) ?_
              refine Rj_istore (q := 95) (ls' := [vA 74, vI tc, vI wt, vI k, vI b, vI u, vI d, vI (resP S lo up dn pl lk tc wt d)]) d_Pl_solve_93 rfl (by decide) rfl ?_
              refine Rj_iload (q := 97) d_Pl_solve_95 rfl rfl ?_
              refine Rj_if_le (q := 100) (t := 115) d_Pl_solve_97 rfl (by decide) ⟨by omega, by omega⟩ (fun c97 => ?_) (fun c97 => ?_)
              · refine Rj_iinc (q := 118) (ls' := [vA 74, vI tc, vI wt, vI k, vI b, vI u, vI (d + 1), vI (resP S lo up dn pl lk tc wt d)]) d_Pl_solve_115 rfl rfl (by decide) rfl ?_
                refine Rj_goto (t := 15) d_Pl_solve_118 (by decide) ?_
                clear gs
                exfalso
                omega
              · refine Rj_iload (q := 102) d_Pl_solve_100 rfl rfl ?_
                refine Rj_aload_n (q := 103) d_Pl_solve_102 rfl rfl rfl ?_
                refine Rj_iload (q := 105) d_Pl_solve_103 rfl rfl ?_
                refine Rj_iload_n (q := 106) d_Pl_solve_105 rfl rfl rfl ?_
                refine Rj_iload (q := 108) d_Pl_solve_106 rfl rfl ?_
                refine Rj_isub (q := 109) d_Pl_solve_108 rfl ?_
                refine Rj_vo (q := 112) (z := y_Pl_followBack) (as := [vI (resP S lo up dn pl lk tc wt d), vI (k - b)]) (rest := [vI b]) (la := [vA 74, vI (resP S lo up dn pl lk tc wt d), vI (k - b)]) oD_74_Pl_followBack ml_Pl_59 mw_Pl_followBack mv_Pl_followBack rfl d_Pl_solve_109 rfl rfl rfl rfl rfl ?_
                obtain ⟨mm, g2, g3, g4, g5, g6⟩ := gs (by omega)
                have db := dpt_bd g4 2001 _ (show 0 ≤ resP S lo up dn pl lk tc wt d by omega) g3
                refine s_followBack rfl rfl g4 g2 ⟨by omega, g3⟩ (by omega) (fun m3 f3 k1 k2 => ?_)
                rw [g5] at db k1 k2
                rw [g6] at k1
                rw [g5]
                have fo3 : Fr Wso μ m3 := fo2.trans (Fr.wide f3 (fun c i q => by unfold Wso; omega))
                refine Rj_iadd (q := 113) d_Pl_solve_112 rfl ?_
                refine Rj_istore (q := 115) (ls' := [vA 74, vI tc, vI wt, vI k, vI (b + (dpP S lo up dn pl tc wt d)), vI u, vI d, vI (resP S lo up dn pl lk tc wt d)]) d_Pl_solve_113 rfl (by decide) rfl ?_
                refine Rj_iinc (q := 118) (ls' := [vA 74, vI tc, vI wt, vI k, vI (b + (dpP S lo up dn pl tc wt d)), vI u, vI (d + 1), vI (resP S lo up dn pl lk tc wt d)]) d_Pl_solve_115 rfl rfl (by decide) rfl ?_
                refine Rj_goto (t := 15) d_Pl_solve_118 (by decide) ?_
                refine Rj_pre (ls' := [vA 74, vI tc, vI wt, vI k, vI (b + (dpP S lo up dn pl tc wt d)), vI u, vI (d + 1)]) (t := [vI (resP S lo up dn pl lk tc wt d)]) rfl ?_
                clear gs
                have rn : 0 ≤ resP S lo up dn pl lk tc wt d := by omega
                have v := pln_go (D := S 0) (ac := (acP S lo up dn pl)) (res := (resP S lo up dn pl lk tc wt)) (dp := (dpP S lo up dn pl tc wt)) (f := f) (d := d) (b := b) (u := u) dS ac rn
                rw [v] at hQ
                refine ih (μ := m3) (b := b + dpP S lo up dn pl tc wt d) (by omega) (h.so fo3) hsb ⟨hw3.1, (fo3 3 10 (by unfold Wso; omega)).trans hw3.2⟩ ⟨hw4.1, (fo3 3 11 (by unfold Wso; omega)).trans hw4.2⟩ htc hwt hk hu (by omega) (by omega) (fun q => ?_) (fun m4 a1 a2 => hQ m4 (fo3.trans a1) (fun q => ⟨fun q2 => ?_, fun q2 => ?_⟩))
                · rw [k2 (by omega), a8]; exact ha (by omega)
                · by_cases cx : k < b + dpP S lo up dn pl tc wt d
                  · rw [prw_in dS ⟨ac, rn⟩ cx, (a2 q).2 cx, k1 (by omega)]
                  · rw [prw_go dS ⟨ac, rn⟩ cx]; exact (a2 q).1 (by omega)
                · rw [(a2 q).2 (by omega), k2 (by omega), a8]
            · refine Rj_iconst (q := 88) d_Pl_solve_87 rfl ?_
              refine Rj_goto (t := 92) d_Pl_solve_88 (by decide) ?_
              refine Rj_ior (q := 93) (z := 1) d_Pl_solve_92 rfl (by rcases hu with q | q <;> rw [q] <;> decide) ?_
              refine Rj_istore (q := 95) (ls' := [vA 74, vI tc, vI wt, vI k, vI b, vI 1, vI d, vI (resP S lo up dn pl lk tc wt d)]) d_Pl_solve_93 rfl (by decide) rfl ?_
              refine Rj_iload (q := 97) d_Pl_solve_95 rfl rfl ?_
              refine Rj_if_le (q := 100) (t := 115) d_Pl_solve_97 rfl (by decide) ⟨by omega, by omega⟩ (fun c97 => ?_) (fun c97 => ?_)
              · refine Rj_iinc (q := 118) (ls' := [vA 74, vI tc, vI wt, vI k, vI b, vI 1, vI (d + 1), vI (resP S lo up dn pl lk tc wt d)]) d_Pl_solve_115 rfl rfl (by decide) rfl ?_
                refine Rj_goto (t := 15) d_Pl_solve_118 (by decide) ?_
                refine Rj_pre (ls' := [vA 74, vI tc, vI wt, vI k, vI b, vI 1, vI (d + 1)]) (t := [vI (resP S lo up dn pl lk tc wt d)]) rfl ?_
                clear gs
                have rn : ¬ 0 ≤ resP S lo up dn pl lk tc wt d := by omega
                have v := pln_unk (D := S 0) (ac := (acP S lo up dn pl)) (res := (resP S lo up dn pl lk tc wt)) (dp := (dpP S lo up dn pl tc wt)) (f := f) (d := d) (b := b) (u := u) dS ac (by omega)
                rw [v] at hQ
                have pv := prw_skip (D := S 0) (ac := (acP S lo up dn pl)) (res := (resP S lo up dn pl lk tc wt)) (dp := (dpP S lo up dn pl tc wt)) (f := f) (d := d) (b := b) (kt := (ktP S lo up dn pl tc wt)) (k := k) dS (fun q => rn q.2)
                rw [pv] at hQ
                exact ih (μ := m2) (u := 1) (by omega) (h.so fo2) hsb ⟨hw3.1, (fo2 3 10 (by unfold Wso; omega)).trans hw3.2⟩ ⟨hw4.1, (fo2 3 11 (by unfold Wso; omega)).trans hw4.2⟩ htc hwt hk (Or.inr rfl) (by omega) (by omega) (fun q => a8.trans (ha q)) (fun m4 a1 a2 => hQ m4 (fo2.trans a1) (fun q => ⟨(a2 q).1, fun q2 => ((a2 q).2 q2).trans a8⟩))
              · refine Rj_iload (q := 102) d_Pl_solve_100 rfl rfl ?_
                refine Rj_aload_n (q := 103) d_Pl_solve_102 rfl rfl rfl ?_
                refine Rj_iload (q := 105) d_Pl_solve_103 rfl rfl ?_
                refine Rj_iload_n (q := 106) d_Pl_solve_105 rfl rfl rfl ?_
                refine Rj_iload (q := 108) d_Pl_solve_106 rfl rfl ?_
                refine Rj_isub (q := 109) d_Pl_solve_108 rfl ?_
                refine Rj_vo (q := 112) (z := y_Pl_followBack) (as := [vI (resP S lo up dn pl lk tc wt d), vI (k - b)]) (rest := [vI b]) (la := [vA 74, vI (resP S lo up dn pl lk tc wt d), vI (k - b)]) oD_74_Pl_followBack ml_Pl_59 mw_Pl_followBack mv_Pl_followBack rfl d_Pl_solve_109 rfl rfl rfl rfl rfl ?_
                obtain ⟨mm, g2, g3, g4, g5, g6⟩ := gs (by omega)
                have db := dpt_bd g4 2001 _ (show 0 ≤ resP S lo up dn pl lk tc wt d by omega) g3
                refine s_followBack rfl rfl g4 g2 ⟨by omega, g3⟩ (by omega) (fun m3 f3 k1 k2 => ?_)
                rw [g5] at db k1 k2
                rw [g6] at k1
                rw [g5]
                have fo3 : Fr Wso μ m3 := fo2.trans (Fr.wide f3 (fun c i q => by unfold Wso; omega))
                refine Rj_iadd (q := 113) d_Pl_solve_112 rfl ?_
                refine Rj_istore (q := 115) (ls' := [vA 74, vI tc, vI wt, vI k, vI (b + (dpP S lo up dn pl tc wt d)), vI 1, vI d, vI (resP S lo up dn pl lk tc wt d)]) d_Pl_solve_113 rfl (by decide) rfl ?_
                refine Rj_iinc (q := 118) (ls' := [vA 74, vI tc, vI wt, vI k, vI (b + (dpP S lo up dn pl tc wt d)), vI 1, vI (d + 1), vI (resP S lo up dn pl lk tc wt d)]) d_Pl_solve_115 rfl rfl (by decide) rfl ?_
                refine Rj_goto (t := 15) d_Pl_solve_118 (by decide) ?_
                clear gs
                exfalso
                omega
          · refine Rj_bipush (q := 77) d_Pl_solve_75 rfl (by decide +kernel) ?_
            refine Rj_iret d_Pl_solve_77 rfl ?_
            have v := pln_no (D := S 0) (ac := (acP S lo up dn pl)) (res := (resP S lo up dn pl lk tc wt)) (dp := (dpP S lo up dn pl tc wt)) (f := f) (d := d) (b := b) (u := u) dS ac (by omega)
            rw [v] at hQ
            exact hQ m2 fo2 (fun r => absurd r (by decide))
set_option maxHeartbeats 4000000 in
theorem s_solve {μ : Mem} {Q : PV → Mem → Prop} {S lo up dn lk pl : Int → Int} {tc wt k : Int} (h : GX μ S lo up dn lk pl) (hsb : SB S pl) (hw3 : (0 ≤ S 3 ∧ S 3 < 4096) ∧ μ 3 10 = S 3) (hw4 : (0 ≤ S 4 ∧ S 4 < 4096) ∧ μ 3 11 = S 4) (htc : 0 ≤ tc ∧ tc < 4096) (hwt : 0 ≤ wt ∧ wt < 4096) (hk : 0 ≤ k ∧ k ≤ 2147483647) (hQ : ∀ μ', Fr Wso μ μ' → (0 ≤ pln (S 0) (acP S lo up dn pl) (resP S lo up dn pl lk tc wt) (dpP S lo up dn pl tc wt) 13 0 0 0 → μ' 74 8 = prw (S 0) (acP S lo up dn pl) (resP S lo up dn pl lk tc wt) (dpP S lo up dn pl tc wt) (ktP S lo up dn pl tc wt) 13 0 0 k) → Q (vI (pln (S 0) (acP S lo up dn pl) (resP S lo up dn pl lk tc wt) (dpP S lo up dn pl tc wt) 13 0 0 0)) μ') : Rj YD y_Pl_solve 0 [vA 74, vI tc, vI wt, vI k] [] μ Q := by
  obtain ⟨z0, z1, z2, z3, z4, z5, z6, z7⟩ := h.z
  refine Rj_iconst (q := 1) d_Pl_solve_0 rfl ?_
  refine Rj_istore (q := 3) (ls' := [vA 74, vI tc, vI wt, vI k, vI 0]) d_Pl_solve_1 rfl (by decide) rfl ?_
  refine Rj_iconst (q := 4) d_Pl_solve_3 rfl ?_
  refine Rj_istore (q := 6) (ls' := [vA 74, vI tc, vI wt, vI k, vI 0, vI 0]) d_Pl_solve_4 rfl (by decide) rfl ?_
  refine Rj_aload_n (q := 7) d_Pl_solve_6 rfl rfl rfl ?_
  refine Rj_bipush (q := 9) d_Pl_solve_7 rfl (by decide +kernel) ?_
  refine Rj_pi (q := 12) (ki := 8) pD_Pl_33_74 rfl rfl d_Pl_solve_9 rfl ?_
  refine Rj_iconst (q := 13) d_Pl_solve_12 rfl ?_
  refine Rj_istore (q := 15) (ls' := [vA 74, vI tc, vI wt, vI k, vI 0, vI 0, vI 0]) d_Pl_solve_13 rfl (by decide) rfl ?_
  have fo : Fr Wso μ (mset μ 74 8 (-2)) := Fr.put (Fr.refl _ _) (by unfold Wso; omega)
  exact s_solve_15 (μ := mset μ 74 8 (-2)) 13 (by omega) (h.so fo) hsb hw3 hw4 htc hwt hk (Or.inl rfl) (by omega) (by decide) (fun _ => rfl) (fun m a1 a2 => hQ m (fo.trans a1) (fun q => (a2 q).1 hk.1))
