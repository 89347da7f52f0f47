theorem gD_Pl_81_74 : GI YD "DoorsOnCogs$Planner" 81 74 12 none := ⟨by decide, _, _, _, fl_Pl_81, cD_74, by decide, rfl⟩
/-! the class: as wanted, from the start; is a door as quick as an earlier pusher -/
def PAL (μ : Mem) (l pu e : Int) : Prop := ∃ d, 0 ≤ d ∧ d < e ∧ zbit pu d = 1 ∧ ((μ 64 (d * 12 + l)).natAbs : Int) = ((μ 64 (e * 12 + l)).natAbs : Int)
set_option maxHeartbeats 4000000 in
theorem s_isAsWanted {μ : Mem} {Q : PV → Mem → Prop} {S lo up dn lk pl : Int → Int} (h : GX μ S lo up dn lk pl) {V : Int → Int} {l t wo ws : Int} (hl : 0 ≤ l ∧ l < S 0) (hf : μ 74 9 = l) (ho : μ 74 10 = wo) (hs : μ 74 11 = ws) (hw : 0 ≤ wo ∧ wo < 4096) (hw2 : 0 ≤ ws ∧ ws < 4096) (hwa : ∀ x, 0 ≤ x → x < S 0 → zbit wo x = 1 ∨ zbit ws x = 1 → lo x = l ∧ l ≤ x) (hB : BHD μ S lo l t V) (h1 : WA S pl V wo ws → Q (vI 1) μ) (h0 : ¬ WA S pl V wo ws → Q (vI 0) μ) : Rj YD y_Pl_isAsWanted 0 [vA 74, vL t, vU] [] μ Q := by
  refine Rj_aload_n (q := 1) d_Pl_isAsWanted_0 rfl rfl rfl ?_
  refine Rj_gi (q := 4) (ki := 9) (v := l) gD_Pl_67_74 rfl rfl hf d_Pl_isAsWanted_1 rfl ?_
  refine Rj_istore_n (q := 5) (ls' := [vA 74, vL t, vU, vI l]) d_Pl_isAsWanted_4 rfl rfl (by decide) rfl ?_
  exact s_isAsWanted_5 _ (Nat.lt_succ_self _) h hl hf ho hs hw hw2 hwa hB (by omega) (fun x x0 x1 => ⟨fun q => by have := (hwa x x0 (by omega) (Or.inl q)).2; omega, fun q => by have := (hwa x x0 (by omega) (Or.inr q)).2; omega⟩) h1 h0
set_option maxHeartbeats 4000000 in
theorem s_isPushedAlike_19 : ∀ (f : Nat) {μ : Mem} {Q : PV → Mem → Prop} {l pu e d : Int}, ((e - d).toNat < f) → (0 ≤ l ∧ l < 12) → (μ 74 9 = l) → (μ 74 12 = pu) → (0 ≤ pu ∧ pu < 4096) → (∀ p, 0 ≤ p → p ≤ e → -216000 ≤ μ 64 (p * 12 + l) ∧ μ 64 (p * 12 + l) ≤ 216000) → (0 ≤ e ∧ e < 12) → (0 ≤ d ∧ d ≤ e) → (∀ x, 0 ≤ x → x < d → zbit pu x = 1 → ¬ ((μ 64 (x * 12 + l)).natAbs : Int) = ((μ 64 (e * 12 + l)).natAbs : Int)) → (PAL μ l pu e → Q (vI 1) μ) → (¬ PAL μ l pu e → Q (vI 0) μ) → Rj YD y_Pl_isPushedAlike 19 [vA 74, vI e, vL (((μ 64 (e * 12 + l)).natAbs : Int)), vU, vI d] [] μ Q := by
  intro f
  induction f with
  | zero => intro μ Q l pu e d hfu hl hf hpu hpr hst he hd hp h1 h0; exact absurd hf (by omega)
  | succ f ih =>
    intro μ Q l pu e d hfu hl hf hpu hpr hst he hd hp h1 h0
    have zb := zbit_01 pu d
    have s1 := hst e he.1 (by omega)
    refine Rj_iload (q := 21) d_Pl_isPushedAlike_19 rfl rfl ?_
    refine Rj_iload_n (q := 22) d_Pl_isPushedAlike_21 rfl rfl rfl ?_
    refine Rj_icmp_ge (q := 25) (t := 67) d_Pl_isPushedAlike_22 rfl (by decide) ⟨by omega, by omega⟩ ⟨by omega, by omega⟩ (fun c22 => ?_) (fun c22 => ?_)
    · refine Rj_iconst (q := 68) d_Pl_isPushedAlike_67 rfl ?_
      refine Rj_bret0 d_Pl_isPushedAlike_68 rfl ?_
      exact h0 (fun ⟨x, x0, x1, x2, x3⟩ => hp x x0 (by omega) x2 x3)
    · have s2 := hst d (by omega) (by omega)
      refine Rj_aload_n (q := 26) d_Pl_isPushedAlike_25 rfl rfl rfl ?_
      refine Rj_gi (q := 29) (ki := 12) (v := pu) gD_Pl_81_74 rfl rfl hpu d_Pl_isPushedAlike_26 rfl ?_
      refine Rj_iload (q := 31) d_Pl_isPushedAlike_29 rfl rfl ?_
      refine Rj_cs (q := 34) (z := y_D_bitOf) (as := [vI pu, vI d]) (rest := []) (la := [vI pu, vI d]) ml_Pl_84 mw_D_bitOf ms_D_bitOf d_Pl_isPushedAlike_31 rfl rfl rfl rfl rfl ?_
      refine s_D_bitOf (by omega) (by omega) ?_
      refine Rj_iconst (q := 35) d_Pl_isPushedAlike_34 rfl ?_
      refine Rj_icmp_ne (q := 38) (t := 61) d_Pl_isPushedAlike_35 rfl (by decide) ⟨by omega, by omega⟩ (by decide) (fun c35 => ?_) (fun c35 => ?_)
      · refine Rj_iinc (q := 64) (ls' := [vA 74, vI e, vL (((μ 64 (e * 12 + l)).natAbs : Int)), vU, vI (d + 1)]) d_Pl_isPushedAlike_61 rfl rfl (by decide) rfl ?_
        refine Rj_goto (t := 19) d_Pl_isPushedAlike_64 (by decide) ?_
        refine ih (by omega) hl hf hpu hpr hst he (by omega) (fun x x0 x1 x2 => ?_) h1 h0
        by_cases q : x = d
        · subst q
          first
            | exact absurd x2 c35
            | omega
        · exact hp x x0 (by omega) x2
      · refine Rj_aload_n (q := 39) d_Pl_isPushedAlike_38 rfl rfl rfl ?_
        refine Rj_gr (q := 42) (zd := 59) gD_Pl_29_74 rfl rfl d_Pl_isPushedAlike_39 rfl ?_
        refine Rj_iload (q := 44) d_Pl_isPushedAlike_42 rfl rfl ?_
        refine Rj_aload_n (q := 45) d_Pl_isPushedAlike_44 rfl rfl rfl ?_
        refine Rj_gi (q := 48) (ki := 9) (v := l) gD_Pl_67_74 rfl rfl hf d_Pl_isPushedAlike_45 rfl ?_
        refine Rj_vo (q := 51) (z := y_Ge_stepOf) (as := [vI d, vI l]) (rest := []) (la := [vA 59, vI d, vI l]) oD_59_Ge_stepOf ml_Pl_101 mw_Ge_stepOf mv_Ge_stepOf rfl d_Pl_isPushedAlike_48 rfl rfl rfl rfl rfl ?_
        refine Rj_aload_n (q := 1) d_Ge_stepOf_0 rfl rfl rfl ?_
        refine Rj_gr (q := 4) (zd := 64) gD_Ge_25_59 rfl rfl d_Ge_stepOf_1 rfl ?_
        refine Rj_iload_n (q := 5) d_Ge_stepOf_4 rfl rfl rfl ?_
        refine Rj_bipush (q := 7) d_Ge_stepOf_5 rfl (by decide +kernel) ?_
        refine Rj_imul (q := 8) d_Ge_stepOf_7 rfl ?_
        refine Rj_iload_n (q := 9) d_Ge_stepOf_8 rfl rfl rfl ?_
        refine Rj_iadd (q := 10) d_Ge_stepOf_9 rfl ?_
        refine Rj_la (q := 11) (v := μ 64 ((d * 12) + l)) aD_64 rfl (by omega) rfl d_Ge_stepOf_10 rfl ?_
        refine Rj_lret d_Ge_stepOf_11 rfl ?_
        refine Rj_cs (q := 54) (z := y_Jmath_abs) (as := [vL (μ 64 ((d * 12) + l))]) (rest := []) (la := [vL (μ 64 ((d * 12) + l)), vU]) ml_Pl_105 mw_Jmath_abs ms_Jmath_abs d_Pl_isPushedAlike_51 rfl rfl rfl rfl rfl ?_
        refine s_J_abs (by omega) ?_
        refine Rj_lload_n (q := 55) d_Pl_isPushedAlike_54 rfl rfl rfl ?_
        refine Rj_lc_ne (q := 56) (q2 := 59) (t := 61) d_Pl_isPushedAlike_55 rfl d_Pl_isPushedAlike_56 rfl (by decide) ⟨by omega, by omega⟩ ⟨by omega, by omega⟩ (fun c55 => ?_) (fun c55 => ?_)
        · refine Rj_iinc (q := 64) (ls' := [vA 74, vI e, vL (((μ 64 (e * 12 + l)).natAbs : Int)), vU, vI (d + 1)]) d_Pl_isPushedAlike_61 rfl rfl (by decide) rfl ?_
          refine Rj_goto (t := 19) d_Pl_isPushedAlike_64 (by decide) ?_
          refine ih (by omega) hl hf hpu hpr hst he (by omega) (fun x x0 x1 x2 => ?_) h1 h0
          by_cases q : x = d
          · subst q
            first
              | exact absurd x2 c35
              | omega
          · exact hp x x0 (by omega) x2
        · refine Rj_iconst (q := 60) d_Pl_isPushedAlike_59 rfl ?_
          refine Rj_bret1 d_Pl_isPushedAlike_60 rfl ?_
          exact h1 ⟨d, by omega, by omega, c35, by omega⟩
