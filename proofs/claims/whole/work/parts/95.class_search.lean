theorem oD_74_Pl_spread : OI YD 74 y_Pl_spread := ⟨by decide, _, _, _, cD_74, rfl⟩
/-! the class searches -/
def alD (pu d : Int) : Bool := decide (zbit pu d = 1)
theorem alD_t {pu d : Int} : alD pu d = true ↔ zbit pu d = 1 := by unfold alD; exact decide_eq_true_iff
set_option maxHeartbeats 4000000 in
theorem s_search_45 : ∀ (f : Nat) {μ : Mem} {Q : PV → Mem → Prop} {S lo up dn lk pl : Int → Int} {l tc wt wo ws wa pu a b c k d : Int}, ((S 0 - d).toNat < f) → (GX μ S lo up dn lk pl) → (CHO μ S lo lk l tc wt wo ws wa pu a b) → (SID μ S lo up dn lk l c) → (0 ≤ l ∧ l < S 0 ∧ lo l = l) → (c * bel S lo up dn lk l = pts S) → (0 ≤ k ∧ k < μ 74 6) → (0 ≤ d ∧ d ≤ S 0) → (∀ r μ', drs (fun t => stdB S lo up dn pl l wt (c * t)) (fun t => wtdB S lo up dn pl l (c * t)) (alD pu) (fun d => stp S lo up dn lk d l) (S 0) k f d (bsD μ) = .inl r → Fr Wsd μ μ' → bsD μ' = r.1 → (r.2 = -3 ∨ (0 < r.2 ∧ r.2 < 2000)) → Q (vI r.2) μ') → (∀ μ', drs (fun t => stdB S lo up dn pl l wt (c * t)) (fun t => wtdB S lo up dn pl l (c * t)) (alD pu) (fun d => stp S lo up dn lk d l) (S 0) k f d (bsD μ) = .inr (bsD μ') → Fr Wsd μ μ' → SID μ' S lo up dn lk l c → Rj YD y_Pl_search 94 [vA 74, vI k] [] μ' Q) → Rj YD y_Pl_search 45 [vA 74, vI k, vI d] [] μ Q := by
  intro f
  induction f with
  | zero => intro μ Q S lo up dn lk pl l tc wt wo ws wa pu a b c k d hf h hC hI hl hc hk hd h1 h2; exact absurd hf (by omega)
  | succ f ih =>
    intro μ Q S lo up dn lk pl l tc wt wo ws wa pu a b c k d hf h hC hI hl hc hk hd h1 h2
    obtain ⟨z0, z1, z2, z3, z4, z5, z6, z7⟩ := h.z
    have zb := zbit_01 pu d
    have pr := hC.2.1.2.2.1
    have hm := hI.2.1
    refine Rj_iload_n (q := 46) d_Pl_search_45 rfl rfl rfl ?_
    refine Rj_aload_n (q := 47) d_Pl_search_46 rfl rfl rfl ?_
    refine Rj_gr (q := 50) (zd := 3) gD_Pl_25_74 rfl rfl d_Pl_search_47 rfl ?_
    refine Rj_gi (q := 53) (ki := 0) (v := S 0) gD_Pl_37_3 rfl rfl z2 d_Pl_search_50 rfl ?_
    refine Rj_icmp_ge (q := 56) (t := 94) d_Pl_search_53 rfl (by decide) ⟨by omega, by omega⟩ ⟨by omega, by omega⟩ (fun c53 => ?_) (fun c53 => ?_)
    · refine Rj_pre (ls' := [vA 74, vI k]) (t := [vI d]) rfl ?_
      exact h2 μ (drs_out (by omega)) (Fr.refl _ _) hI
    · refine Rj_aload_n (q := 57) d_Pl_search_56 rfl rfl rfl ?_
      refine Rj_gi (q := 60) (ki := 12) (v := pu) gD_Pl_81_74 rfl rfl hC.1.2.2.2.1 d_Pl_search_57 rfl ?_
      refine Rj_iload_n (q := 61) d_Pl_search_60 rfl rfl rfl ?_
      refine Rj_cs (q := 64) (z := y_D_bitOf) (as := [vI pu, vI d]) (rest := []) (la := [vI pu, vI d]) ml_Pl_84 mw_D_bitOf ms_D_bitOf d_Pl_search_61 rfl rfl rfl rfl rfl ?_
      refine s_D_bitOf (by omega) (by omega) ?_
      refine Rj_iconst (q := 65) d_Pl_search_64 rfl ?_
      refine Rj_icmp_ne (q := 68) (t := 77) d_Pl_search_65 rfl (by decide) ⟨by omega, by omega⟩ (by decide) (fun c65 => ?_) (fun c65 => ?_)
      · refine Rj_bipush (q := 79) d_Pl_search_77 rfl (by decide +kernel) ?_
        refine Rj_istore_n (q := 80) (ls' := [vA 74, vI k, vI d, vI (-4)]) d_Pl_search_79 rfl rfl (by decide) rfl ?_
        refine Rj_iload_n (q := 81) d_Pl_search_80 rfl rfl rfl ?_
        refine Rj_bipush (q := 83) d_Pl_search_81 rfl (by decide +kernel) ?_
        refine Rj_icmp_eq (q := 86) (t := 88) d_Pl_search_83 rfl (by decide) (by decide) (by decide) (fun _ => ?_) (fun c => absurd c (by decide))
        refine Rj_iinc (q := 91) (ls' := [vA 74, vI k, vI (d + 1), vI (-4)]) d_Pl_search_88 rfl rfl (by decide) rfl ?_
        refine Rj_goto (t := 45) d_Pl_search_91 (by decide) ?_
        refine Rj_pre (ls' := [vA 74, vI k, vI (d + 1)]) (t := [vI (-4)]) rfl ?_
        have esk := drs_skip (SB := (fun t => stdB S lo up dn pl l wt (c * t))) (WB := (fun t => wtdB S lo up dn pl l (c * t))) (al := alD pu) (st := (fun d => stp S lo up dn lk d l)) (D := S 0) (k := k) (d := d) (f := f) (σ := bsD μ) (by omega) (fun q => by have := alD_t.mp q; omega)
        rw [esk] at h1 h2
        exact ih (by omega) h hC hI hl hc hk (by omega) h1 h2
      · refine Rj_aload_n (q := 69) d_Pl_search_68 rfl rfl rfl ?_
        refine Rj_iload_n (q := 70) d_Pl_search_69 rfl rfl rfl ?_
        refine Rj_iload_n (q := 71) d_Pl_search_70 rfl rfl rfl ?_
        refine Rj_vo (q := 74) (z := y_Pl_spread) (as := [vI k, vI d]) (rest := []) (la := [vA 74, vI k, vI d]) oD_74_Pl_spread ml_Pl_154 mw_Pl_spread mv_Pl_spread rfl d_Pl_search_71 rfl rfl rfl rfl rfl ?_
        have dS : d < S 0 := by omega
        have hal : alD pu d = true := alD_t.mpr (by omega)
        have pud := hC.2.2.2.1 d hd.1 (by omega)
        have kd := (h.d ⟨hd.1, dS⟩).2.2.2.2.2.2.2.2.2.2.2.1
        refine s_spread h hC hI hl hc hk ⟨hd.1, dS, pud.1.2⟩ (by omega) (fun r m e1 f1 b1 v1 => ?_) (fun m e1 f1 i1 => ?_)
        · have en := h1 r m (drs_inl (f := f) (D := S 0) (al := alD pu) (st := (fun d => stp S lo up dn lk d l)) dS hal e1) f1 b1 v1
          refine Rj_goto (t := 79) d_Pl_search_74 (by decide) ?_
          refine Rj_istore_n (q := 80) (ls' := [vA 74, vI k, vI d, vI (r.2)]) d_Pl_search_79 rfl rfl (by decide) rfl ?_
          refine Rj_iload_n (q := 81) d_Pl_search_80 rfl rfl rfl ?_
          refine Rj_bipush (q := 83) d_Pl_search_81 rfl (by decide +kernel) ?_
          refine Rj_icmp_eq (q := 86) (t := 88) d_Pl_search_83 rfl (by decide) ⟨by omega, by omega⟩ (by decide) (fun c83 => ?_) (fun c83 => ?_)
          · exact absurd c83 (by omega)
          · refine Rj_iload_n (q := 87) d_Pl_search_86 rfl rfl rfl ?_
            refine Rj_iret d_Pl_search_87 rfl ?_
            exact en
        · have en := drs_inr (f := f) (k := k) (σ := bsD μ) (D := S 0) (al := alD pu) (st := (fun d => stp S lo up dn lk d l)) dS hal e1
          rw [en] at h1 h2
          have em : μ 74 6 ≤ m 74 6 := (spr_ok 122 (-60) (bsD μ) (bsD m) (by show 0 ≤ μ 74 6; omega) (by decide) e1).1.1
          refine Rj_goto (t := 79) d_Pl_search_74 (by decide) ?_
          refine Rj_istore_n (q := 80) (ls' := [vA 74, vI k, vI d, vI (-4)]) d_Pl_search_79 rfl rfl (by decide) rfl ?_
          refine Rj_iload_n (q := 81) d_Pl_search_80 rfl rfl rfl ?_
          refine Rj_bipush (q := 83) d_Pl_search_81 rfl (by decide +kernel) ?_
          refine Rj_icmp_eq (q := 86) (t := 88) d_Pl_search_83 rfl (by decide) (by decide) (by decide) (fun _ => ?_) (fun c => absurd c (by decide))
          refine Rj_iinc (q := 91) (ls' := [vA 74, vI k, vI (d + 1), vI (-4)]) d_Pl_search_88 rfl rfl (by decide) rfl ?_
          refine Rj_goto (t := 45) d_Pl_search_91 (by decide) ?_
          refine Rj_pre (ls' := [vA 74, vI k, vI (d + 1)]) (t := [vI (-4)]) rfl ?_
          exact ih (μ := m) (by omega) (h.sd f1) (hC.sd f1) i1 hl hc (by omega) (by omega) (fun r m2 a2 b2 c2 => h1 r m2 a2 (f1.trans b2) c2) (fun m2 a2 b2 c2 => h2 m2 a2 (f1.trans b2) c2)
set_option maxHeartbeats 4000000 in
theorem s_search_94 {μ : Mem} {Q : PV → Mem → Prop} {k : Int} (hQ : Rj YD y_Pl_search 28 [vA 74, vI (k + 1)] [] μ Q) : Rj YD y_Pl_search 94 [vA 74, vI k] [] μ Q := by
  refine Rj_iinc (q := 97) (ls' := [vA 74, vI (k + 1)]) d_Pl_search_94 rfl rfl (by decide) rfl ?_
  refine Rj_goto (t := 28) d_Pl_search_97 (by decide) ?_
  exact hQ
set_option maxHeartbeats 4000000 in
theorem s_search_28 : ∀ (f : Nat) {μ : Mem} {Q : PV → Mem → Prop} {S lo up dn lk pl : Int → Int} {l tc wt wo ws wa pu a b c k : Int}, ((2001 - k).toNat < f) → (GX μ S lo up dn lk pl) → (CHO μ S lo lk l tc wt wo ws wa pu a b) → (SID μ S lo up dn lk l c) → (0 ≤ l ∧ l < S 0 ∧ lo l = l) → (c * bel S lo up dn lk l = pts S) → (0 ≤ k ∧ k ≤ μ 74 6) → (∀ μ', Fr Wsd μ μ' → bsD μ' = (sts (fun t => stdB S lo up dn pl l wt (c * t)) (fun t => wtdB S lo up dn pl l (c * t)) (alD pu) (fun d => stp S lo up dn lk d l) (S 0) f k (bsD μ)).1 → Q (vI (sts (fun t => stdB S lo up dn pl l wt (c * t)) (fun t => wtdB S lo up dn pl l (c * t)) (alD pu) (fun d => stp S lo up dn lk d l) (S 0) f k (bsD μ)).2) μ') → Rj YD y_Pl_search 28 [vA 74, vI k] [] μ Q := by
  intro f
  induction f with
  | zero => intro μ Q S lo up dn lk pl l tc wt wo ws wa pu a b c k hf h hC hI hl hc hk h1; exact absurd hf (by omega)
  | succ f ih =>
    intro μ Q S lo up dn lk pl l tc wt wo ws wa pu a b c k hf h hC hI hl hc hk h1
    obtain ⟨z0, z1, z2, z3, z4, z5, z6, z7⟩ := h.z
    have hm := hI.2.1
    refine Rj_iload_n (q := 29) d_Pl_search_28 rfl rfl rfl ?_
    refine Rj_aload_n (q := 30) d_Pl_search_29 rfl rfl rfl ?_
    refine Rj_gi (q := 33) (ki := 6) (v := μ 74 6) gD_Pl_144_74 rfl rfl rfl d_Pl_search_30 rfl ?_
    refine Rj_icmp_ge (q := 36) (t := 100) d_Pl_search_33 rfl (by decide) ⟨by omega, by omega⟩ ⟨by omega, by omega⟩ (fun c33 => ?_) (fun c33 => ?_)
    · refine Rj_bipush (q := 102) d_Pl_search_100 rfl (by decide +kernel) ?_
      refine Rj_iret d_Pl_search_102 rfl ?_
      first
        | (exfalso; omega)
        | (have eo := sts_out (SB := (fun t => stdB S lo up dn pl l wt (c * t))) (WB := (fun t => wtdB S lo up dn pl l (c * t))) (al := alD pu) (st := (fun d => stp S lo up dn lk d l)) (D := S 0) (k := k) (f := f) (σ := bsD μ) (show ¬ k < μ 74 6 by omega)
           rw [eo] at h1
           exact h1 μ (Fr.refl _ _) rfl)
    · refine Rj_iload_n (q := 37) d_Pl_search_36 rfl rfl rfl ?_
      refine Rj_sipush (q := 40) d_Pl_search_37 rfl (by decide +kernel) ?_
      refine Rj_icmp_ge (q := 43) (t := 100) d_Pl_search_40 rfl (by decide) ⟨by omega, by omega⟩ (by decide) (fun c40 => ?_) (fun c40 => ?_)
      · refine Rj_bipush (q := 102) d_Pl_search_100 rfl (by decide +kernel) ?_
        refine Rj_iret d_Pl_search_102 rfl ?_
        first
          | (exfalso; omega)
          | (have eo := sts_out (SB := (fun t => stdB S lo up dn pl l wt (c * t))) (WB := (fun t => wtdB S lo up dn pl l (c * t))) (al := alD pu) (st := (fun d => stp S lo up dn lk d l)) (D := S 0) (k := k) (f := f) (σ := bsD μ) (show ¬ k < μ 74 6 by omega)
             rw [eo] at h1
             exact h1 μ (Fr.refl _ _) rfl)
      · refine Rj_iconst (q := 44) d_Pl_search_43 rfl ?_
        refine Rj_istore_n (q := 45) (ls' := [vA 74, vI k, vI 0]) d_Pl_search_44 rfl rfl (by decide) rfl ?_
        have kS : k < (bsD μ).2.2.2 := by show k < μ 74 6; omega
        refine s_search_45 13 (by omega) h hC hI hl hc (by omega) (by omega) (fun r m a b c _ => ?_) (fun m a b c => ?_)
        · have en := sts_inl (f := f) kS a
          rw [en] at h1
          exact h1 m b c
        · have e : μ 74 6 ≤ m 74 6 := (drs_E 13 0 (bsD μ) (bsD m) (by show 0 ≤ μ 74 6; omega) a).1
          have en := sts_inr (f := f) kS a
          rw [en] at h1
          exact s_search_94 (ih (μ := m) (by omega) (h.sd b) (hC.sd b) c hl hc (by omega) (fun m2 b2 c2 => h1 m2 (b.trans b2) c2))
