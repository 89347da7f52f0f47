/-! the reference searches: doors, states, start -/
def alM (S lo : Int → Int) (l tc d : Int) : Bool := decide (lo d = l ∧ zbit tc d = 1 ∧ ¬ zbit (S 2) d = 1)
theorem alM_t {S lo : Int → Int} {l tc d : Int} : alM S lo l tc d = true ↔ lo d = l ∧ zbit tc d = 1 ∧ ¬ zbit (S 2) d = 1 := by unfold alM; exact decide_eq_true_iff
section DRS
variable {SB WB al : Int → Bool} {st : Int → Int} {D k d : Int} {f : Nat} {σ τ : BS} {r : BS × Int}
theorem drs_out (h : ¬ d < D) : drs SB WB al st D k (f + 1) d σ = .inr σ := by
  show (if _ then _ else _) = _
  rw [if_neg h]
theorem drs_skip (h : d < D) (h2 : ¬ al d = true) : drs SB WB al st D k (f + 1) d σ = drs SB WB al st D k f (d + 1) σ := by
  show (if _ then _ else _) = _
  rw [if_pos h, if_neg h2]
theorem drs_inl (h : d < D) (h2 : al d = true) (h3 : spr SB WB (st d) (σ.1 k) k d 122 (-60) σ = .inl r) : drs SB WB al st D k (f + 1) d σ = .inl r := by
  show (if _ then _ else _) = _
  rw [if_pos h, if_pos h2, h3]
theorem drs_inr (h : d < D) (h2 : al d = true) (h3 : spr SB WB (st d) (σ.1 k) k d 122 (-60) σ = .inr τ) : drs SB WB al st D k (f + 1) d σ = drs SB WB al st D k f (d + 1) τ := by
  show (if _ then _ else _) = _
  rw [if_pos h, if_pos h2, h3]
theorem sts_out (h : ¬ k < σ.2.2.2) : sts SB WB al st D (f + 1) k σ = (σ, -2) := by
  show (if _ then _ else _) = _
  rw [if_neg h]
theorem sts_inl (h : k < σ.2.2.2) (h3 : drs SB WB al st D k 13 0 σ = .inl r) : sts SB WB al st D (f + 1) k σ = r := by
  show (if _ then _ else _) = _
  rw [if_pos h, h3]
theorem sts_inr (h : k < σ.2.2.2) (h3 : drs SB WB al st D k 13 0 σ = .inr τ) : sts SB WB al st D (f + 1) k σ = sts SB WB al st D f (k + 1) τ := by
  show (if _ then _ else _) = _
  rw [if_pos h, h3]
end DRS
set_option maxHeartbeats 4000000 in
theorem s_M_sr_232 {μ : Mem} {Q : PV → Mem → Prop} {l tc wt k d : Int} (hQ : Rj YM y_M_searches 64 [vA 0, vI l, vI tc, vI wt, vI k, vI (d + 1)] [] μ Q) : Rj YM y_M_searches 232 [vA 0, vI l, vI tc, vI wt, vI k, vI d] [] μ Q := by
  refine Rj_iinc (q := 235) (ls' := [vA 0, vI l, vI tc, vI wt, vI k, vI (d + 1)]) d_M_searches_232 rfl rfl (by decide) rfl ?_
  refine Rj_goto (t := 64) d_M_searches_235 (by decide) ?_
  exact hQ
set_option maxHeartbeats 4000000 in
theorem s_M_sr_238 {μ : Mem} {Q : PV → Mem → Prop} {l tc wt k : Int} (hQ : Rj YM y_M_searches 52 [vA 0, vI l, vI tc, vI wt, vI (k + 1)] [] μ Q) : Rj YM y_M_searches 238 [vA 0, vI l, vI tc, vI wt, vI k] [] μ Q := by
  refine Rj_iinc (q := 241) (ls' := [vA 0, vI l, vI tc, vI wt, vI (k + 1)]) d_M_searches_238 rfl rfl (by decide) rfl ?_
  refine Rj_goto (t := 52) d_M_searches_241 (by decide) ?_
  exact hQ
set_option maxHeartbeats 4000000 in
theorem s_M_sr_64 : ∀ (f : Nat) {μ : Mem} {Q : PV → Mem → Prop} {S lo up dn pl : Int → Int} {l tc wt k d : Int}, ((S 0 - d).toNat < f) → (MX μ) → (EQM μ S lo up dn pl) → (SIM μ l) → (0 ≤ l ∧ l < S 0 ∧ lo l = l) → (0 ≤ wt ∧ wt ≤ 2147483647) → (0 ≤ S 3 ∧ S 3 ≤ 2147483647) → (0 ≤ S 4 ∧ S 4 ≤ 2147483647) → (∀ x, 0 ≤ x → x < S 0 → lo x = l → μ 17 x = 0) → (0 ≤ tc ∧ tc ≤ 2147483647) → (0 ≤ k ∧ k < μ 0 36) → (0 ≤ d ∧ d ≤ S 0) → (∀ r μ', drs (stdB S lo up dn pl l wt) (wtdB S lo up dn pl l) (alM S lo l tc) (fun d => pof (pts S) up dn d l) (S 0) k f d (bsM μ) = .inl r → Fr Wse μ μ' → bsM μ' = r.1 → Q (vI r.2) μ') → (∀ μ', drs (stdB S lo up dn pl l wt) (wtdB S lo up dn pl l) (alM S lo l tc) (fun d => pof (pts S) up dn d l) (S 0) k f d (bsM μ) = .inr (bsM μ') → Fr Wse μ μ' → SIM μ' l → Rj YM y_M_searches 238 [vA 0, vI l, vI tc, vI wt, vI k] [] μ' Q) → Rj YM y_M_searches 64 [vA 0, vI l, vI tc, vI wt, vI k, vI d] [] μ Q := by
  intro f
  induction f with
  | zero => intro μ Q S lo up dn pl l tc wt k d hf h E hI hl hw hw3 hw4 hul htc hk hd h1 h2; exact absurd hf (by omega)
  | succ f ih =>
    intro μ Q S lo up dn pl l tc wt k d hf h E hI hl hw hw3 hw4 hul htc hk hd h1 h2
    obtain ⟨e11, e14, e15, e16, e12⟩ := id E
    obtain ⟨z0, z1, z6, z5⟩ := h.z
    rw [e11] at z0 z1 z6 z5
    have hm := hI.2.1
    refine Rj_iload (q := 66) d_M_searches_64 rfl rfl ?_
    refine Rj_aload_n (q := 67) d_M_searches_66 rfl rfl rfl ?_
    refine Rj_gr (q := 70) (zd := 11) gM_M_42_0 rfl rfl d_M_searches_67 rfl ?_
    refine Rj_iconst (q := 71) d_M_searches_70 rfl ?_
    refine Rj_ia (q := 72) (v := S 0) aM_11 rfl (by decide) (by rw [e11]) d_M_searches_71 rfl ?_
    refine Rj_icmp_ge (q := 75) (t := 238) d_M_searches_72 rfl (by decide) ⟨by omega, by omega⟩ ⟨by omega, by omega⟩ (fun c72 => ?_) (fun c72 => ?_)
    · refine Rj_pre (ls' := [vA 0, vI l, vI tc, vI wt, vI k]) (t := [vI d]) rfl ?_
      exact h2 μ (drs_out (by omega)) (Fr.refl _ _) hI
    · have ld := (Hu_d h.1 h.2.1 (d := d) (by rw [e11]; omega)).2.2.1
      rw [e14] at ld
      refine Rj_aload_n (q := 76) d_M_searches_75 rfl rfl rfl ?_
      refine Rj_gr (q := 79) (zd := 14) gM_M_51_0 rfl rfl d_M_searches_76 rfl ?_
      refine Rj_iload (q := 81) d_M_searches_79 rfl rfl ?_
      refine Rj_ia (q := 82) (v := lo d) aM_14 rfl (by omega) (by rw [e14]) d_M_searches_81 rfl ?_
      refine Rj_iload_n (q := 83) d_M_searches_82 rfl rfl rfl ?_
      refine Rj_icmp_ne (q := 86) (t := 232) d_M_searches_83 rfl (by decide) ⟨by omega, by omega⟩ ⟨by omega, by omega⟩ (fun c83 => ?_) (fun c83 => ?_)
      · refine Rj_iinc (q := 235) (ls' := [vA 0, vI l, vI tc, vI wt, vI k, vI (d + 1)]) d_M_searches_232 rfl rfl (by decide) rfl ?_
        refine Rj_goto (t := 64) d_M_searches_235 (by decide) ?_
        refine Rj_pre (ls' := [vA 0, vI l, vI tc, vI wt, vI k, vI (d + 1)]) (t := []) rfl ?_
        have esk := drs_skip (SB := (stdB S lo up dn pl l wt)) (WB := (wtdB S lo up dn pl l)) (al := (alM S lo l tc)) (st := (fun d => pof (pts S) up dn d l)) (D := S 0) (k := k) (d := d) (f := f) (σ := bsM μ) (by omega) (fun q => by have := alM_t.mp q; omega)
        rw [esk] at h1 h2
        exact ih (by omega) h E hI hl hw hw3 hw4 hul htc hk (by omega) h1 h2
      · refine Rj_iload_n (q := 87) d_M_searches_86 rfl rfl rfl ?_
        refine Rj_iload (q := 89) d_M_searches_87 rfl rfl ?_
        refine Rj_cs (q := 92) (z := y_M_isOf) (as := [vI tc, vI d]) (rest := []) (la := [vI tc, vI d]) ml_M_317 mw_M_isOf ms_M_isOf d_M_searches_89 rfl rfl rfl rfl rfl ?_
        refine s_M_isOf ⟨by omega, by omega⟩ (by omega) ?_
        refine Rj_b_eq (q := 95) (t := 232) d_M_searches_92 rfl (by decide) (fun c92 => ?_) (fun c92 => ?_)
        · have c92 := of_decide_eq_false c92
          refine Rj_iinc (q := 235) (ls' := [vA 0, vI l, vI tc, vI wt, vI k, vI (d + 1)]) d_M_searches_232 rfl rfl (by decide) rfl ?_
          refine Rj_goto (t := 64) d_M_searches_235 (by decide) ?_
          refine Rj_pre (ls' := [vA 0, vI l, vI tc, vI wt, vI k, vI (d + 1)]) (t := []) rfl ?_
          have esk := drs_skip (SB := (stdB S lo up dn pl l wt)) (WB := (wtdB S lo up dn pl l)) (al := (alM S lo l tc)) (st := (fun d => pof (pts S) up dn d l)) (D := S 0) (k := k) (d := d) (f := f) (σ := bsM μ) (by omega) (fun q => by have := alM_t.mp q; omega)
          rw [esk] at h1 h2
          exact ih (by omega) h E hI hl hw hw3 hw4 hul htc hk (by omega) h1 h2
        · have c92 := of_decide_eq_true c92
          refine Rj_aload_n (q := 96) d_M_searches_95 rfl rfl rfl ?_
          refine Rj_gr (q := 99) (zd := 11) gM_M_42_0 rfl rfl d_M_searches_96 rfl ?_
          refine Rj_iconst (q := 100) d_M_searches_99 rfl ?_
          refine Rj_ia (q := 101) (v := S 2) aM_11 rfl (by decide) (by rw [e11]) d_M_searches_100 rfl ?_
          refine Rj_iload (q := 103) d_M_searches_101 rfl rfl ?_
          refine Rj_cs (q := 106) (z := y_M_isOf) (as := [vI (S 2), vI d]) (rest := []) (la := [vI (S 2), vI d]) ml_M_317 mw_M_isOf ms_M_isOf d_M_searches_103 rfl rfl rfl rfl rfl ?_
          refine s_M_isOf ⟨by omega, by omega⟩ (by omega) ?_
          refine Rj_b_eq (q := 109) (t := 112) d_M_searches_106 rfl (by decide) (fun c106 => ?_) (fun c106 => ?_)
          · have c106 := of_decide_eq_false c106
            refine Rj_aload_n (q := 113) d_M_searches_112 rfl rfl rfl ?_
            refine Rj_iload (q := 115) d_M_searches_113 rfl rfl ?_
            refine Rj_iload_n (q := 116) d_M_searches_115 rfl rfl rfl ?_
            refine Rj_vo (q := 119) (z := y_M_partsOf) (as := [vI d, vI l]) (rest := []) (la := [vA 0, vI d, vI l]) oM_0_M_partsOf ml_M_366 mw_M_partsOf mv_M_partsOf rfl d_M_searches_116 rfl rfl rfl rfl rfl ?_
            refine s_M_partsOf h.1 h.2.1 h.2.2.1 (by rw [e11]; omega) (by rw [e11]; omega) (by rw [e14, hl.2.2]; omega) ?_
            rw [e11, e15, e16]
            refine Rj_lstore (q := 121) (ls' := [vA 0, vI l, vI tc, vI wt, vI k, vI d, vL (pof (pts S) up dn d l), vU]) d_M_searches_119 rfl (by decide) rfl ?_
            refine Rj_bipush (q := 123) d_M_searches_121 rfl (by decide +kernel) ?_
            refine Rj_istore (q := 125) (ls' := [vA 0, vI l, vI tc, vI wt, vI k, vI d, vL (pof (pts S) up dn d l), vU, vI (-60)]) d_M_searches_123 rfl (by decide) rfl ?_
            have dS : d < S 0 := by omega
            have hal : alM S lo l tc d = true := alM_t.mpr ⟨by omega, by omega, by omega⟩
            refine s_M_sr_125 122 (by decide) h E hI hl hw hw3 hw4 hul hk ⟨by omega, by omega, by omega⟩ rfl (by omega) (fun r m a b c => h1 r m (drs_inl dS hal a) b c) (fun m a b c => ?_)
            have e : μ 0 36 ≤ m 0 36 := (spr_ok 122 (-60) (bsM μ) (bsM m) (by show 0 ≤ μ 0 36; omega) (by decide) a).1.1
            have en := drs_inr (f := f) (D := S 0) (al := (alM S lo l tc)) (st := (fun d => pof (pts S) up dn d l)) dS hal a
            rw [en] at h1 h2
            exact s_M_sr_232 (ih (μ := m) (by omega) (h.se b) (E.se b) c hl hw hw3 hw4 (fun x x0 x1 x2 => by rw [b.row (c := 17) (fun i q => by unfold Wse at q; omega)]; exact hul x x0 x1 x2) htc (by omega) (by omega) (fun r m2 a2 b2 c2 => h1 r m2 a2 (b.trans b2) c2) (fun m2 a2 b2 c2 => h2 m2 a2 (b.trans b2) c2))
          · have c106 := of_decide_eq_true c106
            refine Rj_goto (t := 232) d_M_searches_109 (by decide) ?_
            refine Rj_iinc (q := 235) (ls' := [vA 0, vI l, vI tc, vI wt, vI k, vI (d + 1)]) d_M_searches_232 rfl rfl (by decide) rfl ?_
            refine Rj_goto (t := 64) d_M_searches_235 (by decide) ?_
            refine Rj_pre (ls' := [vA 0, vI l, vI tc, vI wt, vI k, vI (d + 1)]) (t := []) rfl ?_
            have esk := drs_skip (SB := (stdB S lo up dn pl l wt)) (WB := (wtdB S lo up dn pl l)) (al := (alM S lo l tc)) (st := (fun d => pof (pts S) up dn d l)) (D := S 0) (k := k) (d := d) (f := f) (σ := bsM μ) (by omega) (fun q => by have := alM_t.mp q; omega)
            rw [esk] at h1 h2
            exact ih (by omega) h E hI hl hw hw3 hw4 hul htc hk (by omega) h1 h2
set_option maxHeartbeats 4000000 in
theorem s_M_sr_52 : ∀ (f : Nat) {μ : Mem} {Q : PV → Mem → Prop} {S lo up dn pl : Int → Int} {l tc wt k : Int}, ((2001 - k).toNat < f) → (MX μ) → (EQM μ S lo up dn pl) → (SIM μ l) → (0 ≤ l ∧ l < S 0 ∧ lo l = l) → (0 ≤ wt ∧ wt ≤ 2147483647) → (0 ≤ S 3 ∧ S 3 ≤ 2147483647) → (0 ≤ S 4 ∧ S 4 ≤ 2147483647) → (∀ x, 0 ≤ x → x < S 0 → lo x = l → μ 17 x = 0) → (0 ≤ tc ∧ tc ≤ 2147483647) → (0 ≤ k ∧ k ≤ μ 0 36) → (∀ μ', Fr Wse μ μ' → bsM μ' = (sts (stdB S lo up dn pl l wt) (wtdB S lo up dn pl l) (alM S lo l tc) (fun d => pof (pts S) up dn d l) (S 0) f k (bsM μ)).1 → Q (vI (sts (stdB S lo up dn pl l wt) (wtdB S lo up dn pl l) (alM S lo l tc) (fun d => pof (pts S) up dn d l) (S 0) f k (bsM μ)).2) μ') → Rj YM y_M_searches 52 [vA 0, vI l, vI tc, vI wt, vI k] [] μ Q := by
  intro f
  induction f with
  | zero => intro μ Q S lo up dn pl l tc wt k hf h E hI hl hw hw3 hw4 hul htc hk h1; exact absurd hf (by omega)
  | succ f ih =>
    intro μ Q S lo up dn pl l tc wt k hf h E hI hl hw hw3 hw4 hul htc hk h1
    obtain ⟨e11, e14, e15, e16, e12⟩ := id E
    obtain ⟨z0, z1, z6, z5⟩ := h.z
    rw [e11] at z0 z1 z6 z5
    have hm := hI.2.1
    refine Rj_iload (q := 54) d_M_searches_52 rfl rfl ?_
    refine Rj_aload_n (q := 55) d_M_searches_54 rfl rfl rfl ?_
    refine Rj_gi (q := 58) (ki := 36) (v := μ 0 36) gM_M_403_0 rfl rfl rfl d_M_searches_55 rfl ?_
    refine Rj_icmp_ge (q := 61) (t := 244) d_M_searches_58 rfl (by decide) ⟨by omega, by omega⟩ ⟨by omega, by omega⟩ (fun c58 => ?_) (fun c58 => ?_)
    · refine Rj_bipush (q := 246) d_M_searches_244 rfl (by decide +kernel) ?_
      refine Rj_iret d_M_searches_246 rfl ?_
      have eo := sts_out (SB := (stdB S lo up dn pl l wt)) (WB := (wtdB S lo up dn pl l)) (al := (alM S lo l tc)) (st := (fun d => pof (pts S) up dn d l)) (D := S 0) (k := k) (f := f) (σ := bsM μ) (show ¬ k < μ 0 36 by omega)
      rw [eo] at h1
      exact h1 μ (Fr.refl _ _) rfl
    · refine Rj_iconst (q := 62) d_M_searches_61 rfl ?_
      refine Rj_istore (q := 64) (ls' := [vA 0, vI l, vI tc, vI wt, vI k, vI 0]) d_M_searches_62 rfl (by decide) rfl ?_
      have kS : k < (bsM μ).2.2.2 := by show k < μ 0 36; omega
      refine s_M_sr_64 13 (by omega) h E hI hl hw hw3 hw4 hul htc (by omega) (by omega) (fun r m a b c => ?_) (fun m a b c => ?_)
      · have en := sts_inl (f := f) kS a
        rw [en] at h1
        exact h1 m b c
      · have e : μ 0 36 ≤ m 0 36 := (drs_E 13 0 (bsM μ) (bsM m) (by show 0 ≤ μ 0 36; omega) a).1
        have en := sts_inr (f := f) kS a
        rw [en] at h1
        exact s_M_sr_238 (ih (μ := m) (by omega) (h.se b) (E.se b) c hl hw hw3 hw4 (fun x x0 x1 x2 => by rw [b.row (c := 17) (fun i q => by unfold Wse at q; omega)]; exact hul x x0 x1 x2) htc (by omega) (fun m2 b2 c2 => h1 m2 (b.trans b2) c2))
