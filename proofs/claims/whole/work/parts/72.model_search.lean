theorem oM_0_M_isKnown : OI YM 0 y_M_isKnown := ⟨by decide, _, _, _, cM_0, rfl⟩
theorem oM_0_M_mayStand : OI YM 0 y_M_mayStand := ⟨by decide, _, _, _, cM_0, rfl⟩
theorem oM_0_M_comesTo : OI YM 0 y_M_comesTo := ⟨by decide, _, _, _, cM_0, rfl⟩
theorem oM_0_M_isWanted : OI YM 0 y_M_isWanted := ⟨by decide, _, _, _, cM_0, rfl⟩
/-! the reference searches -/
section SPR
variable {SB WB : Int → Bool} {st x k d n : Int} {f : Nat} {σ : BS}
theorem spr_out (h : 60 < n) : spr SB WB st x k d (f + 1) n σ = .inr σ := by
  show (if _ then _ else _) = _
  rw [if_pos h]
theorem spr_skip (h : ¬ 60 < n) (h2 : n = 0 ∨ knB σ (x + n * st) = true ∨ SB (x + n * st) = false) : spr SB WB st x k d (f + 1) n σ = spr SB WB st x k d f (n + 1) σ := by
  show (if _ then _ else _) = _
  rw [if_neg h, if_pos h2]
theorem spr_unk (h : ¬ 60 < n) (h2 : ¬ (n = 0 ∨ knB σ (x + n * st) = true ∨ SB (x + n * st) = false)) (h3 : σ.2.2.2 = 2000) : spr SB WB st x k d (f + 1) n σ = .inl (σ, -3) := by
  show (if _ then _ else _) = _
  rw [if_neg h, if_neg h2, if_pos h3]
theorem spr_win (h : ¬ 60 < n) (h2 : ¬ (n = 0 ∨ knB σ (x + n * st) = true ∨ SB (x + n * st) = false)) (h3 : ¬ σ.2.2.2 = 2000) (h4 : WB (x + n * st) = true) : spr SB WB st x k d (f + 1) n σ = .inl (bsA σ (x + n * st) k (1000 * d + 100 + n), σ.2.2.2) := by
  show (if _ then _ else _) = _
  rw [if_neg h, if_neg h2, if_neg h3, if_pos h4]
theorem spr_go (h : ¬ 60 < n) (h2 : ¬ (n = 0 ∨ knB σ (x + n * st) = true ∨ SB (x + n * st) = false)) (h3 : ¬ σ.2.2.2 = 2000) (h4 : ¬ WB (x + n * st) = true) : spr SB WB st x k d (f + 1) n σ = spr SB WB st x k d f (n + 1) (bsA σ (x + n * st) k (1000 * d + 100 + n)) := by
  show (if _ then _ else _) = _
  rw [if_neg h, if_neg h2, if_neg h3, if_neg h4]
end SPR
def bsM (μ : Mem) : BS := (μ 18, μ 19, μ 20, μ 0 36)
def SIM (μ : Mem) (l : Int) : Prop := HTB 8192 (μ 21) (μ 18) hM (μ 0 36) ∧ (1 ≤ μ 0 36 ∧ μ 0 36 ≤ 2000) ∧ ∀ s, 0 ≤ s → s < μ 0 36 → RB (μ 11) (μ 14) (μ 15) (μ 16) l s (μ 18 s)
abbrev Wse (c : Nat) (i : Int) : Prop := (18 ≤ c ∧ c ≤ 21) ∨ (c = 0 ∧ i = 36)
theorem MX.se {μ ν : Mem} (h : MX μ) (f : Fr Wse μ ν) : MX ν := by
  have r : ∀ c, c ≠ 0 → (c < 18 ∨ 21 < c) → ν c = μ c := fun c h0 h1 => f.row (fun i q => by unfold Wse at q; omega)
  unfold MX
  rw [r 11 (by decide) (by decide), r 12 (by decide) (by decide), r 14 (by decide) (by decide), r 15 (by decide) (by decide), r 16 (by decide) (by decide), r 17 (by decide) (by decide), f 0 32 (by unfold Wse; omega)]
  exact h
abbrev EQM (μ : Mem) (S lo up dn pl : Int → Int) : Prop := μ 11 = S ∧ μ 14 = lo ∧ μ 15 = up ∧ μ 16 = dn ∧ μ 12 = pl
theorem EQM.se {μ ν : Mem} {S lo up dn pl : Int → Int} (h : EQM μ S lo up dn pl) (f : Fr Wse μ ν) : EQM ν S lo up dn pl := by
  have r : ∀ c, c ≠ 0 → (c < 18 ∨ 21 < c) → ν c = μ c := fun c h0 h1 => f.row (fun i q => by unfold Wse at q; omega)
  unfold EQM
  rw [r 11 (by decide) (by decide), r 12 (by decide) (by decide), r 14 (by decide) (by decide), r 15 (by decide) (by decide), r 16 (by decide) (by decide)]
  exact h
set_option maxHeartbeats 4000000 in
theorem s_M_sr_125 : ∀ (f : Nat) {μ : Mem} {Q : PV → Mem → Prop} {S lo up dn pl : Int → Int} {l tc wt k d : Int} {x n : Int}, ((61 - n).toNat < f) → (MX μ) → (EQM μ S lo up dn pl) → (SIM μ l) → (0 ≤ l ∧ l < S 0 ∧ lo l = l) → (0 ≤ wt ∧ wt ≤ 2147483647) → (0 ≤ S 3 ∧ S 3 ≤ 2147483647) → (0 ≤ S 4 ∧ S 4 ≤ 2147483647) → (∀ x, 0 ≤ x → x < S 0 → lo x = l → μ 17 x = 0) → (0 ≤ k ∧ k < μ 0 36) → (0 ≤ d ∧ d < S 0 ∧ lo d = l) → (μ 18 k = x) → (-60 ≤ n ∧ n ≤ 61) → (∀ r μ', spr (stdB S lo up dn pl l wt) (wtdB S lo up dn pl l) (pof (pts S) up dn d l) x k d f n (bsM μ) = .inl r → Fr Wse μ μ' → bsM μ' = r.1 → Q (vI r.2) μ') → (∀ μ', spr (stdB S lo up dn pl l wt) (wtdB S lo up dn pl l) (pof (pts S) up dn d l) x k d f n (bsM μ) = .inr (bsM μ') → Fr Wse μ μ' → SIM μ' l → Rj YM y_M_searches 232 [vA 0, vI l, vI tc, vI wt, vI k, vI d] [] μ' Q) → Rj YM y_M_searches 125 [vA 0, vI l, vI tc, vI wt, vI k, vI d, vL (pof (pts S) up dn d l), vU, vI n] [] μ Q := by
  intro f
  induction f with
  | zero => intro μ Q S lo up dn pl l tc wt k d x n hf h E hI hl hw hw3 hw4 hul hk hd hx hn h1 h2; exact absurd hf (by omega)
  | succ f ih =>
    intro μ Q S lo up dn pl l tc wt k d x n hf h E hI hl hw hw3 hw4 hul hk hd hx hn h1 h2
    obtain ⟨e11, e14, e15, e16, e12⟩ := id E
    obtain ⟨z0, z1, z6, z5⟩ := h.z
    obtain ⟨hS, hH, hP, hB, hFx⟩ := id h
    rw [e11] at z0 z1 z6 z5 hS hP
    rw [e11, e14, e15, e16] at hH
    have hm := hI.2.1
    have hb0 := hI.2.2 k hk.1 hk.2
    rw [e11, e14, e15, e16, hx] at hb0
    have hb18 : ∀ s, 0 ≤ s → s < μ 0 36 → i64 (μ 18 s) := fun s s0 s1 => by
      have q := hI.2.2 s s0 s1
      rw [e11, e14, e15, e16] at q
      have := q.self hH ⟨hl.1, hl.2.1⟩ hl.2.2
      exact ⟨by omega, by omega⟩
    have ps := (pof_spec hS hH.1 (p := d) (d := l) ⟨hd.1, hd.2.1⟩ ⟨hl.1, hl.2.1⟩ (by omega) (by omega)).2.2.2.1
    have xb := hb0.self hH ⟨hl.1, hl.2.1⟩ hl.2.2
    refine Rj_iload (q := 127) d_M_searches_125 rfl rfl ?_
    refine Rj_bipush (q := 129) d_M_searches_127 rfl (by decide +kernel) ?_
    refine Rj_icmp_gt (q := 132) (t := 232) d_M_searches_129 rfl (by decide) ⟨by omega, by omega⟩ (by decide) (fun c129 => ?_) (fun c129 => ?_)
    · refine Rj_pre (ls' := [vA 0, vI l, vI tc, vI wt, vI k, vI d]) (t := [vL (pof (pts S) up dn d l), vU, vI n]) rfl ?_
      exact h2 μ (spr_out (by omega)) (Fr.refl _ _) hI
    · have n60 : ¬ 60 < n := by omega
      have mn := mul_bd (show -60 ≤ n ∧ n ≤ 60 by omega) ps
      have hbk := hb0.add hS hH ⟨hl.1, hl.2.1⟩ hl.2.2 ⟨hd.1, hd.2.1⟩ hd.2.2 (show -60 ≤ n ∧ n ≤ 60 by omega)
      have hb : RB (μ 11) (μ 14) (μ 15) (μ 16) l 2001 (x + n * pof (pts S) up dn d l) := by rw [e11, e14, e15, e16]; exact hbk.mono (by omega)
      have hbs := hbk.self hH ⟨hl.1, hl.2.1⟩ hl.2.2
      have hi : i64 (x + n * pof (pts S) up dn d l) := ⟨by omega, by omega⟩
      refine Rj_aload_n (q := 133) d_M_searches_132 rfl rfl rfl ?_
      refine Rj_gr (q := 136) (zd := 18) gM_M_68_0 rfl rfl d_M_searches_133 rfl ?_
      refine Rj_iload (q := 138) d_M_searches_136 rfl rfl ?_
      refine Rj_la (q := 139) (v := x) aM_18 rfl (by omega) hx d_M_searches_138 rfl ?_
      refine Rj_iload (q := 141) d_M_searches_139 rfl rfl ?_
      refine Rj_i2l (q := 142) d_M_searches_141 rfl ⟨by omega, by omega⟩ ?_
      refine Rj_lload (q := 144) d_M_searches_142 rfl rfl ?_
      refine Rj_lmul (q := 145) d_M_searches_144 rfl ?_
      refine Rj_ladd (q := 146) d_M_searches_145 rfl ?_
      refine Rj_lstore (q := 148) (ls' := [vA 0, vI l, vI tc, vI wt, vI k, vI d, vL (pof (pts S) up dn d l), vU, vI n, vL (x + (n * (pof (pts S) up dn d l))), vU]) d_M_searches_146 rfl (by decide) rfl ?_
      refine Rj_iload (q := 150) d_M_searches_148 rfl rfl ?_
      refine Rj_if_eq (q := 153) (t := 226) d_M_searches_150 rfl (by decide) ⟨by omega, by omega⟩ (fun c150 => ?_) (fun c150 => ?_)
      · refine Rj_iinc (q := 229) (ls' := [vA 0, vI l, vI tc, vI wt, vI k, vI d, vL (pof (pts S) up dn d l), vU, vI (n + 1), vL (x + (n * (pof (pts S) up dn d l))), vU]) d_M_searches_226 rfl rfl (by decide) rfl ?_
        refine Rj_goto (t := 125) d_M_searches_229 (by decide) ?_
        refine Rj_pre (ls' := [vA 0, vI l, vI tc, vI wt, vI k, vI d, vL (pof (pts S) up dn d l), vU, vI (n + 1)]) (t := [vL (x + (n * (pof (pts S) up dn d l))), vU]) rfl ?_
        have esk := spr_skip (SB := (stdB S lo up dn pl l wt)) (WB := (wtdB S lo up dn pl l)) (st := pof (pts S) up dn d l) (x := x) (k := k) (d := d) (f := f) (σ := bsM μ) n60 (by first | exact Or.inl c150 | exact Or.inr (Or.inl (knB_t.mpr q156)) | exact Or.inr (Or.inr (bool_f (fun q => q167 (stdB_t.mp q)))))
        rw [esk] at h1 h2
        exact ih (by omega) h E hI hl hw hw3 hw4 hul hk hd hx (by omega) h1 h2
      · refine Rj_aload_n (q := 154) d_M_searches_153 rfl rfl rfl ?_
        refine Rj_lload (q := 156) d_M_searches_154 rfl rfl ?_
        refine Rj_vo (q := 159) (z := y_M_isKnown) (as := [vL (x + (n * (pof (pts S) up dn d l)))]) (rest := []) (la := [vA 0, vL (x + (n * (pof (pts S) up dn d l))), vU]) oM_0_M_isKnown ml_M_410 mw_M_isKnown mv_M_isKnown rfl d_M_searches_156 rfl rfl rfl rfl rfl ?_
        refine s_M_isKnown hI.1 (by omega) hb18 hi (fun q156 => ?_) (fun q156 => ?_)
        · have z156 := True.intro
          refine Rj_if_ne (q := 162) (t := 226) d_M_searches_159 rfl (by decide) (by decide) (fun _ => ?_) (fun c => absurd c (by decide))
          refine Rj_iinc (q := 229) (ls' := [vA 0, vI l, vI tc, vI wt, vI k, vI d, vL (pof (pts S) up dn d l), vU, vI (n + 1), vL (x + (n * (pof (pts S) up dn d l))), vU]) d_M_searches_226 rfl rfl (by decide) rfl ?_
          refine Rj_goto (t := 125) d_M_searches_229 (by decide) ?_
          refine Rj_pre (ls' := [vA 0, vI l, vI tc, vI wt, vI k, vI d, vL (pof (pts S) up dn d l), vU, vI (n + 1)]) (t := [vL (x + (n * (pof (pts S) up dn d l))), vU]) rfl ?_
          have esk := spr_skip (SB := (stdB S lo up dn pl l wt)) (WB := (wtdB S lo up dn pl l)) (st := pof (pts S) up dn d l) (x := x) (k := k) (d := d) (f := f) (σ := bsM μ) n60 (by first | exact Or.inl c150 | exact Or.inr (Or.inl (knB_t.mpr q156)) | exact Or.inr (Or.inr (bool_f (fun q => q167 (stdB_t.mp q)))))
          rw [esk] at h1 h2
          exact ih (by omega) h E hI hl hw hw3 hw4 hul hk hd hx (by omega) h1 h2
        · have z156 := True.intro
          refine Rj_if_ne (q := 162) (t := 226) d_M_searches_159 rfl (by decide) (by decide) (fun c => absurd c (by decide)) (fun _ => ?_)
          refine Rj_aload_n (q := 163) d_M_searches_162 rfl rfl rfl ?_
          refine Rj_iload_n (q := 164) d_M_searches_163 rfl rfl rfl ?_
          refine Rj_lload (q := 166) d_M_searches_164 rfl rfl ?_
          refine Rj_iload_n (q := 167) d_M_searches_166 rfl rfl rfl ?_
          refine Rj_vo (q := 170) (z := y_M_mayStand) (as := [vI l, vL (x + (n * (pof (pts S) up dn d l))), vI wt]) (rest := []) (la := [vA 0, vI l, vL (x + (n * (pof (pts S) up dn d l))), vU, vI wt]) oM_0_M_mayStand ml_M_413 mw_M_mayStand mv_M_mayStand rfl d_M_searches_167 rfl rfl rfl rfl rfl ?_
          refine s_M_mayStand h hb hi (by omega) hw (fun q167 => ?_) (fun q167 => ?_)
          · rw [e11, e14, e15, e16, e12] at q167
            refine Rj_if_ne (q := 173) (t := 176) d_M_searches_170 rfl (by decide) (by decide) (fun _ => ?_) (fun c => absurd c (by decide))
            refine Rj_aload_n (q := 177) d_M_searches_176 rfl rfl rfl ?_
            refine Rj_gi (q := 180) (ki := 36) (v := μ 0 36) gM_M_403_0 rfl rfl rfl d_M_searches_177 rfl ?_
            refine Rj_sipush (q := 183) d_M_searches_180 rfl (by decide +kernel) ?_
            refine Rj_icmp_ne (q := 186) (t := 189) d_M_searches_183 rfl (by decide) ⟨by omega, by omega⟩ (by decide) (fun c183 => ?_) (fun c183 => ?_)
            · have ncd : ¬ (n = 0 ∨ knB (bsM μ) (x + n * pof (pts S) up dn d l) = true ∨ stdB S lo up dn pl l wt (x + n * pof (pts S) up dn d l) = false) := by
                rintro (q | q | q)
                · omega
                · exact q156 (knB_t.mp q)
                · rw [stdB_t.mpr q167] at q; exact absurd q (by decide)
              refine Rj_aload_n (q := 190) d_M_searches_189 rfl rfl rfl ?_
              refine Rj_lload (q := 192) d_M_searches_190 rfl rfl ?_
              refine Rj_iload (q := 194) d_M_searches_192 rfl rfl ?_
              refine Rj_sipush (q := 197) d_M_searches_194 rfl (by decide +kernel) ?_
              refine Rj_iload (q := 199) d_M_searches_197 rfl rfl ?_
              refine Rj_imul (q := 200) d_M_searches_199 rfl ?_
              refine Rj_bipush (q := 202) d_M_searches_200 rfl (by decide +kernel) ?_
              refine Rj_iadd (q := 203) d_M_searches_202 rfl ?_
              refine Rj_iload (q := 205) d_M_searches_203 rfl rfl ?_
              refine Rj_iadd (q := 206) d_M_searches_205 rfl ?_
              refine Rj_vov (q := 209) (z := y_M_comesTo) (as := [vL (x + (n * (pof (pts S) up dn d l))), vI k, vI (((1000 * d) + 100) + n)]) (rest := []) (la := [vA 0, vL (x + (n * (pof (pts S) up dn d l))), vU, vI k, vI (((1000 * d) + 100) + n)]) oM_0_M_comesTo ml_M_406 mw_M_comesTo mv_M_comesTo rfl d_M_searches_206 rfl rfl rfl rfl rfl ?_
              have nk : ¬ KN (μ 18) (μ 0 36) (x + (n * (pof (pts S) up dn d l))) := q156
              refine s_M_comesTo (m := μ 0 36) hI.1 (by omega) hb18 hi rfl (by omega) nk (fun m f1 g1 g2 g3 g4 g5 => ?_)
              have fs : Fr Wse μ m := Fr.wide f1 (fun c i q => by unfold Wse; omega)
              have bsm : bsM m = bsA (bsM μ) (x + (n * (pof (pts S) up dn d l))) (k) (((1000 * d) + 100) + n) := by
                have r18 : m 18 = fset (μ 18) (μ 0 36) (x + (n * (pof (pts S) up dn d l))) := funext fun i => by
                  by_cases e : i = μ 0 36
                  · rw [e, fset_same]; exact g2
                  · rw [fset_ne _ e]; exact f1 18 i (by omega)
                have r19 : m 19 = fset (μ 19) (μ 0 36) (k) := funext fun i => by
                  by_cases e : i = μ 0 36
                  · rw [e, fset_same]; exact g3
                  · rw [fset_ne _ e]; exact f1 19 i (by omega)
                have r20 : m 20 = fset (μ 20) (μ 0 36) (((1000 * d) + 100) + n) := funext fun i => by
                  by_cases e : i = μ 0 36
                  · rw [e, fset_same]; exact g4
                  · rw [fset_ne _ e]; exact f1 20 i (by omega)
                unfold bsM bsA
                rw [r18, r19, r20, g5]
              have Em := E.se fs
              have hIm : SIM m l := by
                refine ⟨by rw [g5]; exact g1, by omega, fun s s0 s1 => ?_⟩
                rw [Em.1, Em.2.1, Em.2.2.1, Em.2.2.2.1]
                by_cases e : s = μ 0 36
                · rw [e, g2]; exact hbk.mono (by omega)
                · rw [f1 18 s (by omega)]
                  have := hI.2.2 s s0 (by omega)
                  rw [e11, e14, e15, e16] at this
                  exact this
              refine Rj_aload_n (q := 210) d_M_searches_209 rfl rfl rfl ?_
              refine Rj_iload_n (q := 211) d_M_searches_210 rfl rfl rfl ?_
              refine Rj_lload (q := 213) d_M_searches_211 rfl rfl ?_
              refine Rj_vo (q := 216) (z := y_M_isWanted) (as := [vI l, vL (x + (n * (pof (pts S) up dn d l)))]) (rest := []) (la := [vA 0, vI l, vL (x + (n * (pof (pts S) up dn d l))), vU]) oM_0_M_isWanted ml_M_417 mw_M_isWanted mv_M_isWanted rfl d_M_searches_213 rfl rfl rfl rfl rfl ?_
              refine s_M_isWanted (h.se fs) (by rw [Em.1, Em.2.1, Em.2.2.1, Em.2.2.2.1]; exact hbk.mono (by omega)) hi (by omega) (by rw [Em.1]; exact hw3) (by rw [Em.1]; exact hw4) (fun x x0 x1 x2 x3 => ?_) (fun q213 => ?_) (fun q213 => ?_)
              · rw [Em.1] at x1
                rw [Em.2.1] at x2
                rw [fs.row (c := 17) (fun i q => by unfold Wse at q; omega), hul x x0 x1 x2] at x3
                omega
              · rw [Em.1, Em.2.1, Em.2.2.1, Em.2.2.2.1, Em.2.2.2.2] at q213
                refine Rj_if_eq (q := 219) (t := 226) d_M_searches_216 rfl (by decide) (by decide) (fun c => absurd c (by decide)) (fun _ => ?_)
                refine Rj_aload_n (q := 220) d_M_searches_219 rfl rfl rfl ?_
                refine Rj_gi (q := 223) (ki := 36) (v := μ 0 36 + 1) gM_M_403_0 rfl rfl g5 d_M_searches_220 rfl ?_
                refine Rj_iconst (q := 224) d_M_searches_223 rfl ?_
                refine Rj_isub (q := 225) d_M_searches_224 rfl ?_
                refine Rj_iret d_M_searches_225 rfl ?_
                exact fin_I (h1 (bsA (bsM μ) (x + n * pof (pts S) up dn d l) k (1000 * d + 100 + n), μ 0 36) m (spr_win n60 ncd c183 (wtdB_t.mpr q213)) fs bsm) (by omega)
              · rw [Em.1, Em.2.1, Em.2.2.1, Em.2.2.2.1, Em.2.2.2.2] at q213
                refine Rj_if_eq (q := 219) (t := 226) d_M_searches_216 rfl (by decide) (by decide) (fun _ => ?_) (fun c => absurd c (by decide))
                refine Rj_iinc (q := 229) (ls' := [vA 0, vI l, vI tc, vI wt, vI k, vI d, vL (pof (pts S) up dn d l), vU, vI (n + 1), vL (x + (n * (pof (pts S) up dn d l))), vU]) d_M_searches_226 rfl rfl (by decide) rfl ?_
                refine Rj_goto (t := 125) d_M_searches_229 (by decide) ?_
                refine Rj_pre (ls' := [vA 0, vI l, vI tc, vI wt, vI k, vI d, vL (pof (pts S) up dn d l), vU, vI (n + 1)]) (t := [vL (x + (n * (pof (pts S) up dn d l))), vU]) rfl ?_
                have ego := spr_go (SB := (stdB S lo up dn pl l wt)) (WB := (wtdB S lo up dn pl l)) (st := pof (pts S) up dn d l) (x := x) (k := k) (d := d) (f := f) (σ := bsM μ) n60 ncd c183 (fun q => q213 (wtdB_t.mp q))
                rw [ego, ← bsm] at h1 h2
                exact ih (μ := m) (by omega) (h.se fs) Em hIm hl hw hw3 hw4 (fun x x0 x1 x2 => by rw [fs.row (c := 17) (fun i q => by unfold Wse at q; omega)]; exact hul x x0 x1 x2) (by omega) hd (by rw [f1 18 k (by omega)]; exact hx) (by omega) (fun r m2 a b c => h1 r m2 a (fs.trans b) c) (fun m2 a b c => h2 m2 a (fs.trans b) c)
            · have ncd : ¬ (n = 0 ∨ knB (bsM μ) (x + n * pof (pts S) up dn d l) = true ∨ stdB S lo up dn pl l wt (x + n * pof (pts S) up dn d l) = false) := by
                rintro (q | q | q)
                · omega
                · exact q156 (knB_t.mp q)
                · rw [stdB_t.mpr q167] at q; exact absurd q (by decide)
              refine Rj_bipush (q := 188) d_M_searches_186 rfl (by decide +kernel) ?_
              refine Rj_iret d_M_searches_188 rfl ?_
              exact h1 (bsM μ, -3) μ (spr_unk n60 ncd c183) (Fr.refl _ _) rfl
          · rw [e11, e14, e15, e16, e12] at q167
            refine Rj_if_ne (q := 173) (t := 176) d_M_searches_170 rfl (by decide) (by decide) (fun c => absurd c (by decide)) (fun _ => ?_)
            refine Rj_goto (t := 226) d_M_searches_173 (by decide) ?_
            refine Rj_iinc (q := 229) (ls' := [vA 0, vI l, vI tc, vI wt, vI k, vI d, vL (pof (pts S) up dn d l), vU, vI (n + 1), vL (x + (n * (pof (pts S) up dn d l))), vU]) d_M_searches_226 rfl rfl (by decide) rfl ?_
            refine Rj_goto (t := 125) d_M_searches_229 (by decide) ?_
            refine Rj_pre (ls' := [vA 0, vI l, vI tc, vI wt, vI k, vI d, vL (pof (pts S) up dn d l), vU, vI (n + 1)]) (t := [vL (x + (n * (pof (pts S) up dn d l))), vU]) rfl ?_
            have esk := spr_skip (SB := (stdB S lo up dn pl l wt)) (WB := (wtdB S lo up dn pl l)) (st := pof (pts S) up dn d l) (x := x) (k := k) (d := d) (f := f) (σ := bsM μ) n60 (by first | exact Or.inl c150 | exact Or.inr (Or.inl (knB_t.mpr q156)) | exact Or.inr (Or.inr (bool_f (fun q => q167 (stdB_t.mp q)))))
            rw [esk] at h1 h2
            exact ih (by omega) h E hI hl hw hw3 hw4 hul hk hd hx (by omega) h1 h2
