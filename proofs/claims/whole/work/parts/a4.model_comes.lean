theorem gM_M_468_0 : GI YM "DoorsOnCogsModel" 468 0 40 none := ⟨by decide, _, _, _, fl_M_468, cM_0, by decide, rfl⟩
theorem pM_M_468_0 : PI YM "DoorsOnCogsModel" 468 0 40 none .int := ⟨by decide, _, _, _, fl_M_468, fp_10_40, cM_0, by decide, rfl⟩
theorem gM_M_83_0 : GI YM "DoorsOnCogsModel" 83 0 43 (some (some 23)) := ⟨by decide, _, _, _, fl_M_83, cM_0, by decide, rfl⟩
theorem aM_23 : AI YM 23 (.long) 12 := ⟨by decide, cM_23, by decide⟩
theorem oM_0_M_pushedBy : OI YM 0 y_M_pushedBy := ⟨by decide, _, _, _, cM_0, rfl⟩
theorem gM_M_471_0 : GI YM "DoorsOnCogsModel" 471 0 41 none := ⟨by decide, _, _, _, fl_M_471, cM_0, by decide, rfl⟩
theorem pM_M_471_0 : PI YM "DoorsOnCogsModel" 471 0 41 none .int := ⟨by decide, _, _, _, fl_M_471, fp_10_41, cM_0, by decide, rfl⟩
theorem gM_M_474_0 : GI YM "DoorsOnCogsModel" 474 0 42 none := ⟨by decide, _, _, _, fl_M_474, cM_0, by decide, rfl⟩
theorem pM_M_474_0 : PI YM "DoorsOnCogsModel" 474 0 42 none .int := ⟨by decide, _, _, _, fl_M_474, fp_10_42, cM_0, by decide, rfl⟩
/-! the reference: someone comes to a door -/
def MDS (ν : Mem) (σ : DS) : Prop := ν 12 = σ.1 ∧ ν 0 40 = σ.2.1 ∧ ν 0 41 = σ.2.2.1 ∧ ν 0 42 = σ.2.2.2.1 ∧ ∀ y, 0 ≤ y → y < 12 → ν 23 y = σ.2.2.2.2 y
def RML (ν : Mem) (r : Int) (D : List CLS) : Prop := (0 ≤ r ∧ r < 6) ∧ TB (ν 4) (48 * r) 0 D ∧ ν 5 r = (D.length : Int) ∧ (D.length : Int) ≤ 12 ∧ LST (ν 2) (400 * r) ((flM D).map enc) ∧ ((flM D).length : Int) ≤ 400 ∧ ∀ x ∈ D, WFc x
abbrev Wcm (c : Nat) (i : Int) : Prop := (c = 0 ∧ (i = 23 ∨ i = 40 ∨ i = 41 ∨ i = 42)) ∨ c = 9 ∨ c = 10 ∨ c = 12 ∨ c = 23
theorem RML.cm {μ ν : Mem} {r : Int} {D : List CLS} (h : RML μ r D) (f : Fr Wcm μ ν) : RML ν r D := by
  unfold RML
  rw [f.row (c := 4) (fun i q => by unfold Wcm at q; omega), f.row (c := 5) (fun i q => by unfold Wcm at q; omega), f.row (c := 2) (fun i q => by unfold Wcm at q; omega)]
  exact h
theorem MX.mv {μ ν : Mem} (h : MX μ) (e11 : ν 11 = μ 11) (e14 : ν 14 = μ 14) (e15 : ν 15 = μ 15) (e16 : ν 16 = μ 16) (e17 : ν 17 = μ 17) (e32 : ν 0 32 = μ 0 32) (hb : PB (ν 12)) : MX ν := by
  unfold MX
  rw [e11, e14, e15, e16, e17, e32]
  exact ⟨h.1, h.2.1, h.2.2.1, hb, h.2.2.2.2⟩
set_option maxHeartbeats 4000000 in
theorem s_M_comes_165 {μ : Mem} {Q : PV → Mem → Prop} (h : MX μ) {t d ah : Int} {σ : DS} (hd : 0 ≤ d ∧ d < μ 11 0) (hM : MDS μ σ) (h1 : 0 ≤ σ.2.1 ∧ σ.2.1 ≤ 5000) (hQ : ∀ μ', Fr (fun c i => c = 0 ∧ i = 40) μ μ' → MDS μ' (pas (μ 11) d σ) → Q vU μ') : Rj YM y_M_comes 165 [vA 0, vI t, vI d, vI ah] [] μ Q := by
  refine Rj_aload_n (q := 166) d_M_comes_165 rfl rfl rfl ?_
  refine Rj_dup (q := 167) d_M_comes_166 rfl (by intro h; cases h) ?_
  refine Rj_gi (q := 170) (ki := 40) (v := σ.2.1) gM_M_468_0 rfl rfl hM.2.1 d_M_comes_167 rfl ?_
  refine Rj_aload_n (q := 171) d_M_comes_170 rfl rfl rfl ?_
  refine Rj_iload_n (q := 172) d_M_comes_171 rfl rfl rfl ?_
  refine Rj_vo (q := 175) (z := y_M_isOpen) (as := [vI d]) (rest := [vI (σ.2.1), vA 0]) (la := [vA 0, vI d]) oM_0_M_isOpen ml_M_350 mw_M_isOpen mv_M_isOpen rfl d_M_comes_172 rfl rfl rfl rfl rfl ?_
  refine s_M_isOpen h ⟨by omega, by omega⟩ ?_
  refine Rj_b_eq (q := 178) (t := 182) d_M_comes_175 rfl (by decide) (fun c175 => ?_) (fun c175 => ?_)
  · refine Rj_iconst (q := 183) d_M_comes_182 rfl ?_
    refine Rj_iadd (q := 184) d_M_comes_183 rfl ?_
    refine Rj_pi (q := 187) (ki := 40) pM_M_468_0 rfl rfl d_M_comes_184 rfl ?_
    refine Rj_vret d_M_comes_187 rfl ?_
    refine hQ _ (Fr.put (Fr.refl _ _) ⟨rfl, rfl⟩) ⟨hM.1, ?_, hM.2.2.1, hM.2.2.2.1, hM.2.2.2.2⟩
    show σ.2.1 + 0 = σ.2.1 + (if opn (μ 11) (pts (μ 11)) d (σ.1 d) = true then 1 else 0)
    rw [← hM.1, if_neg (by rw [c175]; decide)]
  · refine Rj_iconst (q := 179) d_M_comes_178 rfl ?_
    refine Rj_goto (t := 183) d_M_comes_179 (by decide) ?_
    refine Rj_iadd (q := 184) d_M_comes_183 rfl ?_
    refine Rj_pi (q := 187) (ki := 40) pM_M_468_0 rfl rfl d_M_comes_184 rfl ?_
    refine Rj_vret d_M_comes_187 rfl ?_
    refine hQ _ (Fr.put (Fr.refl _ _) ⟨rfl, rfl⟩) ⟨hM.1, ?_, hM.2.2.1, hM.2.2.2.1, hM.2.2.2.2⟩
    show σ.2.1 + 1 = σ.2.1 + (if opn (μ 11) (pts (μ 11)) d (σ.1 d) = true then 1 else 0)
    rw [← hM.1, if_pos c175]
set_option maxHeartbeats 4000000 in
theorem s_M_wear_96 : ∀ (f : Nat) {μ : Mem} {Q : PV → Mem → Prop} {t x ah n d : Int}, ((μ 11 0 - d).toNat < f) → (StrOK (μ 11)) → (Hung (μ 11) 0 (μ 14) (μ 15) (μ 16) (μ 17)) → (μ 0 32 = pts (μ 11)) → (0 ≤ x ∧ x < μ 11 0) → (-60 ≤ n ∧ n ≤ 60) → (0 ≤ d ∧ d ≤ μ 11 0) → (∀ μ', Fr (fun c _ => c = 23) μ μ' → (∀ y, 0 ≤ y → y < 12 → μ' 23 y = if d ≤ y ∧ y < μ 11 0 ∧ μ 14 y = μ 14 x then μ 23 y + (((n * pof (pts (μ 11)) (μ 15) (μ 16) x y).natAbs : Nat) : Int) else μ 23 y) → Rj YM y_M_comes 165 [vA 0, vI t, vI x, vI ah] [] μ' Q) → Rj YM y_M_comes 96 [vA 0, vI t, vI x, vI ah, vI n, vI 1, vI d] [] μ Q := by
  intro f
  induction f with
  | zero => intro μ Q t x ah n d hf hS hH hP hx hn hd hk; exact absurd hf (by omega)
  | succ f ih =>
    intro μ Q t x ah n d hf hS hH hP hx hn hd hk
    have z0 := hS.1
    obtain ⟨trx, srx, lrx, krx, urx, unx, drx⟩ := Hu_d hS hH hx
    refine Rj_iload (q := 98) d_M_comes_96 rfl rfl ?_
    refine Rj_aload_n (q := 99) d_M_comes_98 rfl rfl rfl ?_
    refine Rj_gr (q := 102) (zd := 11) gM_M_42_0 rfl rfl d_M_comes_99 rfl ?_
    refine Rj_iconst (q := 103) d_M_comes_102 rfl ?_
    refine Rj_ia (q := 104) (v := μ 11 0) aM_11 rfl (by decide) rfl d_M_comes_103 rfl ?_
    refine Rj_icmp_ge (q := 107) (t := 165) d_M_comes_104 rfl (by decide) ⟨by omega, by omega⟩ ⟨by omega, by omega⟩ (fun c104 => ?_) (fun c104 => ?_)
    · refine Rj_pre (ls' := [vA 0, vI t, vI x, vI ah]) (t := [vI n, vI 1, vI d]) rfl ?_
      exact hk μ (Fr.refl _ _) (fun y y0 y1 => by rw [if_neg (by omega)])
    · have hd2 : 0 ≤ d ∧ d < μ 11 0 := ⟨hd.1, c104⟩
      obtain ⟨tr, sr, lr, kr, ur, un, dr⟩ := Hu_d hS hH hd2
      refine Rj_aload_n (q := 108) d_M_comes_107 rfl rfl rfl ?_
      refine Rj_iload_n (q := 109) d_M_comes_108 rfl rfl rfl ?_
      refine Rj_iload (q := 111) d_M_comes_109 rfl rfl ?_
      refine Rj_vo (q := 114) (z := y_M_areJoined) (as := [vI x, vI d]) (rest := []) (la := [vA 0, vI x, vI d]) oM_0_M_areJoined ml_M_363 mw_M_areJoined mv_M_areJoined rfl d_M_comes_111 rfl rfl rfl rfl rfl ?_
      refine s_M_areJoined2 (by omega) (by omega) (show -1 ≤ μ 14 x ∧ μ 14 x < 12 by omega) (show -1 ≤ μ 14 d ∧ μ 14 d < 12 by omega) ?_
      refine Rj_b_eq (q := 117) (t := 131) d_M_comes_114 rfl (by decide) (fun c114 => ?_) (fun c114 => ?_)
      · simp only [decide_eq_false_iff_not] at c114
        refine Rj_lconst (q := 132) (z := 0) d_M_comes_131 rfl rfl ?_
        refine Rj_lstore (q := 134) (ls' := [vA 0, vI t, vI x, vI ah, vI n, vI 1, vI d, vL 0, vU]) d_M_comes_132 rfl (by decide) rfl ?_
        refine Rj_aload_n (q := 135) d_M_comes_134 rfl rfl rfl ?_
        refine Rj_gr (q := 138) (zd := 23) gM_M_83_0 rfl rfl d_M_comes_135 rfl ?_
        refine Rj_iload (q := 140) d_M_comes_138 rfl rfl ?_
        refine Rj_dup2 (q := 141) d_M_comes_140 rfl (by intro h; cases h) (by intro h; cases h) ?_
        refine Rj_la (q := 142) (v := μ 23 d) aM_23 rfl (by omega) rfl d_M_comes_141 rfl ?_
        refine Rj_lload (q := 144) d_M_comes_142 rfl rfl ?_
        refine Rj_lconst (q := 145) (z := 0) d_M_comes_144 rfl rfl ?_
        refine Rj_lc_ge (q := 146) (q2 := 149) (t := 155) d_M_comes_145 rfl d_M_comes_146 rfl (by decide) (by decide) (by decide) (fun c145 => ?_) (fun c145 => ?_)
        · refine Rj_lload (q := 157) d_M_comes_155 rfl rfl ?_
          refine Rj_ladd (q := 158) d_M_comes_157 rfl ?_
          refine Rj_lst (q := 159) aM_23 rfl (by omega) d_M_comes_158 rfl ?_
          refine Rj_iinc (q := 162) (ls' := [vA 0, vI t, vI x, vI ah, vI n, vI 1, vI (d + 1), vL 0, vU]) d_M_comes_159 rfl rfl (by decide) rfl ?_
          refine Rj_goto (t := 96) d_M_comes_162 (by decide) ?_
          refine Rj_pre (ls' := [vA 0, vI t, vI x, vI ah, vI n, vI 1, vI (d + 1)]) (t := [vL 0, vU]) rfl ?_
          refine ih (μ := (mset μ 23 d ((μ 23 d) + 0))) (show (μ 11 0 - (d + 1)).toNat < f by omega) hS hH hP hx hn (show 0 ≤ d + 1 ∧ d + 1 ≤ μ 11 0 by omega) (fun m f q => hk m (Fr.trans (Fr.put (Fr.refl _ _) rfl) f) (fun y y0 y1 => ?_))
          rw [q y y0 y1]
          by_cases e : y = d
          · subst e
            rw [if_neg (by omega), mset_same, if_neg (fun q => c114 q.2.2.symm)]
            omega
          · show (if d + 1 ≤ y ∧ y < μ 11 0 ∧ μ 14 y = μ 14 x then mset μ 23 d _ 23 y + (((n * pof (pts (μ 11)) (μ 15) (μ 16) x y).natAbs : Nat) : Int) else mset μ 23 d _ 23 y) = _
            rw [mset_ne _ _ _ _ _ e]
            by_cases e2 : d + 1 ≤ y ∧ y < μ 11 0 ∧ μ 14 y = μ 14 x
            · rw [if_pos e2, if_pos ⟨by omega, e2.2⟩]
            · rw [if_neg e2, if_neg (fun q => e2 ⟨by omega, q.2⟩)]
        · exact absurd c145 (by decide)
      · simp only [decide_eq_true_eq] at c114
        have ps := (pof_spec hS hH.1 hx hd2 lr.1 c114).2.2.2.1
        have m1 := mul_bd hn ps
        refine Rj_iload (q := 119) d_M_comes_117 rfl rfl ?_
        refine Rj_i2l (q := 120) d_M_comes_119 rfl ⟨by omega, by omega⟩ ?_
        refine Rj_aload_n (q := 121) d_M_comes_120 rfl rfl rfl ?_
        refine Rj_iload_n (q := 122) d_M_comes_121 rfl rfl rfl ?_
        refine Rj_iload (q := 124) d_M_comes_122 rfl rfl ?_
        refine Rj_vo (q := 127) (z := y_M_partsOf) (as := [vI x, vI d]) (rest := [vL n]) (la := [vA 0, vI x, vI d]) oM_0_M_partsOf ml_M_366 mw_M_partsOf mv_M_partsOf rfl d_M_comes_124 rfl rfl rfl rfl rfl ?_
        refine s_M_partsOf hS hH hP ⟨by omega, by omega⟩ ⟨by omega, by omega⟩ (by omega) ?_
        refine Rj_lmul (q := 128) d_M_comes_127 rfl ?_
        refine Rj_goto (t := 132) d_M_comes_128 (by decide) ?_
        refine Rj_lstore (q := 134) (ls' := [vA 0, vI t, vI x, vI ah, vI n, vI 1, vI d, vL (n * (pof (pts (μ 11)) (μ 15) (μ 16) x d)), vU]) d_M_comes_132 rfl (by decide) rfl ?_
        refine Rj_aload_n (q := 135) d_M_comes_134 rfl rfl rfl ?_
        refine Rj_gr (q := 138) (zd := 23) gM_M_83_0 rfl rfl d_M_comes_135 rfl ?_
        refine Rj_iload (q := 140) d_M_comes_138 rfl rfl ?_
        refine Rj_dup2 (q := 141) d_M_comes_140 rfl (by intro h; cases h) (by intro h; cases h) ?_
        refine Rj_la (q := 142) (v := μ 23 d) aM_23 rfl (by omega) rfl d_M_comes_141 rfl ?_
        refine Rj_lload (q := 144) d_M_comes_142 rfl rfl ?_
        refine Rj_lconst (q := 145) (z := 0) d_M_comes_144 rfl rfl ?_
        refine Rj_lc_ge (q := 146) (q2 := 149) (t := 155) d_M_comes_145 rfl d_M_comes_146 rfl (by decide) ⟨by omega, by omega⟩ (by decide) (fun c145 => ?_) (fun c145 => ?_)
        · refine Rj_lload (q := 157) d_M_comes_155 rfl rfl ?_
          refine Rj_ladd (q := 158) d_M_comes_157 rfl ?_
          refine Rj_lst (q := 159) aM_23 rfl (by omega) d_M_comes_158 rfl ?_
          refine Rj_iinc (q := 162) (ls' := [vA 0, vI t, vI x, vI ah, vI n, vI 1, vI (d + 1), vL (n * (pof (pts (μ 11)) (μ 15) (μ 16) x d)), vU]) d_M_comes_159 rfl rfl (by decide) rfl ?_
          refine Rj_goto (t := 96) d_M_comes_162 (by decide) ?_
          refine Rj_pre (ls' := [vA 0, vI t, vI x, vI ah, vI n, vI 1, vI (d + 1)]) (t := [vL (n * (pof (pts (μ 11)) (μ 15) (μ 16) x d)), vU]) rfl ?_
          refine ih (μ := (mset μ 23 d ((μ 23 d) + (n * (pof (pts (μ 11)) (μ 15) (μ 16) x d))))) (show (μ 11 0 - (d + 1)).toNat < f by omega) hS hH hP hx hn (show 0 ≤ d + 1 ∧ d + 1 ≤ μ 11 0 by omega) (fun m f q => hk m (Fr.trans (Fr.put (Fr.refl _ _) rfl) f) (fun y y0 y1 => ?_))
          rw [q y y0 y1]
          by_cases e : y = d
          · subst e
            rw [if_neg (by omega), mset_same, if_pos ⟨by omega, hd2.2, c114.symm⟩]
            omega
          · show (if d + 1 ≤ y ∧ y < μ 11 0 ∧ μ 14 y = μ 14 x then mset μ 23 d _ 23 y + (((n * pof (pts (μ 11)) (μ 15) (μ 16) x y).natAbs : Nat) : Int) else mset μ 23 d _ 23 y) = _
            rw [mset_ne _ _ _ _ _ e]
            by_cases e2 : d + 1 ≤ y ∧ y < μ 11 0 ∧ μ 14 y = μ 14 x
            · rw [if_pos e2, if_pos ⟨by omega, e2.2⟩]
            · rw [if_neg e2, if_neg (fun q => e2 ⟨by omega, q.2⟩)]
        · refine Rj_lload (q := 151) d_M_comes_149 rfl rfl ?_
          refine Rj_lneg (q := 152) d_M_comes_151 rfl ?_
          refine Rj_goto (t := 157) d_M_comes_152 (by decide) ?_
          refine Rj_ladd (q := 158) d_M_comes_157 rfl ?_
          refine Rj_lst (q := 159) aM_23 rfl (by omega) d_M_comes_158 rfl ?_
          refine Rj_iinc (q := 162) (ls' := [vA 0, vI t, vI x, vI ah, vI n, vI 1, vI (d + 1), vL (n * (pof (pts (μ 11)) (μ 15) (μ 16) x d)), vU]) d_M_comes_159 rfl rfl (by decide) rfl ?_
          refine Rj_goto (t := 96) d_M_comes_162 (by decide) ?_
          refine Rj_pre (ls' := [vA 0, vI t, vI x, vI ah, vI n, vI 1, vI (d + 1)]) (t := [vL (n * (pof (pts (μ 11)) (μ 15) (μ 16) x d)), vU]) rfl ?_
          refine ih (μ := (mset μ 23 d ((μ 23 d) + (-(n * (pof (pts (μ 11)) (μ 15) (μ 16) x d)))))) (show (μ 11 0 - (d + 1)).toNat < f by omega) hS hH hP hx hn (show 0 ≤ d + 1 ∧ d + 1 ≤ μ 11 0 by omega) (fun m f q => hk m (Fr.trans (Fr.put (Fr.refl _ _) rfl) f) (fun y y0 y1 => ?_))
          rw [q y y0 y1]
          by_cases e : y = d
          · subst e
            rw [if_neg (by omega), mset_same, if_pos ⟨by omega, hd2.2, c114.symm⟩]
            omega
          · show (if d + 1 ≤ y ∧ y < μ 11 0 ∧ μ 14 y = μ 14 x then mset μ 23 d _ 23 y + (((n * pof (pts (μ 11)) (μ 15) (μ 16) x y).natAbs : Nat) : Int) else mset μ 23 d _ 23 y) = _
            rw [mset_ne _ _ _ _ _ e]
            by_cases e2 : d + 1 ≤ y ∧ y < μ 11 0 ∧ μ 14 y = μ 14 x
            · rw [if_pos e2, if_pos ⟨by omega, e2.2⟩]
            · rw [if_neg e2, if_neg (fun q => e2 ⟨by omega, q.2⟩)]
set_option maxHeartbeats 4000000 in
theorem s_M_comes {μ : Mem} {Q : PV → Mem → Prop} (h : MX μ) {t d ah K kp k : Int} {σ : DS} {D : List CLS} (hd : 0 ≤ d ∧ d < μ 11 0) (ha : 0 ≤ ah ∧ ah ≤ 100) (hR : RML μ t D) (hM : MDS μ σ) (hI : DSI (μ 11) K kp k σ) (hk : k ≤ 4000) (hK : K + kp * 2799360000000 + 2799360000000 ≤ 100000000000000000) (hQ : ∀ μ', Fr Wcm μ μ' → MDS μ' (cmg (μ 11) (μ 14) (μ 15) (μ 16) (μ 17) D d ah σ) → Q vU μ') : Rj YM y_M_comes 0 [vA 0, vI t, vI d, vI ah] [] μ Q := by
  obtain ⟨z0, z1, z6, z5⟩ := h.z
  obtain ⟨pl, ps, pu, rf, ws⟩ := σ
  obtain ⟨e1, m40, m41, m42, m23⟩ := hM
  have e1 : μ 12 = pl := e1
  subst e1
  have m40 : μ 0 40 = ps := m40
  have m41 : μ 0 41 = pu := m41
  have m42 : μ 0 42 = rf := m42
  have m23 : ∀ y, 0 ≤ y → y < 12 → μ 23 y = ws y := m23
  have i1 : 0 ≤ ps ∧ ps ≤ k := hI.1
  have i2 : 0 ≤ pu ∧ pu ≤ k := hI.2.1
  have i3 : 0 ≤ rf ∧ rf ≤ k := hI.2.2.1
  refine Rj_aload_n (q := 1) d_M_comes_0 rfl rfl rfl ?_
  refine Rj_iload_n (q := 2) d_M_comes_1 rfl rfl rfl ?_
  refine Rj_vo (q := 5) (z := y_M_isOpen) (as := [vI d]) (rest := []) (la := [vA 0, vI d]) oM_0_M_isOpen ml_M_350 mw_M_isOpen mv_M_isOpen rfl d_M_comes_2 rfl rfl rfl rfl rfl ?_
  refine s_M_isOpen h ⟨by omega, by omega⟩ ?_
  refine Rj_b_eq (q := 8) (t := 12) d_M_comes_5 rfl (by decide) (fun c5 => ?_) (fun c5 => ?_)
  · refine Rj_aload_n (q := 13) d_M_comes_12 rfl rfl rfl ?_
    refine Rj_iload_n (q := 14) d_M_comes_13 rfl rfl rfl ?_
    refine Rj_iload_n (q := 15) d_M_comes_14 rfl rfl rfl ?_
    refine Rj_iload_n (q := 16) d_M_comes_15 rfl rfl rfl ?_
    refine Rj_vo (q := 19) (z := y_M_pushedBy) (as := [vI t, vI d, vI ah]) (rest := []) (la := [vA 0, vI t, vI d, vI ah]) oM_0_M_pushedBy ml_M_477 mw_M_pushedBy mv_M_pushedBy rfl d_M_comes_16 rfl rfl rfl rfl rfl ?_
    refine s_M_pushedBy h hR.1 hd ha hR.2.1 hR.2.2.1 hR.2.2.2.1 hR.2.2.2.2.1 hR.2.2.2.2.2.1 hR.2.2.2.2.2.2 (fun m16 f16 => ?_)
    have n60 := tfD_60 (wrd (μ 11) (μ 12) d ah) D
    generalize etn : tfD (wrd (μ 11) (μ 12) d ah) D = n at n60 ⊢
    have e11 : m16 11 = μ 11 := f16.row (fun i q => by unfold Wpb at q; omega)
    have e12 : m16 12 = μ 12 := f16.row (fun i q => by unfold Wpb at q; omega)
    have e14 : m16 14 = μ 14 := f16.row (fun i q => by unfold Wpb at q; omega)
    have e15 : m16 15 = μ 15 := f16.row (fun i q => by unfold Wpb at q; omega)
    have e16 : m16 16 = μ 16 := f16.row (fun i q => by unfold Wpb at q; omega)
    have e17 : m16 17 = μ 17 := f16.row (fun i q => by unfold Wpb at q; omega)
    have e23 : m16 23 = μ 23 := f16.row (fun i q => by unfold Wpb at q; omega)
    have a32 : m16 0 32 = μ 0 32 := f16 0 32 (by unfold Wpb; omega)
    have a40 : m16 0 40 = μ 0 40 := f16 0 40 (by unfold Wpb; omega)
    have a41 : m16 0 41 = μ 0 41 := f16 0 41 (by unfold Wpb; omega)
    have a42 : m16 0 42 = μ 0 42 := f16 0 42 (by unfold Wpb; omega)
    have h16 : MX m16 := h.mv e11 e14 e15 e16 e17 a32 (by rw [e12]; exact h.2.2.2.1)
    have hd16 : 0 ≤ d ∧ d < m16 11 0 := by rw [e11]; exact hd
    have ec : cmg (μ 11) (μ 14) (μ 15) (μ 16) (μ 17) D d ah (μ 12, ps, pu, rf, ws) = pas (μ 11) d (psd (μ 11) (μ 14) (μ 15) (μ 16) (μ 17) n d (μ 12, ps, pu, rf, ws)) := by rw [cmg_s (σ := (μ 12, ps, pu, rf, ws)) c5, ← etn]
    have fm16 : Fr Wcm μ m16 := Fr.wide f16 (fun c i q => by unfold Wpb at q; unfold Wcm; omega)
    refine Rj_istore (q := 21) (ls' := [vA 0, vI t, vI d, vI ah, vI n]) d_M_comes_19 rfl (by decide) rfl ?_
    refine Rj_iload (q := 23) d_M_comes_21 rfl rfl ?_
    refine Rj_if_eq (q := 26) (t := 165) d_M_comes_23 rfl (by decide) ⟨by omega, by omega⟩ (fun c23 => ?_) (fun c23 => ?_)
    · refine Rj_pre (ls' := [vA 0, vI t, vI d, vI ah]) (t := [vI n]) rfl ?_
      refine s_M_comes_165 (σ := (μ 12, ps, pu, rf, ws)) h16 hd16 ⟨e12, a40.trans m40, a41.trans m41, a42.trans m42, by rw [e23]; exact m23⟩ (by show 0 ≤ ps ∧ ps ≤ 5000; omega) (fun m f q => hQ m (fm16.trans (Fr.wide f (fun c i q => by first | omega | (unfold Wcm; omega)))) ?_)
      rw [e11] at q
      rw [ec, c23, psd_0]; exact q
    · refine Rj_aload_n (q := 27) d_M_comes_26 rfl rfl rfl ?_
      refine Rj_iload_n (q := 28) d_M_comes_27 rfl rfl rfl ?_
      refine Rj_iload (q := 30) d_M_comes_28 rfl rfl ?_
      refine Rj_vo (q := 33) (z := y_M_pushes) (as := [vI d, vI n]) (rest := []) (la := [vA 0, vI d, vI n]) oM_0_M_pushes ml_M_379 mw_M_pushes mv_M_pushes rfl d_M_comes_30 rfl rfl rfl rfl rfl ?_
      refine s_M_pushes h16 hd16 n60 ?_
      rw [e11, e14, e15, e16, e17, e12]
      have prg := pushR_rng (S := μ 11) (lo := μ 14) (up := μ 15) (dn := μ 16) (lk := μ 17) (pl := μ 12) (P := pts (μ 11)) (p := d) (n := n) z0.2
      refine Rj_if_le (q := 36) (t := 40) d_M_comes_33 rfl (by decide) ⟨by omega, by omega⟩ (fun c33 => ?_) (fun c33 => ?_)
      · refine Rj_iconst (q := 41) d_M_comes_40 rfl ?_
        refine Rj_istore (q := 43) (ls' := [vA 0, vI t, vI d, vI ah, vI n, vI 0]) d_M_comes_41 rfl (by decide) rfl ?_
        refine Rj_aload_n (q := 44) d_M_comes_43 rfl rfl rfl ?_
        refine Rj_dup (q := 45) d_M_comes_44 rfl (by intro h; cases h) ?_
        refine Rj_gi (q := 48) (ki := 41) (v := pu) gM_M_471_0 rfl rfl (a41.trans m41) d_M_comes_45 rfl ?_
        refine Rj_iload (q := 50) d_M_comes_48 rfl rfl ?_
        refine Rj_if_eq (q := 53) (t := 57) d_M_comes_50 rfl (by decide) (by decide) (fun _ => ?_) (fun c => absurd c (by decide))
        refine Rj_iconst (q := 58) d_M_comes_57 rfl ?_
        refine Rj_iadd (q := 59) d_M_comes_58 rfl ?_
        refine Rj_pi (q := 62) (ki := 41) pM_M_471_0 rfl rfl d_M_comes_59 rfl ?_
        refine Rj_aload_n (q := 63) d_M_comes_62 rfl rfl rfl ?_
        refine Rj_dup (q := 64) d_M_comes_63 rfl (by intro h; cases h) ?_
        refine Rj_gi (q := 67) (ki := 42) (v := rf) gM_M_474_0 rfl rfl (a42.trans m42) d_M_comes_64 rfl ?_
        refine Rj_iload (q := 69) d_M_comes_67 rfl rfl ?_
        refine Rj_if_eq (q := 72) (t := 76) d_M_comes_69 rfl (by decide) (by decide) (fun _ => ?_) (fun c => absurd c (by decide))
        refine Rj_iconst (q := 77) d_M_comes_76 rfl ?_
        refine Rj_iadd (q := 78) d_M_comes_77 rfl ?_
        refine Rj_pi (q := 81) (ki := 42) pM_M_474_0 rfl rfl d_M_comes_78 rfl ?_
        refine Rj_iload (q := 83) d_M_comes_81 rfl rfl ?_
        refine Rj_if_eq (q := 86) (t := 165) d_M_comes_83 rfl (by decide) (by decide) (fun _ => ?_) (fun c => absurd c (by decide))
        refine Rj_pre (ls' := [vA 0, vI t, vI d, vI ah]) (t := [vI n, vI 0]) rfl ?_
        refine s_M_comes_165 (μ := (mset (mset m16 0 41 (pu + 0)) 0 42 (rf + 1))) (σ := (μ 12, ps, pu, rf + 1, ws)) h16 hd16 ⟨e12, a40.trans m40, Int.add_zero pu, rfl, by show ∀ y, 0 ≤ y → y < 12 → m16 23 y = ws y; rw [e23]; exact m23⟩ (by show 0 ≤ ps ∧ ps ≤ 5000; omega) (fun m f q => hQ m (fm16.trans (Fr.trans (Fr.put (Fr.put (Fr.refl _ _) (by first | omega | (unfold Wcm; omega))) (by first | omega | (unfold Wcm; omega))) (Fr.wide f (fun c i q => by first | omega | (unfold Wcm; omega))))) ?_)
        have q : MDS m (pas (m16 11) d (μ 12, ps, pu, rf + 1, ws)) := q
        rw [e11] at q
        rw [ec, psd_n (σ := (μ 12, ps, pu, rf, ws)) c23 (show ¬ 0 < pushR (μ 11) (μ 14) (μ 15) (μ 16) (μ 17) (μ 12) (pts (μ 11)) d n by omega)]; exact q
      · refine Rj_iconst (q := 37) d_M_comes_36 rfl ?_
        refine Rj_goto (t := 41) d_M_comes_37 (by decide) ?_
        refine Rj_istore (q := 43) (ls' := [vA 0, vI t, vI d, vI ah, vI n, vI 1]) d_M_comes_41 rfl (by decide) rfl ?_
        refine Rj_aload_n (q := 44) d_M_comes_43 rfl rfl rfl ?_
        refine Rj_dup (q := 45) d_M_comes_44 rfl (by intro h; cases h) ?_
        refine Rj_gi (q := 48) (ki := 41) (v := pu) gM_M_471_0 rfl rfl (a41.trans m41) d_M_comes_45 rfl ?_
        refine Rj_iload (q := 50) d_M_comes_48 rfl rfl ?_
        refine Rj_if_eq (q := 53) (t := 57) d_M_comes_50 rfl (by decide) (by decide) (fun c => absurd c (by decide)) (fun _ => ?_)
        refine Rj_iconst (q := 54) d_M_comes_53 rfl ?_
        refine Rj_goto (t := 58) d_M_comes_54 (by decide) ?_
        refine Rj_iadd (q := 59) d_M_comes_58 rfl ?_
        refine Rj_pi (q := 62) (ki := 41) pM_M_471_0 rfl rfl d_M_comes_59 rfl ?_
        refine Rj_aload_n (q := 63) d_M_comes_62 rfl rfl rfl ?_
        refine Rj_dup (q := 64) d_M_comes_63 rfl (by intro h; cases h) ?_
        refine Rj_gi (q := 67) (ki := 42) (v := rf) gM_M_474_0 rfl rfl (a42.trans m42) d_M_comes_64 rfl ?_
        refine Rj_iload (q := 69) d_M_comes_67 rfl rfl ?_
        refine Rj_if_eq (q := 72) (t := 76) d_M_comes_69 rfl (by decide) (by decide) (fun c => absurd c (by decide)) (fun _ => ?_)
        refine Rj_iconst (q := 73) d_M_comes_72 rfl ?_
        refine Rj_goto (t := 77) d_M_comes_73 (by decide) ?_
        refine Rj_iadd (q := 78) d_M_comes_77 rfl ?_
        refine Rj_pi (q := 81) (ki := 42) pM_M_474_0 rfl rfl d_M_comes_78 rfl ?_
        refine Rj_iload (q := 83) d_M_comes_81 rfl rfl ?_
        refine Rj_if_eq (q := 86) (t := 165) d_M_comes_83 rfl (by decide) (by decide) (fun c => absurd c (by decide)) (fun _ => ?_)
        refine Rj_aload_n (q := 87) d_M_comes_86 rfl rfl rfl ?_
        refine Rj_iload_n (q := 88) d_M_comes_87 rfl rfl rfl ?_
        refine Rj_iload (q := 90) d_M_comes_88 rfl rfl ?_
        refine Rj_vov (q := 93) (z := y_M_turnsAll) (as := [vI d, vI n]) (rest := []) (la := [vA 0, vI d, vI n]) oM_0_M_turnsAll ml_M_385 mw_M_turnsAll mv_M_turnsAll rfl d_M_comes_90 rfl rfl rfl rfl rfl ?_
        have pr : 0 < pushR (μ 11) (μ 14) (μ 15) (μ 16) (μ 17) (μ 12) (pts (μ 11)) d n := c33
        have okp := push_ok z0.2 pr
        have bkn := PBK_trn (pl := μ 12) (p := d) (n := n) (K := K + kp * 2799360000000) h.1 h.2.1 hd n60 hI.2.2.2.2.1
        refine s_M_turnsAll (μ := (mset (mset m16 0 41 (pu + 1)) 0 42 (rf + 0))) h16 hd16 n60 (fun m90 f90 g90 => ?_)
        have g90 : m90 12 = trn (m16 11) (m16 14) (m16 15) (m16 16) (m16 12) (pts (m16 11)) d n := g90
        rw [e11, e14, e15, e16, e12] at g90
        have r90 : ∀ c, c ≠ 12 → m90 c = (mset (mset m16 0 41 (pu + 1)) 0 42 (rf + 0)) c := fun c h => f90.row (fun i q => h q)
        refine Rj_iconst (q := 94) d_M_comes_93 rfl ?_
        refine Rj_istore (q := 96) (ls' := [vA 0, vI t, vI d, vI ah, vI n, vI 1, vI 0]) d_M_comes_94 rfl (by decide) rfl ?_
        have q11 : m90 11 = μ 11 := (r90 11 (by decide)).trans e11
        have q14 : m90 14 = μ 14 := (r90 14 (by decide)).trans e14
        have q15 : m90 15 = μ 15 := (r90 15 (by decide)).trans e15
        have q16 : m90 16 = μ 16 := (r90 16 (by decide)).trans e16
        have q17 : m90 17 = μ 17 := (r90 17 (by decide)).trans e17
        have q23 : m90 23 = μ 23 := (r90 23 (by decide)).trans e23
        have q0 := r90 0 (by decide)
        have b32 : m90 0 32 = μ 0 32 := by rw [q0]; exact a32
        have b40 : m90 0 40 = ps := by rw [q0]; exact a40.trans m40
        have b41 : m90 0 41 = pu + 1 := by rw [q0]; rfl
        have b42 : m90 0 42 = rf := by rw [q0]; exact Int.add_zero rf
        have f1 : Fr Wcm μ m90 := (fm16.trans (Fr.trans (Fr.put (Fr.put (Fr.refl _ _) (by first | omega | (unfold Wcm; omega))) (by first | omega | (unfold Wcm; omega))) (Fr.wide f90 (fun c i q => by first | omega | (unfold Wcm; omega)))))
        refine s_M_wear_96 (μ := m90) _ (Nat.lt_succ_self _) (by rw [q11]; exact h.1) (by rw [q11, q14, q15, q16, q17]; exact h.2.1) (by rw [b32, q11]; exact h.2.2.1) (by rw [q11]; exact hd) n60 (by rw [q11]; omega) (fun m f q => ?_)
        rw [q11, q14, q15, q16, q23] at q
        have v11 : m 11 = μ 11 := (f.row (fun i q => absurd (show (11 : Nat) = 23 from q) (by decide))).trans q11
        have v14 : m 14 = μ 14 := (f.row (fun i q => absurd (show (14 : Nat) = 23 from q) (by decide))).trans q14
        have v15 : m 15 = μ 15 := (f.row (fun i q => absurd (show (15 : Nat) = 23 from q) (by decide))).trans q15
        have v16 : m 16 = μ 16 := (f.row (fun i q => absurd (show (16 : Nat) = 23 from q) (by decide))).trans q16
        have v17 : m 17 = μ 17 := (f.row (fun i q => absurd (show (17 : Nat) = 23 from q) (by decide))).trans q17
        have v12 : m 12 = trn (μ 11) (μ 14) (μ 15) (μ 16) (μ 12) (pts (μ 11)) d n := (f.row (fun i q => absurd (show (12 : Nat) = 23 from q) (by decide))).trans g90
        have v0 : m 0 = m90 0 := (f.row (fun i q => absurd (show (0 : Nat) = 23 from q) (by decide)))
        refine s_M_comes_165 (σ := (trn (μ 11) (μ 14) (μ 15) (μ 16) (μ 12) (pts (μ 11)) d n, ps, pu + 1, rf, wrn (μ 11) (μ 14) (μ 15) (μ 16) n d ws)) (h.mv v11 v14 v15 v16 v17 (by rw [v0]; exact b32) (by rw [v12]; exact fun y y0 y1 => by have := bkn y y0 y1; omega)) (by rw [v11]; exact hd) ⟨v12, by rw [v0]; exact b40, by rw [v0]; exact b41, by rw [v0]; exact b42, fun y y0 y1 => ?_⟩ (by show 0 ≤ ps ∧ ps ≤ 5000; omega) (fun m2 f2 q2 => hQ m2 (f1.trans (Fr.trans (Fr.wide f (fun c i q => by first | omega | (unfold Wcm; omega))) (Fr.wide f2 (fun c i q => by first | omega | (unfold Wcm; omega))))) ?_)
        · rw [q y y0 y1, m23 y y0 y1]
          rfl
        · rw [v11] at q2
          rw [ec, psd_y (σ := (μ 12, ps, pu, rf, ws)) c23 pr]; exact q2
  · refine Rj_iconst (q := 9) d_M_comes_8 rfl ?_
    refine Rj_goto (t := 19) d_M_comes_9 (by decide) ?_
    refine Rj_istore (q := 21) (ls' := [vA 0, vI t, vI d, vI ah, vI 0]) d_M_comes_19 rfl (by decide) rfl ?_
    refine Rj_iload (q := 23) d_M_comes_21 rfl rfl ?_
    refine Rj_if_eq (q := 26) (t := 165) d_M_comes_23 rfl (by decide) (by decide) (fun _ => ?_) (fun c => absurd c (by decide))
    refine Rj_pre (ls' := [vA 0, vI t, vI d, vI ah]) (t := [vI 0]) rfl ?_
    refine s_M_comes_165 (σ := (μ 12, ps, pu, rf, ws)) h hd ⟨rfl, m40, m41, m42, m23⟩ (by show 0 ≤ ps ∧ ps ≤ 5000; omega) (fun m f q => hQ m (Fr.wide f (fun c i q => by first | omega | (unfold Wcm; omega))) ?_)
    rw [cmg_o (σ := (μ 12, ps, pu, rf, ws)) c5]; exact q
