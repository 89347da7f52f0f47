theorem oM_0_M_reaches : OI YM 0 y_M_reaches := ⟨by decide, _, _, _, cM_0, rfl⟩
theorem gM_M_60_0 : GI YM "DoorsOnCogsModel" 60 0 31 (some (some 17)) := ⟨by decide, _, _, _, fl_M_60, cM_0, by decide, rfl⟩
theorem aM_17 : AI YM 17 (.boolean) 12 := ⟨by decide, cM_17, by decide⟩
theorem oM_0_M_isTurnedAlike : OI YM 0 y_M_isTurnedAlike := ⟨by decide, _, _, _, cM_0, rfl⟩
/-! the reference hangs all its doors, and marks the locked ones -/
def lkP (S : Int → Int) (w : Int) (lo up dn : Int → Int) (d : Int) : Prop := ∃ j, act S w j ∧ lo (jn S j 0) = lo d ∧ ¬ compat S up dn j
theorem alike_iff {S up dn : Int → Int} {j : Int} : up (jn S j 0) * abv S j (jn S j 1) * dn (jn S j 1) = up (jn S j 1) * (dn (jn S j 0) * blw S j (jn S j 0)) ↔ compat S up dn j := by
  unfold compat
  constructor <;> intro h <;> grind
theorem s_M_reaches {μ : Mem} {Q : PV → Mem → Prop} {w r : Int} (hS : StrOK (μ 11)) (hH : HI (μ 11) w (r + 1) r (μ 14) (μ 15) (μ 16)) (hw : 0 ≤ w ∧ w ≤ 65535) (hr : 0 ≤ r ∧ r < μ 11 0)
    (h1 : ∀ μ', Fr Whg μ μ' → HI (μ 11) w (r + 1) r (μ' 14) (μ' 15) (μ' 16) → una (μ' 14) < una (μ 14) → Q (vI 1) μ') (h2 : (∀ i, act (μ 11) w i → (0 ≤ μ 14 (jn (μ 11) i 0) ↔ 0 ≤ μ 14 (jn (μ 11) i 1))) → Q (vI 0) μ) : Rj YM y_M_reaches 0 [vA 0, vI w] [] μ Q := by
  refine Rj_iconst (q := 1) d_M_reaches_0 rfl ?_
  refine Rj_istore_n (q := 2) (ls' := [vA 0, vI w, vI 0]) d_M_reaches_1 rfl rfl (by decide) rfl ?_
  have hS1 := hS.2.1
  exact s_M_reaches_l (l3 := vU) (l4 := vU) _ (Nat.lt_succ_self _) hS hH hw hr ⟨by decide, hS1.1⟩ (fun i h1 h2 => by omega) h1 h2
theorem Whg_11 : ∀ i, ¬ Whg 11 i := fun i h => by unfold Whg at h; omega
set_option maxHeartbeats 4000000 in
theorem s_M_hw_75 : ∀ (f : Nat) {μ : Mem} {Q : PV → Mem → Prop} {w d : Int}, (una (μ 14) < f) → (StrOK (μ 11)) → (HI (μ 11) w (d + 1) d (μ 14) (μ 15) (μ 16)) → (0 ≤ w ∧ w ≤ 65535) → (0 ≤ d ∧ d < μ 11 0) → (∀ μ', Fr Whg μ μ' → HI (μ 11) w (d + 1) (d + 1) (μ' 14) (μ' 15) (μ' 16) → Rj YM y_M_hangsWithout 88 [vA 0, vI w, vI d] [] μ' Q) → Rj YM y_M_hangsWithout 75 [vA 0, vI w, vI d, vI 1] [] μ Q := by
  intro f
  induction f with
  | zero => intro μ Q w d hf hS hH hw hd hk; exact absurd hf (by omega)
  | succ f ih =>
    intro μ Q w d hf hS hH hw hd hk
    refine Rj_iload_n (q := 76) d_M_hangsWithout_75 rfl rfl rfl ?_
    refine Rj_if_eq (q := 79) (t := 88) d_M_hangsWithout_76 rfl (by decide) (by decide) (fun c => absurd c (by decide)) (fun _ => ?_)
    refine Rj_aload_n (q := 80) d_M_hangsWithout_79 rfl rfl rfl ?_
    refine Rj_iload_n (q := 81) d_M_hangsWithout_80 rfl rfl rfl ?_
    refine Rj_vo (q := 84) (z := y_M_reaches) (as := [vI w]) (rest := []) (la := [vA 0, vI w]) oM_0_M_reaches ml_M_324 mw_M_reaches mv_M_reaches rfl d_M_hangsWithout_81 rfl rfl rfl rfl rfl ?_
    refine s_M_reaches (μ := μ) hS hH hw hd (fun m81 f81 q81 u81 => ?_) (fun q81 => ?_)
    · have z81 := True.intro
      refine Rj_istore_n (q := 85) (ls' := [vA 0, vI w, vI d, vI 1]) d_M_hangsWithout_84 rfl rfl (by decide) rfl ?_
      refine Rj_goto (t := 75) d_M_hangsWithout_85 (by decide) ?_
      have e11 := f81.row Whg_11
      exact ih (by omega) (by rw [e11]; exact hS) (by rw [e11]; exact q81) hw (by rw [e11]; exact hd) (by rw [e11]; exact fun m f h => hk m (f81.trans f) h)
    · have z81 := True.intro
      refine Rj_istore_n (q := 85) (ls' := [vA 0, vI w, vI d, vI 0]) d_M_hangsWithout_84 rfl rfl (by decide) rfl ?_
      refine Rj_goto (t := 75) d_M_hangsWithout_85 (by decide) ?_
      refine Rj_iload_n (q := 76) d_M_hangsWithout_75 rfl rfl rfl ?_
      refine Rj_if_eq (q := 79) (t := 88) d_M_hangsWithout_76 rfl (by decide) (by decide) (fun _ => ?_) (fun c => absurd c (by decide))
      refine Rj_pre (ls' := [vA 0, vI w, vI d]) (t := [vI 0]) rfl ?_
      exact (hk μ (Fr.refl _ _) (HI_close hS hH q81))
set_option maxHeartbeats 4000000 in
theorem s_M_hw_30 : ∀ (f : Nat) {μ : Mem} {Q : PV → Mem → Prop} {w d : Int}, ((μ 11 0 - d).toNat < f) → (StrOK (μ 11)) → (HI (μ 11) w d d (μ 14) (μ 15) (μ 16)) → (0 ≤ w ∧ w ≤ 65535) → (0 ≤ d ∧ d ≤ μ 11 0) → (∀ μ', Fr Whg μ μ' → HI (μ 11) w (μ 11 0) (μ 11 0) (μ' 14) (μ' 15) (μ' 16) → Rj YM y_M_hangsWithout 94 [vA 0, vI w] [] μ' Q) → Rj YM y_M_hangsWithout 30 [vA 0, vI w, vI d] [] μ Q := by
  intro f
  induction f with
  | zero => intro μ Q w d hf hS hH hw hd hk; exact absurd hf (by omega)
  | succ f ih =>
    intro μ Q w d hf hS hH hw hd hk
    obtain ⟨hS0, hS1, hS2, hS3, hS4⟩ := id hS
    obtain ⟨a1, -⟩ := id hH
    refine Rj_iload_n (q := 31) d_M_hangsWithout_30 rfl rfl rfl ?_
    refine Rj_aload_n (q := 32) d_M_hangsWithout_31 rfl rfl rfl ?_
    refine Rj_gr (q := 35) (zd := 11) gM_M_42_0 rfl rfl d_M_hangsWithout_32 rfl ?_
    refine Rj_iconst (q := 36) d_M_hangsWithout_35 rfl ?_
    refine Rj_ia (q := 37) (v := μ 11 0) aM_11 rfl (by decide) rfl d_M_hangsWithout_36 rfl ?_
    refine Rj_icmp_ge (q := 40) (t := 94) d_M_hangsWithout_37 rfl (by decide) ⟨by omega, by omega⟩ ⟨by omega, by omega⟩ (fun c37 => ?_) (fun c37 => ?_)
    · have ed : d = μ 11 0 := by omega
      rw [ed] at hH
      refine Rj_pre (ls' := [vA 0, vI w]) (t := [vI d]) rfl ?_
      exact (hk μ (Fr.refl _ _) hH)
    · have x1 := a1 d hd.1 c37
      refine Rj_aload_n (q := 41) d_M_hangsWithout_40 rfl rfl rfl ?_
      refine Rj_gr (q := 44) (zd := 14) gM_M_51_0 rfl rfl d_M_hangsWithout_41 rfl ?_
      refine Rj_iload_n (q := 45) d_M_hangsWithout_44 rfl rfl rfl ?_
      refine Rj_ia (q := 46) (v := μ 14 d) aM_14 rfl (by omega) rfl d_M_hangsWithout_45 rfl ?_
      refine Rj_if_lt (q := 49) (t := 52) d_M_hangsWithout_46 rfl (by decide) ⟨by omega, by omega⟩ (fun c46 => ?_) (fun c46 => ?_)
      · refine Rj_aload_n (q := 53) d_M_hangsWithout_52 rfl rfl rfl ?_
        refine Rj_gr (q := 56) (zd := 14) gM_M_51_0 rfl rfl d_M_hangsWithout_53 rfl ?_
        refine Rj_iload_n (q := 57) d_M_hangsWithout_56 rfl rfl rfl ?_
        refine Rj_iload_n (q := 58) d_M_hangsWithout_57 rfl rfl rfl ?_
        refine Rj_is (q := 59) aM_14 rfl (by omega) d_M_hangsWithout_58 rfl ?_
        refine Rj_aload_n (q := 60) d_M_hangsWithout_59 rfl rfl rfl ?_
        refine Rj_gr (q := 63) (zd := 15) gM_M_54_0 rfl rfl d_M_hangsWithout_60 rfl ?_
        refine Rj_iload_n (q := 64) d_M_hangsWithout_63 rfl rfl rfl ?_
        refine Rj_lconst (q := 65) (z := 1) d_M_hangsWithout_64 rfl rfl ?_
        refine Rj_lst (q := 66) aM_15 rfl (by omega) d_M_hangsWithout_65 rfl ?_
        refine Rj_aload_n (q := 67) d_M_hangsWithout_66 rfl rfl rfl ?_
        refine Rj_gr (q := 70) (zd := 16) gM_M_57_0 rfl rfl d_M_hangsWithout_67 rfl ?_
        refine Rj_iload_n (q := 71) d_M_hangsWithout_70 rfl rfl rfl ?_
        refine Rj_lconst (q := 72) (z := 1) d_M_hangsWithout_71 rfl rfl ?_
        refine Rj_lst (q := 73) aM_16 rfl (by omega) d_M_hangsWithout_72 rfl ?_
        refine Rj_iconst (q := 74) d_M_hangsWithout_73 rfl ?_
        refine Rj_istore_n (q := 75) (ls' := [vA 0, vI w, vI d, vI 1]) d_M_hangsWithout_74 rfl rfl (by decide) rfl ?_
        have hR := HI_root hS hH hd.1 c37 (by omega)
        refine s_M_hw_75 (μ := (mset (mset (mset μ 14 d d) 15 d 1) 16 d 1)) _ (Nat.lt_succ_self _) hS (by simpa [mset_fs, mset_nc] using hR) hw ⟨hd.1, c37⟩ (fun m f h => ?_)
        have fr : Fr Whg μ m := Fr.trans (Fr.put (Fr.put (Fr.put (Fr.refl _ _) (by simp [Whg])) (by simp [Whg])) (by simp [Whg])) f
        have e11 := fr.row Whg_11
        refine Rj_iinc (q := 91) (ls' := [vA 0, vI w, vI (d + 1)]) d_M_hangsWithout_88 rfl rfl (by decide) rfl ?_
        refine Rj_goto (t := 30) d_M_hangsWithout_91 (by decide) ?_
        exact ih (by rw [e11]; omega) (by rw [e11]; exact hS) (by rw [e11]; exact h) hw (by rw [e11]; omega) (by rw [e11]; exact fun m2 f2 h2 => hk m2 (fr.trans f2) h2)
      · refine Rj_goto (t := 88) d_M_hangsWithout_49 (by decide) ?_
        refine Rj_iinc (q := 91) (ls' := [vA 0, vI w, vI (d + 1)]) d_M_hangsWithout_88 rfl rfl (by decide) rfl ?_
        refine Rj_goto (t := 30) d_M_hangsWithout_91 (by decide) ?_
        exact ih (by omega) hS (HI_skip hS hH (by omega)) hw (by omega) hk
def lkU (S : Int → Int) (w : Int) (lo up dn : Int → Int) (j d : Int) : Prop := ∃ i, i < j ∧ act S w i ∧ lo (jn S i 0) = lo d ∧ ¬ compat S up dn i
abbrev Wlk (c : Nat) (_ : Int) : Prop := c = 17
set_option maxHeartbeats 4000000 in
theorem s_M_hw_139 : ∀ (f : Nat) {μ : Mem} {Q : PV → Mem → Prop} {w j d : Int}, ((μ 11 0 - d).toNat < f) → (StrOK (μ 11)) → (0 ≤ j ∧ j < μ 11 1) → (0 ≤ d ∧ d ≤ μ 11 0) → (∀ x, 0 ≤ x → x < μ 11 0 → -1 ≤ μ 14 x ∧ μ 14 x < 12) → (∀ x, 0 ≤ x → x < μ 11 0 → (μ 17 x = 0 ∨ μ 17 x = 1) ∧ (μ 17 x = 1 ↔ (lkU (μ 11) w (μ 14) (μ 15) (μ 16) j x ∨ (x < d ∧ μ 14 x = μ 14 (jn (μ 11) j 0))))) → (∀ μ', Fr Wlk μ μ' → (∀ x, 0 ≤ x → x < μ 11 0 → (μ' 17 x = 0 ∨ μ' 17 x = 1) ∧ (μ' 17 x = 1 ↔ (lkU (μ 11) w (μ 14) (μ 15) (μ 16) j x ∨ μ 14 x = μ 14 (jn (μ 11) j 0)))) → Rj YM y_M_hangsWithout 189 [vA 0, vI w, vI j] [] μ' Q) → Rj YM y_M_hangsWithout 139 [vA 0, vI w, vI j, vI d] [] μ Q := by
  intro f
  induction f with
  | zero => intro μ Q w j d hf hS hj hd hlo hl hk; exact absurd hf (by omega)
  | succ f ih =>
    intro μ Q w j d hf hS hj hd hlo hl hk
    obtain ⟨hS0, hS1, hS2, hS3, hS4⟩ := id hS
    obtain ⟨ka, kb, kne, kk⟩ := hS3 j hj.1 hj.2
    refine Rj_iload_n (q := 140) d_M_hangsWithout_139 rfl rfl rfl ?_
    refine Rj_aload_n (q := 141) d_M_hangsWithout_140 rfl rfl rfl ?_
    refine Rj_gr (q := 144) (zd := 11) gM_M_42_0 rfl rfl d_M_hangsWithout_141 rfl ?_
    refine Rj_iconst (q := 145) d_M_hangsWithout_144 rfl ?_
    refine Rj_ia (q := 146) (v := μ 11 0) aM_11 rfl (by decide) rfl d_M_hangsWithout_145 rfl ?_
    refine Rj_icmp_ge (q := 149) (t := 189) d_M_hangsWithout_146 rfl (by decide) ⟨by omega, by omega⟩ ⟨by omega, by omega⟩ (fun c146 => ?_) (fun c146 => ?_)
    · refine Rj_pre (ls' := [vA 0, vI w, vI j]) (t := [vI d]) rfl ?_
      refine hk μ (Fr.refl _ _) (fun x q1 q2 => ?_)
      have := hl x q1 q2
      refine ⟨this.1, this.2.trans ⟨fun h => h.imp id (fun h => h.2), fun h => h.imp id (fun h => ⟨by omega, h⟩)⟩⟩
    · have x1 := hlo d hd.1 c146
      have x2 := hlo _ ka.1 ka.2
      have x3 := hl d hd.1 c146
      refine Rj_aload_n (q := 150) d_M_hangsWithout_149 rfl rfl rfl ?_
      refine Rj_gr (q := 153) (zd := 17) gM_M_60_0 rfl rfl d_M_hangsWithout_150 rfl ?_
      refine Rj_iload_n (q := 154) d_M_hangsWithout_153 rfl rfl rfl ?_
      refine Rj_dup2 (q := 155) d_M_hangsWithout_154 rfl (by intro h; cases h) (by intro h; cases h) ?_
      refine Rj_za (q := 156) (v := μ 17 d) aM_17 rfl (by omega) rfl d_M_hangsWithout_155 rfl ?_
      refine Rj_aload_n (q := 157) d_M_hangsWithout_156 rfl rfl rfl ?_
      refine Rj_gr (q := 160) (zd := 14) gM_M_51_0 rfl rfl d_M_hangsWithout_157 rfl ?_
      refine Rj_iload_n (q := 161) d_M_hangsWithout_160 rfl rfl rfl ?_
      refine Rj_ia (q := 162) (v := μ 14 d) aM_14 rfl (by omega) rfl d_M_hangsWithout_161 rfl ?_
      refine Rj_aload_n (q := 163) d_M_hangsWithout_162 rfl rfl rfl ?_
      refine Rj_gr (q := 166) (zd := 14) gM_M_51_0 rfl rfl d_M_hangsWithout_163 rfl ?_
      refine Rj_aload_n (q := 167) d_M_hangsWithout_166 rfl rfl rfl ?_
      refine Rj_iload_n (q := 168) d_M_hangsWithout_167 rfl rfl rfl ?_
      refine Rj_iconst (q := 169) d_M_hangsWithout_168 rfl ?_
      refine Rj_vo (q := 172) (z := y_M_joinOf) (as := [vI j, vI 0]) (rest := [vA 14, vI (μ 14 d), vI (μ 17 d), vI d, vA 17]) (la := [vA 0, vI j, vI 0]) oM_0_M_joinOf ml_M_297 mw_M_joinOf mv_M_joinOf rfl d_M_hangsWithout_169 rfl rfl rfl rfl rfl ?_
      refine s_M_joinOf (by omega) (by decide) ?_
      refine Rj_ia (q := 173) (v := μ 14 (jn (μ 11) j 0)) aM_14 rfl (by omega) rfl d_M_hangsWithout_172 rfl ?_
      refine Rj_icmp_ne (q := 176) (t := 180) d_M_hangsWithout_173 rfl (by decide) ⟨by omega, by omega⟩ ⟨by omega, by omega⟩ (fun c173 => ?_) (fun c173 => ?_)
      · refine Rj_iconst (q := 181) d_M_hangsWithout_180 rfl ?_
        refine Rj_ior (q := 182) (z := μ 17 d) d_M_hangsWithout_181 rfl (by rcases x3.1 with q | q <;> rw [q] <;> decide) ?_
        refine Rj_zs (q := 183) aM_17 rfl (by omega) (by omega) d_M_hangsWithout_182 rfl ?_
        refine Rj_iinc (q := 186) (ls' := [vA 0, vI w, vI j, vI (d + 1)]) d_M_hangsWithout_183 rfl rfl (by decide) rfl ?_
        refine Rj_goto (t := 139) d_M_hangsWithout_186 (by decide) ?_
        refine ih (μ := (mset μ 17 d (μ 17 d))) (by show (μ 11 0 - (d + 1)).toNat < f; omega) hS hj (show 0 ≤ d + 1 ∧ d + 1 ≤ μ 11 0 by omega) hlo (fun x q1 q2 => ?_) (fun m f h => hk m (Fr.trans (Fr.put (Fr.refl _ _) (by simp [Wlk])) f) h)
        have q2 : x < μ 11 0 := q2
        have hx := hl x q1 q2
        show ((mset μ 17 d (μ 17 d)) 17 x = 0 ∨ (mset μ 17 d (μ 17 d)) 17 x = 1) ∧ ((mset μ 17 d (μ 17 d)) 17 x = 1 ↔ (lkU (μ 11) w (μ 14) (μ 15) (μ 16) j x ∨ (x < d + 1 ∧ μ 14 x = μ 14 (jn (μ 11) j 0))))
        by_cases e : x = d
        · subst e
          rw [mset_same]
          refine ⟨hx.1, hx.2.trans ⟨fun h => h.imp id (fun h => ⟨by omega, h.2⟩), fun h => h.imp id (fun h => absurd h.2 c173)⟩⟩
        · rw [mset_ne _ _ _ _ _ e]
          refine ⟨hx.1, hx.2.trans ⟨fun h => h.imp id (fun h => ⟨by omega, h.2⟩), fun h => h.imp id (fun h => ⟨by omega, h.2⟩)⟩⟩
      · refine Rj_iconst (q := 177) d_M_hangsWithout_176 rfl ?_
        refine Rj_goto (t := 181) d_M_hangsWithout_177 (by decide) ?_
        refine Rj_ior (q := 182) (z := 1) d_M_hangsWithout_181 rfl (by rcases x3.1 with q | q <;> rw [q] <;> decide) ?_
        refine Rj_zs (q := 183) aM_17 rfl (by omega) (by omega) d_M_hangsWithout_182 rfl ?_
        refine Rj_iinc (q := 186) (ls' := [vA 0, vI w, vI j, vI (d + 1)]) d_M_hangsWithout_183 rfl rfl (by decide) rfl ?_
        refine Rj_goto (t := 139) d_M_hangsWithout_186 (by decide) ?_
        refine ih (μ := (mset μ 17 d 1)) (by show (μ 11 0 - (d + 1)).toNat < f; omega) hS hj (show 0 ≤ d + 1 ∧ d + 1 ≤ μ 11 0 by omega) hlo (fun x q1 q2 => ?_) (fun m f h => hk m (Fr.trans (Fr.put (Fr.refl _ _) (by simp [Wlk])) f) h)
        have q2 : x < μ 11 0 := q2
        have hx := hl x q1 q2
        show ((mset μ 17 d 1) 17 x = 0 ∨ (mset μ 17 d 1) 17 x = 1) ∧ ((mset μ 17 d 1) 17 x = 1 ↔ (lkU (μ 11) w (μ 14) (μ 15) (μ 16) j x ∨ (x < d + 1 ∧ μ 14 x = μ 14 (jn (μ 11) j 0))))
        by_cases e : x = d
        · subst e
          rw [mset_same]
          exact ⟨Or.inr rfl, fun _ => Or.inr ⟨by omega, by omega⟩, fun _ => rfl⟩
        · rw [mset_ne _ _ _ _ _ e]
          refine ⟨hx.1, hx.2.trans ⟨fun h => h.imp id (fun h => ⟨by omega, h.2⟩), fun h => h.imp id (fun h => ⟨by omega, h.2⟩)⟩⟩
theorem lkU_step {S : Int → Int} {w j d : Int} {lo up dn : Int → Int} : lkU S w lo up dn (j + 1) d ↔ lkU S w lo up dn j d ∨ (act S w j ∧ lo (jn S j 0) = lo d ∧ ¬ compat S up dn j) := by
  constructor
  · rintro ⟨i, h1, h2, h3, h4⟩
    by_cases e : i = j
    · subst e; exact Or.inr ⟨h2, h3, h4⟩
    · exact Or.inl ⟨i, by omega, h2, h3, h4⟩
  · rintro (⟨i, h1, h2⟩ | h)
    · exact ⟨i, by omega, h2⟩
    · exact ⟨j, by omega, h⟩
theorem lkU_all {S : Int → Int} {w d : Int} {lo up dn : Int → Int} : lkU S w lo up dn (S 1) d ↔ lkP S w lo up dn d :=
  ⟨fun ⟨i, _, h⟩ => ⟨i, h⟩, fun ⟨i, h⟩ => ⟨i, h.1.2.1, h⟩⟩
set_option maxHeartbeats 4000000 in
theorem s_M_hw_96 : ∀ (f : Nat) {μ : Mem} {Q : PV → Mem → Prop} {w j : Int}, ((μ 11 1 - j).toNat < f) → (StrOK (μ 11)) → (0 ≤ w ∧ w ≤ 65535) → (0 ≤ j ∧ j ≤ μ 11 1) → (∀ x, 0 ≤ x → x < μ 11 0 → -1 ≤ μ 14 x ∧ μ 14 x < 12) → (∀ d, 0 ≤ d → d < μ 11 0 → (-216000 ≤ μ 15 d ∧ μ 15 d ≤ 216000) ∧ (0 < μ 16 d ∧ μ 16 d ≤ 216000)) → (∀ x, 0 ≤ x → x < μ 11 0 → (μ 17 x = 0 ∨ μ 17 x = 1) ∧ (μ 17 x = 1 ↔ lkU (μ 11) w (μ 14) (μ 15) (μ 16) j x)) → (∀ μ', Fr Wlk μ μ' → (∀ x, 0 ≤ x → x < μ 11 0 → (μ' 17 x = 0 ∨ μ' 17 x = 1) ∧ (μ' 17 x = 1 ↔ lkU (μ 11) w (μ 14) (μ 15) (μ 16) (μ 11 1) x)) → Q vU μ') → Rj YM y_M_hangsWithout 96 [vA 0, vI w, vI j] [] μ Q := by
  intro f
  induction f with
  | zero => intro μ Q w j hf hS hw hj hlo hbd hl hk; exact absurd hf (by omega)
  | succ f ih =>
    intro μ Q w j hf hS hw hj hlo hbd hl hk
    obtain ⟨hS0, hS1, hS2, hS3, hS4⟩ := id hS
    refine Rj_iload_n (q := 97) d_M_hangsWithout_96 rfl rfl rfl ?_
    refine Rj_aload_n (q := 98) d_M_hangsWithout_97 rfl rfl rfl ?_
    refine Rj_gr (q := 101) (zd := 11) gM_M_42_0 rfl rfl d_M_hangsWithout_98 rfl ?_
    refine Rj_iconst (q := 102) d_M_hangsWithout_101 rfl ?_
    refine Rj_ia (q := 103) (v := μ 11 1) aM_11 rfl (by decide) rfl d_M_hangsWithout_102 rfl ?_
    refine Rj_icmp_ge (q := 106) (t := 195) d_M_hangsWithout_103 rfl (by decide) ⟨by omega, by omega⟩ ⟨by omega, by omega⟩ (fun c103 => ?_) (fun c103 => ?_)
    · have ej : j = μ 11 1 := by omega
      subst ej
      refine Rj_vret d_M_hangsWithout_195 rfl ?_
      exact hk μ (Fr.refl _ _) hl
    · have hj1 : 0 ≤ j ∧ j < μ 11 1 := ⟨hj.1, c103⟩
      obtain ⟨ka, kb, kne, kk⟩ := hS3 j hj.1 c103
      refine Rj_iload_n (q := 107) d_M_hangsWithout_106 rfl rfl rfl ?_
      refine Rj_iload_n (q := 108) d_M_hangsWithout_107 rfl rfl rfl ?_
      refine Rj_cs (q := 111) (z := y_M_isOf) (as := [vI w, vI j]) (rest := []) (la := [vI w, vI j]) ml_M_317 mw_M_isOf ms_M_isOf d_M_hangsWithout_108 rfl rfl rfl rfl rfl ?_
      refine s_M_isOf ⟨by omega, by omega⟩ (by omega) ?_
      refine Rj_b_ne (q := 114) (t := 189) d_M_hangsWithout_111 rfl (by decide) (fun c111 => ?_) (fun c111 => ?_)
      · simp only [decide_eq_true_eq] at c111
        refine Rj_iinc (q := 192) (ls' := [vA 0, vI w, vI (j + 1)]) d_M_hangsWithout_189 rfl rfl (by decide) rfl ?_
        refine Rj_goto (t := 96) d_M_hangsWithout_192 (by decide) ?_
        exact ih (by omega) hS hw (by omega) hlo hbd (fun x q1 q2 => ⟨(hl x q1 q2).1, (hl x q1 q2).2.trans ((lkU_step (S := μ 11)).trans ⟨fun h => h.elim id (fun h => by first | exact absurd hyc h.2.2 | exact absurd c111 h.1.2.2), Or.inl⟩).symm⟩) hk
      · have hact : act (μ 11) w j := ⟨hj.1, c103, by simpa using c111⟩
        refine Rj_aload_n (q := 115) d_M_hangsWithout_114 rfl rfl rfl ?_
        refine Rj_iload_n (q := 116) d_M_hangsWithout_115 rfl rfl rfl ?_
        refine Rj_aload_n (q := 117) d_M_hangsWithout_116 rfl rfl rfl ?_
        refine Rj_iload_n (q := 118) d_M_hangsWithout_117 rfl rfl rfl ?_
        refine Rj_iconst (q := 119) d_M_hangsWithout_118 rfl ?_
        refine Rj_vo (q := 122) (z := y_M_joinOf) (as := [vI j, vI 0]) (rest := [vI j, vA 0]) (la := [vA 0, vI j, vI 0]) oM_0_M_joinOf ml_M_297 mw_M_joinOf mv_M_joinOf rfl d_M_hangsWithout_119 rfl rfl rfl rfl rfl ?_
        refine s_M_joinOf (by omega) (by decide) ?_
        refine Rj_aload_n (q := 123) d_M_hangsWithout_122 rfl rfl rfl ?_
        refine Rj_iload_n (q := 124) d_M_hangsWithout_123 rfl rfl rfl ?_
        refine Rj_iconst (q := 125) d_M_hangsWithout_124 rfl ?_
        refine Rj_vo (q := 128) (z := y_M_joinOf) (as := [vI j, vI 1]) (rest := [vI (jn (μ 11) j 0), vI j, vA 0]) (la := [vA 0, vI j, vI 1]) oM_0_M_joinOf ml_M_297 mw_M_joinOf mv_M_joinOf rfl d_M_hangsWithout_125 rfl rfl rfl rfl rfl ?_
        refine s_M_joinOf (by omega) (by decide) ?_
        refine Rj_vo (q := 131) (z := y_M_isTurnedAlike) (as := [vI j, vI (jn (μ 11) j 0), vI (jn (μ 11) j 1)]) (rest := []) (la := [vA 0, vI j, vI (jn (μ 11) j 0), vI (jn (μ 11) j 1)]) oM_0_M_isTurnedAlike ml_M_327 mw_M_isTurnedAlike mv_M_isTurnedAlike rfl d_M_hangsWithout_128 rfl rfl rfl rfl rfl ?_
        refine s_M_isTurnedAlike hS hj1 ka kb (hbd _ ka.1 ka.2) (hbd _ kb.1 kb.2) ?_
        refine Rj_b_eq (q := 134) (t := 137) d_M_hangsWithout_131 rfl (by decide) (fun c131 => ?_) (fun c131 => ?_)
        · have hnc : ¬ compat (μ 11) (μ 15) (μ 16) j := fun h => by have := alike_iff.mpr h; simp [this] at c131
          refine Rj_iconst (q := 138) d_M_hangsWithout_137 rfl ?_
          refine Rj_istore_n (q := 139) (ls' := [vA 0, vI w, vI j, vI 0]) d_M_hangsWithout_138 rfl rfl (by decide) rfl ?_
          refine s_M_hw_139 _ (Nat.lt_succ_self _) hS hj1 (show 0 ≤ (0 : Int) ∧ (0 : Int) ≤ μ 11 0 by omega) hlo (fun x q1 q2 => ⟨(hl x q1 q2).1, (hl x q1 q2).2.trans ⟨Or.inl, fun h => h.elim id (fun h => by omega)⟩⟩) (fun m f h => ?_)
          have e11 : m 11 = μ 11 := f.row (fun i q => by unfold Wlk at q; omega)
          have e14 : m 14 = μ 14 := f.row (fun i q => by unfold Wlk at q; omega)
          have e15 : m 15 = μ 15 := f.row (fun i q => by unfold Wlk at q; omega)
          have e16 : m 16 = μ 16 := f.row (fun i q => by unfold Wlk at q; omega)
          refine Rj_iinc (q := 192) (ls' := [vA 0, vI w, vI (j + 1)]) d_M_hangsWithout_189 rfl rfl (by decide) rfl ?_
          refine Rj_goto (t := 96) d_M_hangsWithout_192 (by decide) ?_
          refine ih (μ := m) (by rw [e11]; omega) (by rw [e11]; exact hS) hw (by rw [e11]; omega) (by rw [e11, e14]; exact hlo) (by rw [e11, e15, e16]; exact hbd) (by
            rw [e11, e14, e15, e16]
            exact fun x q1 q2 => ⟨(h x q1 q2).1, (h x q1 q2).2.trans (Iff.trans ⟨fun h => h.imp id (fun h => ⟨hact, h.symm, hnc⟩), fun h => h.imp id (fun h => h.2.1.symm)⟩ (lkU_step (S := μ 11)).symm)⟩) (by rw [e11, e14, e15, e16]; exact fun m2 f2 h2 => hk m2 (f.trans f2) h2)
        · have hyc : compat (μ 11) (μ 15) (μ 16) j := alike_iff.mp (by simpa using c131)
          refine Rj_goto (t := 189) d_M_hangsWithout_134 (by decide) ?_
          refine Rj_iinc (q := 192) (ls' := [vA 0, vI w, vI (j + 1)]) d_M_hangsWithout_189 rfl rfl (by decide) rfl ?_
          refine Rj_goto (t := 96) d_M_hangsWithout_192 (by decide) ?_
          exact ih (by omega) hS hw (by omega) hlo hbd (fun x q1 q2 => ⟨(hl x q1 q2).1, (hl x q1 q2).2.trans ((lkU_step (S := μ 11)).trans ⟨fun h => h.elim id (fun h => by first | exact absurd hyc h.2.2 | exact absurd c111 h.1.2.2), Or.inl⟩).symm⟩) hk
set_option maxHeartbeats 4000000 in
theorem s_M_hw_2 : ∀ (f : Nat) {μ : Mem} {Q : PV → Mem → Prop} {w d : Int}, ((12 - d).toNat < f) → (0 ≤ d ∧ d ≤ 12) → (∀ x, 0 ≤ x → x < d → μ 14 x = -1 ∧ μ 17 x = 0) → (∀ μ', Fr (fun c _ => c = 14 ∨ c = 17) μ μ' → (∀ x, 0 ≤ x → x < 12 → μ' 14 x = -1 ∧ μ' 17 x = 0) → Rj YM y_M_hangsWithout 28 [vA 0, vI w] [] μ' Q) → Rj YM y_M_hangsWithout 2 [vA 0, vI w, vI d] [] μ Q := by
  intro f
  induction f with
  | zero => intro μ Q w d hf hd hl hk; exact absurd hf (by omega)
  | succ f ih =>
    intro μ Q w d hf hd hl hk
    refine Rj_iload_n (q := 3) d_M_hangsWithout_2 rfl rfl rfl ?_
    refine Rj_bipush (q := 5) d_M_hangsWithout_3 rfl (by decide +kernel) ?_
    refine Rj_icmp_ge (q := 8) (t := 28) d_M_hangsWithout_5 rfl (by decide) ⟨by omega, by omega⟩ (by decide) (fun c5 => ?_) (fun c5 => ?_)
    · refine Rj_pre (ls' := [vA 0, vI w]) (t := [vI d]) rfl ?_
      exact (hk μ (Fr.refl _ _) (fun x q1 q2 => hl x q1 (by omega)))
    · refine Rj_aload_n (q := 9) d_M_hangsWithout_8 rfl rfl rfl ?_
      refine Rj_gr (q := 12) (zd := 14) gM_M_51_0 rfl rfl d_M_hangsWithout_9 rfl ?_
      refine Rj_iload_n (q := 13) d_M_hangsWithout_12 rfl rfl rfl ?_
      refine Rj_iconst (q := 14) d_M_hangsWithout_13 rfl ?_
      refine Rj_is (q := 15) aM_14 rfl (by omega) d_M_hangsWithout_14 rfl ?_
      refine Rj_aload_n (q := 16) d_M_hangsWithout_15 rfl rfl rfl ?_
      refine Rj_gr (q := 19) (zd := 17) gM_M_60_0 rfl rfl d_M_hangsWithout_16 rfl ?_
      refine Rj_iload_n (q := 20) d_M_hangsWithout_19 rfl rfl rfl ?_
      refine Rj_iconst (q := 21) d_M_hangsWithout_20 rfl ?_
      refine Rj_zs (q := 22) aM_17 rfl (by omega) (by omega) d_M_hangsWithout_21 rfl ?_
      refine Rj_iinc (q := 25) (ls' := [vA 0, vI w, vI (d + 1)]) d_M_hangsWithout_22 rfl rfl (by decide) rfl ?_
      refine Rj_goto (t := 2) d_M_hangsWithout_25 (by decide) ?_
      refine ih (μ := (mset (mset μ 14 d (-1)) 17 d 0)) (by omega) (by omega) (fun x q1 q2 => ?_) (fun m f h => hk m (Fr.trans (Fr.put (Fr.put (Fr.refl _ _) (by simp)) (by simp)) f) h)
      show (mset μ 14 d (-1)) 14 x = -1 ∧ (mset (mset μ 14 d (-1)) 17 d 0) 17 x = 0
      by_cases e : x = d
      · subst e; rw [mset_same, mset_same]; exact ⟨rfl, rfl⟩
      · rw [mset_ne _ _ _ _ _ e, mset_ne _ _ _ _ _ e, mset_nc _ _ _ _ _ (by decide)]
        exact hl x q1 (by omega)
abbrev Whw (c : Nat) (_ : Int) : Prop := c = 14 ∨ c = 15 ∨ c = 16 ∨ c = 17
set_option maxHeartbeats 4000000 in
theorem s_M_hangsWithout {μ : Mem} {Q : PV → Mem → Prop} {w : Int} (hS : StrOK (μ 11)) (hw : 0 ≤ w ∧ w ≤ 65535) (hk : ∀ μ', Fr Whw μ μ' → HI (μ 11) w (μ 11 0) (μ 11 0) (μ' 14) (μ' 15) (μ' 16) → (∀ x, 0 ≤ x → x < μ 11 0 → (μ' 17 x = 0 ∨ μ' 17 x = 1) ∧ (μ' 17 x = 1 ↔ lkP (μ 11) w (μ' 14) (μ' 15) (μ' 16) x)) → Q vU μ') : Rj YM y_M_hangsWithout 0 [vA 0, vI w] [] μ Q := by
  obtain ⟨hS0, hS1, hS2, hS3, hS4⟩ := id hS
  refine Rj_iconst (q := 1) d_M_hangsWithout_0 rfl ?_
  refine Rj_istore_n (q := 2) (ls' := [vA 0, vI w, vI 0]) d_M_hangsWithout_1 rfl rfl (by decide) rfl ?_
  refine s_M_hw_2 _ (Nat.lt_succ_self _) (by decide) (fun x q1 q2 => by omega) (fun m1 f1 h1 => ?_)
  have e11 : m1 11 = μ 11 := f1.row (fun i q => by rcases q with q | q <;> omega)
  refine Rj_iconst (q := 29) d_M_hangsWithout_28 rfl ?_
  refine Rj_istore_n (q := 30) (ls' := [vA 0, vI w, vI 0]) d_M_hangsWithout_29 rfl rfl (by decide) rfl ?_
  refine s_M_hw_30 (μ := m1) _ (Nat.lt_succ_self _) (by rw [e11]; exact hS) (by rw [e11]; exact HI_start (fun d q1 q2 => (h1 d q1 (by omega)).1)) hw (by rw [e11]; omega) (fun m2 f2 h2 => ?_)
  have e11b : m2 11 = μ 11 := (f2.row Whg_11).trans e11
  rw [e11] at h2
  refine Rj_iconst (q := 95) d_M_hangsWithout_94 rfl ?_
  refine Rj_istore_n (q := 96) (ls' := [vA 0, vI w, vI 0]) d_M_hangsWithout_95 rfl rfl (by decide) rfl ?_
  obtain ⟨a1, a2, -⟩ := id h2
  refine s_M_hw_96 (μ := m2) _ (Nat.lt_succ_self _) (by rw [e11b]; exact hS) hw (by rw [e11b]; omega) (by
    rw [e11b]
    intro x q1 q2
    have := a1 x q1 q2
    omega) (by
    rw [e11b]
    exact fun d q1 q2 => HI_bd hS h2 d q1 q2 (a2 d q1 q2 q2)) (by
    rw [e11b]
    intro x q1 q2
    have e17 : m2 17 x = 0 := by rw [f2 17 x (by unfold Whg; omega)]; exact (h1 x q1 (by omega)).2
    refine ⟨Or.inl e17, ?_⟩
    rw [e17]
    refine ⟨fun h => absurd h (by decide), ?_⟩
    rintro ⟨i, q3, q4, -⟩
    have := q4.1; omega) (fun m3 f3 h3 => ?_)
  rw [e11b] at h3
  have e14 : m3 14 = m2 14 := f3.row (fun i q => by unfold Wlk at q; omega)
  have e15 : m3 15 = m2 15 := f3.row (fun i q => by unfold Wlk at q; omega)
  have e16 : m3 16 = m2 16 := f3.row (fun i q => by unfold Wlk at q; omega)
  refine hk m3 ?_ (by rw [e14, e15, e16]; exact h2) (fun x q1 q2 => ?_)
  · exact ((f1.wide (fun c i h => by unfold Whw; omega)).trans (f2.wide (fun c i h => by unfold Whg at h; unfold Whw; omega))).trans (f3.wide (fun c i h => by unfold Wlk at h; unfold Whw; omega))
  · rw [e14, e15, e16]
    exact ⟨(h3 x q1 q2).1, (h3 x q1 q2).2.trans lkU_all⟩
