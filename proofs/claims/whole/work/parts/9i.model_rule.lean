theorem gM_M_13_0 : GI YM "DoorsOnCogsModel" 13 0 3 (some (some 2)) := ⟨by decide, _, _, _, fl_M_13, cM_0, by decide, rfl⟩
theorem aM_2 : AI YM 2 (.int) 2400 := ⟨by decide, cM_2, by decide⟩
/-! the reference reads a rule: what lies where; values -/
/-- the class's signs as the reference has them -/
def enc (op : Int) : Int := if 32 ≤ op then 16 * (op - 32) else if op ≤ 7 then 1 + 16 * op else if op ≤ 16 then op - 6 else if op = 17 then 12 else if op = 18 then 13 else if op = 19 then 11 else 91
def nM (D : List CLS) (c : CLS) : Int := (((flM D).length + (cuC c).length : Nat) : Int)
theorem nM_le (D : List CLS) (c : CLS) : 0 ≤ nM D c ∧ nM D c ≤ nC D c := by
  unfold nM nC
  have := flM_le D
  omega
theorem nM_len (D : List CLS) (c : CLS) : nM D c = (((flM D ++ cuC c).map enc).length : Int) := by unfold nM; simp
theorem nM_emt (D : List CLS) (op : Int) (c : CLS) : nM D (emt op c) = nM D c + 1 := by
  unfold nM; rw [cuC_emt]; simp; omega
/-- the reference's reader stands so -/
def RM (μ : Mem) (A : Int → Int) (n t k cl vl : Int) (D : List CLS) (c : CLS) : Prop :=
  μ 1 = A ∧ μ 0 1 = n ∧ TX A n ∧ μ 0 13 = k ∧ μ 0 14 = 0 ∧ (μ 0 16 = t ∧ 0 ≤ t ∧ t < 6) ∧ μ 0 17 = vl ∧ μ 0 19 = cl ∧ LST (μ 2) (400 * t) ((flM D ++ cuC c).map enc) ∧ μ 3 t = nM D c
/-- its open signs -/
def OST (μ : Mem) (w : List Int) : Prop := μ 0 21 = (w.length : Int) ∧ μ 0 18 = dpn w ∧ WST (μ 8) (w.map enc)
abbrev Wsm (t : Int) (c : Nat) (i : Int) : Prop := (c = 0 ∧ (i = 13 ∨ i = 14 ∨ i = 15 ∨ i = 17)) ∨ (c = 2 ∧ 400 * t ≤ i ∧ i < 400 * t + 400) ∨ (c = 3 ∧ i = t)
theorem OST.sm {μ ν : Mem} {t : Int} {w : List Int} (h : OST μ w) (f : Fr (Wsm t) μ ν) : OST ν w := by
  unfold OST
  rw [f 0 21 (by unfold Wsm; omega), f 0 18 (by unfold Wsm; omega), f.row (c := 8) (fun i q => by unfold Wsm at q; omega)]
  exact h
abbrev Wpu (t : Int) (c : Nat) (i : Int) : Prop := (c = 2 ∧ 400 * t ≤ i ∧ i < 400 * t + 400) ∨ (c = 3 ∧ i = t)
section RMS
variable {μ μ' m : Mem} {A : Int → Int} {n t k k' cl cl' vl vl' op : Int} {D : List CLS} {c : CLS}
theorem RM.upd (h : RM μ A n t k cl vl D c) (f : Fr (fun c i => c = 0 ∧ ¬ (i = 1 ∨ i = 14 ∨ i = 16)) μ μ') (a1 : μ' 0 13 = k') (a2 : μ' 0 17 = vl') (a3 : μ' 0 19 = cl') : RM μ' A n t k' cl' vl' D c := by
  obtain ⟨hA, hn, hX, hk, hw, ht, hv, hc, hL, hl⟩ := h
  exact ⟨(f.row (fun i q => by omega)).trans hA, (f 0 1 (by omega)).trans hn, hX, a1, (f 0 14 (by omega)).trans hw, ⟨(f 0 16 (by omega)).trans ht.1, ht.2⟩, a2, a3, LST_keep hL (fun i i0 i1 => f 2 i (by omega)), (f 3 t (by omega)).trans hl⟩
theorem RM.emit (h : RM μ A n t k cl vl D c) (f : Fr (Wpu t) μ m) (lm : LST (m 2) (400 * t) ((flM D ++ cuC c).map enc ++ [enc op])) (lm2 : m 3 t = (((flM D ++ cuC c).map enc).length : Int) + 1) : RM m A n t k cl vl D (emt op c) := by
  obtain ⟨hA, hn, hX, hk, hw, ht, hv, hc, hL, hl⟩ := h
  refine ⟨(f.row (fun i q => by unfold Wpu at q; omega)).trans hA, (f 0 1 (by unfold Wpu; omega)).trans hn, hX, (f 0 13 (by unfold Wpu; omega)).trans hk, (f 0 14 (by unfold Wpu; omega)).trans hw, ⟨(f 0 16 (by unfold Wpu; omega)).trans ht.1, ht.2⟩, (f 0 17 (by unfold Wpu; omega)).trans hv, (f 0 19 (by unfold Wpu; omega)).trans hc, ?_, ?_⟩
  · rw [cuC_emt, ← List.append_assoc, List.map_append]; exact lm
  · rw [nM_emt, nM_len]; exact lm2
end RMS
/-- a clause's sum stays, once its test has begun -/
def PF (c c' : CLS) : Prop := c.2 ≠ none → (c'.2 ≠ none ∧ c'.1 = c.1)
theorem PF.refl (c : CLS) : PF c c := fun h => ⟨h, rfl⟩
theorem PF.trans {a b c : CLS} (h : PF a b) (g : PF b c) : PF a c := fun q => ⟨(g (h q).1).1, (g (h q).1).2.trans (h q).2⟩
theorem PF_emt (op : Int) (c : CLS) : PF c (emt op c) := fun h => by
  refine ⟨fun q => h ((emt_ct op c).mp q), ?_⟩
  unfold emt
  rcases c with ⟨a, t⟩
  cases t with
  | none => exact absurd rfl h
  | some u => rfl
theorem see_sgn {A : Int → Int} {n q x : Int} (hX : TX A n) (h0 : 0 ≤ q) (hx : 0 ≤ x ∧ x ≤ 127) : seeV A n q = x ↔ sgn A n q = x := (seeV_eq hX h0 hx).trans (sgn_eq hx.1).symm
theorem enc_num {v : Int} (h : 0 ≤ v) : enc (32 + v) = 0 + 16 * v := by unfold enc; rw [if_pos (by omega)]; omega
theorem enc_word {v : Int} (h : v ≤ 7) : enc v = 1 + 16 * v := by unfold enc; rw [if_neg (by omega), if_pos h]
set_option maxHeartbeats 4000000 in
theorem s_M_puts {μ : Mem} {Q : PV → Mem → Prop} {t a v : Int} {L : List Int} (ht : μ 0 16 = t ∧ 0 ≤ t ∧ t < 6) (hL : LST (μ 2) (400 * t) L) (hl : μ 3 t = (L.length : Int)) (hlen : (L.length : Int) < 400) (hQ : ∀ μ', Fr (Wpu t) μ μ' → LST (μ' 2) (400 * t) (L ++ [a + 16 * v]) → μ' 3 t = (L.length : Int) + 1 → Q vU μ') : Rj YM y_M_puts 0 [vA 0, vI a, vI v] [] μ Q := by
  refine Rj_aload_n (q := 1) d_M_puts_0 rfl rfl rfl ?_
  refine Rj_gr (q := 4) (zd := 2) gM_M_13_0 rfl rfl d_M_puts_1 rfl ?_
  refine Rj_sipush (q := 7) d_M_puts_4 rfl (by decide +kernel) ?_
  refine Rj_aload_n (q := 8) d_M_puts_7 rfl rfl rfl ?_
  refine Rj_gi (q := 11) (ki := 16) (v := t) gM_M_158_0 rfl rfl ht.1 d_M_puts_8 rfl ?_
  refine Rj_imul (q := 12) d_M_puts_11 rfl ?_
  refine Rj_aload_n (q := 13) d_M_puts_12 rfl rfl rfl ?_
  refine Rj_gr (q := 16) (zd := 3) gM_M_17_0 rfl rfl d_M_puts_13 rfl ?_
  refine Rj_aload_n (q := 17) d_M_puts_16 rfl rfl rfl ?_
  refine Rj_gi (q := 20) (ki := 16) (v := t) gM_M_158_0 rfl rfl ht.1 d_M_puts_17 rfl ?_
  refine Rj_ia (q := 21) (v := (L.length : Int)) aM_3 rfl (by omega) hl d_M_puts_20 rfl ?_
  refine Rj_iadd (q := 22) d_M_puts_21 rfl ?_
  refine Rj_iload_n (q := 23) d_M_puts_22 rfl rfl rfl ?_
  refine Rj_bipush (q := 25) d_M_puts_23 rfl (by decide +kernel) ?_
  refine Rj_iload_n (q := 26) d_M_puts_25 rfl rfl rfl ?_
  refine Rj_imul (q := 27) d_M_puts_26 rfl ?_
  refine Rj_iadd (q := 28) d_M_puts_27 rfl ?_
  refine Rj_is (q := 29) aM_2 rfl (by omega) d_M_puts_28 rfl ?_
  refine Rj_aload_n (q := 30) d_M_puts_29 rfl rfl rfl ?_
  refine Rj_gr (q := 33) (zd := 3) gM_M_17_0 rfl rfl d_M_puts_30 rfl ?_
  refine Rj_aload_n (q := 34) d_M_puts_33 rfl rfl rfl ?_
  refine Rj_gi (q := 37) (ki := 16) (v := t) gM_M_158_0 rfl rfl ht.1 d_M_puts_34 rfl ?_
  refine Rj_dup2 (q := 38) d_M_puts_37 rfl (by intro h; cases h) (by intro h; cases h) ?_
  refine Rj_ia (q := 39) (v := (L.length : Int)) aM_3 rfl (by omega) ((mset_o (by omega)).trans hl) d_M_puts_38 rfl ?_
  refine Rj_iconst (q := 40) d_M_puts_39 rfl ?_
  refine Rj_iadd (q := 41) d_M_puts_40 rfl ?_
  refine Rj_is (q := 42) aM_3 rfl (by omega) d_M_puts_41 rfl ?_
  refine Rj_vret d_M_puts_42 rfl ?_
  exact hQ _ (Fr.put (Fr.put (Fr.refl _ _) (Or.inl ⟨rfl, by omega, by omega⟩)) (Or.inr ⟨rfl, rfl⟩)) (LST_snoc.mpr ⟨LST_keep hL (fun i i0 i1 => (mset_o (by omega)).trans (mset_o (by omega))), (mset_o (by omega)).trans (mset_same _ _ _ _)⟩) (mset_same _ _ _ _)
set_option maxHeartbeats 4000000 in
theorem s_M_wordHere {μ : Mem} {Q : PV → Mem → Prop} {A : Int → Int} {n k : Int} (hX : TX A n) (hA : μ 1 = A) (hn : μ 0 1 = n) (hk : μ 0 13 = k) (h0 : 0 ≤ k ∧ k ≤ n) (hs : sk A n k = k) (hQ : Q (vI (wix A n k)) μ) : Rj YM y_M_wordHere 0 [vA 0] [] μ Q := by
  have hX1 := hX.1
  refine Rj_aload_n (q := 1) d_M_wordHere_0 rfl rfl rfl ?_
  refine Rj_ldc2 (q := 4) k_M_142 d_M_wordHere_1 rfl ?_
  refine Rj_vo (q := 7) (z := y_M_isWord) (as := [vL 1685024626]) (rest := []) (la := [vA 0, vL 1685024626, vU]) oM_0_M_isWord ml_M_121 mw_M_isWord mv_M_isWord rfl d_M_wordHere_4 rfl rfl rfl rfl rfl ?_
  refine s_M_isWord (μ := μ) (A := A) (n := n) (k := k) hX hA hn hk (by omega) (w := 1685024626) (by decide) ?_
  rw [hs]
  by_cases w4 : wat A n k 1685024626 = true
  · rw [bI_t w4]
    refine Rj_eqm (μ' := μ) (mset_idv hk) ?_
    refine Rj_if_eq (q := 10) (t := 12) d_M_wordHere_7 rfl (by decide) (by decide) (fun c => absurd c (by decide)) (fun _ => ?_)
    refine Rj_iconst (q := 11) d_M_wordHere_10 rfl ?_
    refine Rj_iret d_M_wordHere_11 rfl ?_
    exact fin_I hQ (by unfold wix; rw [if_pos w4])
  · rw [bI_f (bool_f w4)]
    refine Rj_eqm (μ' := μ) (mset_idv hk) ?_
    refine Rj_if_eq (q := 10) (t := 12) d_M_wordHere_7 rfl (by decide) (by decide) (fun _ => ?_) (fun c => absurd c (by decide))
    refine Rj_aload_n (q := 13) d_M_wordHere_12 rfl rfl rfl ?_
    refine Rj_ldc2 (q := 16) k_M_144 d_M_wordHere_13 rfl ?_
    refine Rj_vo (q := 19) (z := y_M_isWord) (as := [vL 499917354088]) (rest := []) (la := [vA 0, vL 499917354088, vU]) oM_0_M_isWord ml_M_121 mw_M_isWord mv_M_isWord rfl d_M_wordHere_16 rfl rfl rfl rfl rfl ?_
    refine s_M_isWord (μ := μ) (A := A) (n := n) (k := k) hX hA hn hk (by omega) (w := 499917354088) (by decide) ?_
    rw [hs]
    by_cases w16 : wat A n k 499917354088 = true
    · rw [bI_t w16]
      refine Rj_eqm (μ' := μ) (mset_idv hk) ?_
      refine Rj_if_eq (q := 22) (t := 24) d_M_wordHere_19 rfl (by decide) (by decide) (fun c => absurd c (by decide)) (fun _ => ?_)
      refine Rj_iconst (q := 23) d_M_wordHere_22 rfl ?_
      refine Rj_iret d_M_wordHere_23 rfl ?_
      exact fin_I hQ (by unfold wix; rw [if_neg w4, if_pos w16])
    · rw [bI_f (bool_f w16)]
      refine Rj_eqm (μ' := μ) (mset_idv hk) ?_
      refine Rj_if_eq (q := 22) (t := 24) d_M_wordHere_19 rfl (by decide) (by decide) (fun _ => ?_) (fun c => absurd c (by decide))
      refine Rj_aload_n (q := 25) d_M_wordHere_24 rfl rfl rfl ?_
      refine Rj_ldc2 (q := 28) k_M_146 d_M_wordHere_25 rfl ?_
      refine Rj_vo (q := 31) (z := y_M_isWord) (as := [vL 1936744814]) (rest := []) (la := [vA 0, vL 1936744814, vU]) oM_0_M_isWord ml_M_121 mw_M_isWord mv_M_isWord rfl d_M_wordHere_28 rfl rfl rfl rfl rfl ?_
      refine s_M_isWord (μ := μ) (A := A) (n := n) (k := k) hX hA hn hk (by omega) (w := 1936744814) (by decide) ?_
      rw [hs]
      by_cases w28 : wat A n k 1936744814 = true
      · rw [bI_t w28]
        refine Rj_eqm (μ' := μ) (mset_idv hk) ?_
        refine Rj_if_eq (q := 34) (t := 36) d_M_wordHere_31 rfl (by decide) (by decide) (fun c => absurd c (by decide)) (fun _ => ?_)
        refine Rj_iconst (q := 35) d_M_wordHere_34 rfl ?_
        refine Rj_iret d_M_wordHere_35 rfl ?_
        exact fin_I hQ (by unfold wix; rw [if_neg w4, if_neg w16, if_pos w28])
      · rw [bI_f (bool_f w28)]
        refine Rj_eqm (μ' := μ) (mset_idv hk) ?_
        refine Rj_if_eq (q := 34) (t := 36) d_M_wordHere_31 rfl (by decide) (by decide) (fun _ => ?_) (fun c => absurd c (by decide))
        refine Rj_aload_n (q := 37) d_M_wordHere_36 rfl rfl rfl ?_
        refine Rj_ldc2 (q := 40) k_M_148 d_M_wordHere_37 rfl ?_
        refine Rj_vo (q := 43) (z := y_M_isWord) (as := [vL 482854658917]) (rest := []) (la := [vA 0, vL 482854658917, vU]) oM_0_M_isWord ml_M_121 mw_M_isWord mv_M_isWord rfl d_M_wordHere_40 rfl rfl rfl rfl rfl ?_
        refine s_M_isWord (μ := μ) (A := A) (n := n) (k := k) hX hA hn hk (by omega) (w := 482854658917) (by decide) ?_
        rw [hs]
        by_cases w40 : wat A n k 482854658917 = true
        · rw [bI_t w40]
          refine Rj_eqm (μ' := μ) (mset_idv hk) ?_
          refine Rj_if_eq (q := 46) (t := 48) d_M_wordHere_43 rfl (by decide) (by decide) (fun c => absurd c (by decide)) (fun _ => ?_)
          refine Rj_iconst (q := 47) d_M_wordHere_46 rfl ?_
          refine Rj_iret d_M_wordHere_47 rfl ?_
          exact fin_I hQ (by unfold wix; rw [if_neg w4, if_neg w16, if_neg w28, if_pos w40])
        · rw [bI_f (bool_f w40)]
          refine Rj_eqm (μ' := μ) (mset_idv hk) ?_
          refine Rj_if_eq (q := 46) (t := 48) d_M_wordHere_43 rfl (by decide) (by decide) (fun _ => ?_) (fun c => absurd c (by decide))
          refine Rj_aload_n (q := 49) d_M_wordHere_48 rfl rfl rfl ?_
          refine Rj_ldc2 (q := 52) k_M_150 d_M_wordHere_49 rfl ?_
          refine Rj_vo (q := 55) (z := y_M_isWord) (as := [vL 1869636974]) (rest := []) (la := [vA 0, vL 1869636974, vU]) oM_0_M_isWord ml_M_121 mw_M_isWord mv_M_isWord rfl d_M_wordHere_52 rfl rfl rfl rfl rfl ?_
          refine s_M_isWord (μ := μ) (A := A) (n := n) (k := k) hX hA hn hk (by omega) (w := 1869636974) (by decide) ?_
          rw [hs]
          by_cases w52 : wat A n k 1869636974 = true
          · rw [bI_t w52]
            refine Rj_eqm (μ' := μ) (mset_idv hk) ?_
            refine Rj_if_eq (q := 58) (t := 60) d_M_wordHere_55 rfl (by decide) (by decide) (fun c => absurd c (by decide)) (fun _ => ?_)
            refine Rj_iconst (q := 59) d_M_wordHere_58 rfl ?_
            refine Rj_iret d_M_wordHere_59 rfl ?_
            exact fin_I hQ (by unfold wix; rw [if_neg w4, if_neg w16, if_neg w28, if_neg w40, if_pos w52])
          · rw [bI_f (bool_f w52)]
            refine Rj_eqm (μ' := μ) (mset_idv hk) ?_
            refine Rj_if_eq (q := 58) (t := 60) d_M_wordHere_55 rfl (by decide) (by decide) (fun _ => ?_) (fun c => absurd c (by decide))
            refine Rj_aload_n (q := 61) d_M_wordHere_60 rfl rfl rfl ?_
            refine Rj_ldc2 (q := 64) k_M_152 d_M_wordHere_61 rfl ?_
            refine Rj_vo (q := 67) (z := y_M_isWord) (as := [vL 478627065459]) (rest := []) (la := [vA 0, vL 478627065459, vU]) oM_0_M_isWord ml_M_121 mw_M_isWord mv_M_isWord rfl d_M_wordHere_64 rfl rfl rfl rfl rfl ?_
            refine s_M_isWord (μ := μ) (A := A) (n := n) (k := k) hX hA hn hk (by omega) (w := 478627065459) (by decide) ?_
            rw [hs]
            by_cases w64 : wat A n k 478627065459 = true
            · rw [bI_t w64]
              refine Rj_eqm (μ' := μ) (mset_idv hk) ?_
              refine Rj_if_eq (q := 70) (t := 72) d_M_wordHere_67 rfl (by decide) (by decide) (fun c => absurd c (by decide)) (fun _ => ?_)
              refine Rj_iconst (q := 71) d_M_wordHere_70 rfl ?_
              refine Rj_iret d_M_wordHere_71 rfl ?_
              exact fin_I hQ (by unfold wix; rw [if_neg w4, if_neg w16, if_neg w28, if_neg w40, if_neg w52, if_pos w64])
            · rw [bI_f (bool_f w64)]
              refine Rj_eqm (μ' := μ) (mset_idv hk) ?_
              refine Rj_if_eq (q := 70) (t := 72) d_M_wordHere_67 rfl (by decide) (by decide) (fun _ => ?_) (fun c => absurd c (by decide))
              refine Rj_aload_n (q := 73) d_M_wordHere_72 rfl rfl rfl ?_
              refine Rj_ldc2 (q := 76) k_M_154 d_M_wordHere_73 rfl ?_
              refine Rj_vo (q := 79) (z := y_M_isWord) (as := [vL 457135713907]) (rest := []) (la := [vA 0, vL 457135713907, vU]) oM_0_M_isWord ml_M_121 mw_M_isWord mv_M_isWord rfl d_M_wordHere_76 rfl rfl rfl rfl rfl ?_
              refine s_M_isWord (μ := μ) (A := A) (n := n) (k := k) hX hA hn hk (by omega) (w := 457135713907) (by decide) ?_
              rw [hs]
              by_cases w76 : wat A n k 457135713907 = true
              · rw [bI_t w76]
                refine Rj_eqm (μ' := μ) (mset_idv hk) ?_
                refine Rj_if_eq (q := 82) (t := 87) d_M_wordHere_79 rfl (by decide) (by decide) (fun c => absurd c (by decide)) (fun _ => ?_)
                refine Rj_bipush (q := 84) d_M_wordHere_82 rfl (by decide +kernel) ?_
                refine Rj_goto (t := 103) d_M_wordHere_84 (by decide) ?_
                refine Rj_iret d_M_wordHere_103 rfl ?_
                exact fin_I hQ (by unfold wix; rw [if_neg w4, if_neg w16, if_neg w28, if_neg w40, if_neg w52, if_neg w64, if_pos w76])
              · rw [bI_f (bool_f w76)]
                refine Rj_eqm (μ' := μ) (mset_idv hk) ?_
                refine Rj_if_eq (q := 82) (t := 87) d_M_wordHere_79 rfl (by decide) (by decide) (fun _ => ?_) (fun c => absurd c (by decide))
                refine Rj_aload_n (q := 88) d_M_wordHere_87 rfl rfl rfl ?_
                refine Rj_ldc2 (q := 91) k_M_156 d_M_wordHere_88 rfl ?_
                refine Rj_vo (q := 94) (z := y_M_isWord) (as := [vL 109330228145767]) (rest := []) (la := [vA 0, vL 109330228145767, vU]) oM_0_M_isWord ml_M_121 mw_M_isWord mv_M_isWord rfl d_M_wordHere_91 rfl rfl rfl rfl rfl ?_
                refine s_M_isWord (μ := μ) (A := A) (n := n) (k := k) hX hA hn hk (by omega) (w := 109330228145767) (by decide) ?_
                rw [hs]
                by_cases w91 : wat A n k 109330228145767 = true
                · rw [bI_t w91]
                  refine Rj_eqm (μ' := μ) (mset_idv hk) ?_
                  refine Rj_if_eq (q := 97) (t := 102) d_M_wordHere_94 rfl (by decide) (by decide) (fun c => absurd c (by decide)) (fun _ => ?_)
                  refine Rj_bipush (q := 99) d_M_wordHere_97 rfl (by decide +kernel) ?_
                  refine Rj_goto (t := 103) d_M_wordHere_99 (by decide) ?_
                  refine Rj_iret d_M_wordHere_103 rfl ?_
                  exact fin_I hQ (by unfold wix; rw [if_neg w4, if_neg w16, if_neg w28, if_neg w40, if_neg w52, if_neg w64, if_neg w76, if_pos w91])
                · rw [bI_f (bool_f w91)]
                  refine Rj_eqm (μ' := μ) (mset_idv hk) ?_
                  refine Rj_if_eq (q := 97) (t := 102) d_M_wordHere_94 rfl (by decide) (by decide) (fun _ => ?_) (fun c => absurd c (by decide))
                  refine Rj_iconst (q := 103) d_M_wordHere_102 rfl ?_
                  refine Rj_iret d_M_wordHere_103 rfl ?_
                  exact fin_I hQ (by unfold wix; rw [if_neg w4, if_neg w16, if_neg w28, if_neg w40, if_neg w52, if_neg w64, if_neg w76, if_neg w91])
