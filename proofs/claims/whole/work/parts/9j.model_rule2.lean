theorem oM_0_M_makes : OI YM 0 y_M_makes := ⟨by decide, _, _, _, cM_0, rfl⟩
theorem gM_M_161_0 : GI YM "DoorsOnCogsModel" 161 0 17 none := ⟨by decide, _, _, _, fl_M_161, cM_0, by decide, rfl⟩
theorem oM_0_M_puts : OI YM 0 y_M_puts := ⟨by decide, _, _, _, cM_0, rfl⟩
theorem oM_0_M_wordHere : OI YM 0 y_M_wordHere := ⟨by decide, _, _, _, cM_0, rfl⟩
/-! the reference reads a rule: values, terms, sums -/
theorem vat_pNum {A : Int → Int} {n q : Int} (hs : sk A n q = q) (hd : q < n ∧ isDg A q = true) : (∀ e v, pNum A n q 0 99999 = .ok (e, v) → vat A n q = .ok (32 + v, e) ∧ 0 ≤ v ∧ v ≤ 99999) ∧ (∀ wr, pNum A n q 0 99999 = .error wr → vat A n q = .error wr) := by
  have db := dval_bd (A := A) (n := n) (k := q)
  by_cases h5 : dend A n q - q ≤ 5
  · have e1 : pNum A n q 0 99999 = .ok (dend A n q, dval A q (dend A n q)) := by
      unfold pNum
      rw [hs, if_pos hd, if_pos ⟨h5, by omega, by omega⟩]
    rw [e1, vat_dig hd h5]
    refine ⟨fun e v h => ?_, fun wr h => (by cases h)⟩
    cases h
    exact ⟨rfl, db⟩
  · have e1 : pNum A n q 0 99999 = .error (1 + 8 * q + 1) := by
      unfold pNum
      rw [hs, if_pos hd, if_neg (fun h => h5 h.1)]
    rw [e1, vat_long hd h5]
    refine ⟨fun e v h => (by cases h), fun wr h => ?_⟩
    cases h
    rfl
theorem vat_err1 {A : Int → Int} {n q wr : Int} (hd : q < n ∧ isDg A q = true) (h : vat A n q = .error wr) : wr = 1 + 8 * q + 1 := by
  by_cases h5 : dend A n q - q ≤ 5
  · rw [vat_dig hd h5] at h; cases h
  · rw [vat_long hd h5] at h; cases h; rfl
set_option maxHeartbeats 4000000 in
theorem s_M_value {μ : Mem} {Q : PV → Mem → Prop} {A : Int → Int} {n t k cl vl nx : Int} {w : List Int} {D : List CLS} {c : CLS} (hC : RM μ A n t k cl vl D c) (hI : IV n k w cl vl nx D c) (hx : nx % 2 = 0) (ho : ¬ (nx = 6 ∧ isOpn A n (sk A n k))) (hE : ∀ e μ', RUN A n k w cl vl nx D c (.error e) → Fr (Wsm t) μ μ' → μ' 0 14 = e → (1 ≤ e ∧ e ≤ 5000) → Q (vI 0) μ') (hG : ∀ μ' k' c', (∀ x, RUN A n k' w cl (vl + 1) (if nx = 6 then 3 else nx + 1) D c' x → RUN A n k w cl vl nx D c x) → Fr (Wsm t) μ μ' → RM μ' A n t k' cl (vl + 1) D c' → IV n k' w cl (vl + 1) (if nx = 6 then 3 else nx + 1) D c' → k < k' → PF c c' → Q (vI 1) μ') : Rj YM y_M_value 0 [vA 0] [] μ Q := by
  obtain ⟨hA, hn, hX, hk, hw0, ht, hv, hc, hL, hl⟩ := id hC
  obtain ⟨i1, i2, i3, i4, i5, i6, i7, i8⟩ := id hI
  have nn := nM_le D c
  have hX1 := hX.1
  refine Rj_aload_n (q := 1) d_M_value_0 rfl rfl rfl ?_
  refine Rj_vo (q := 4) (z := y_M_see) (as := []) (rest := []) (la := [vA 0]) oM_0_M_see ml_M_113 mw_M_see mv_M_see rfl d_M_value_1 rfl rfl rfl rfl rfl ?_
  refine s_M_see (μ := μ) (A := A) (n := n) (k := k) hX hA hn hk (by omega) ?_
  have r1 := sk_bd A (n := n) (k := k) (by omega)
  have v1 := seeV_32 (n := n) hX (k := sk A n k) (by omega)
  refine Rj_pop (q := 5) d_M_value_4 rfl (by intro h; cases h) ?_
  refine Rj_aload_n (q := 6) d_M_value_5 rfl rfl rfl ?_
  refine Rj_gi (q := 9) (ki := 13) (v := sk A n k) gM_M_110_0 rfl rfl rfl d_M_value_6 rfl ?_
  refine Rj_istore_n (q := 10) (ls' := [vA 0, vI (sk A n k)]) d_M_value_9 rfl rfl (by decide) rfl ?_
  refine Rj_aload_n (q := 11) d_M_value_10 rfl rfl rfl ?_
  refine Rj_aload_n (q := 12) d_M_value_11 rfl rfl rfl ?_
  refine Rj_gi (q := 15) (ki := 13) (v := sk A n k) gM_M_110_0 rfl rfl rfl d_M_value_12 rfl ?_
  refine Rj_vo (q := 18) (z := y_M_isDigit) (as := [vI (sk A n k)]) (rest := []) (la := [vA 0, vI (sk A n k)]) oM_0_M_isDigit ml_M_128 mw_M_isDigit mv_M_isDigit rfl d_M_value_15 rfl rfl rfl rfl rfl ?_
  refine s_M_isDigit (μ := (mset μ 0 13 (sk A n k))) (A := A) (n := n) hX hA hn (k := sk A n k) (by omega) ?_
  by_cases hdg : sk A n k < n ∧ isDg A (sk A n k) = true
  · rw [bI_t (decide_eq_true hdg)]
    refine Rj_if_eq (q := 21) (t := 52) d_M_value_18 rfl (by decide) (by decide) (fun c => absurd c (by decide)) (fun _ => ?_)
    refine Rj_aload_n (q := 22) d_M_value_21 rfl rfl rfl ?_
    refine Rj_iconst (q := 23) d_M_value_22 rfl ?_
    refine Rj_ldc (q := 25) k_M_178 d_M_value_23 rfl ?_
    refine Rj_vo (q := 28) (z := y_M_numberHere) (as := [vI 0, vI 99999]) (rest := []) (la := [vA 0, vI 0, vI 99999]) oM_0_M_numberHere ml_M_179 mw_M_numberHere mv_M_numberHere rfl d_M_value_25 rfl rfl rfl rfl rfl ?_
    obtain ⟨vn1, vn2⟩ := vat_pNum (sk_idem A n k) hdg
    refine s_M_numberHere (μ := (mset μ 0 13 (sk A n k))) (A := A) (n := n) (k := sk A n k) hX hA hn rfl (by omega) hw0 (by decide) (fun e v q1 q2 q3 => ?_) (fun wr m q1 q2 q3 => ?_)
    · obtain ⟨va, va2, va3⟩ := vn1 e v q1
      have esk := sk_idem A n k
      rw [esk] at q3
      rw [mset_mset]
      refine Rj_if_eq (q := 31) (t := 39) d_M_value_28 rfl (by decide) (by decide) (fun c => absurd c (by decide)) (fun _ => ?_)
      refine Rj_aload_n (q := 32) d_M_value_31 rfl rfl rfl ?_
      refine Rj_iload_n (q := 33) d_M_value_32 rfl rfl rfl ?_
      refine Rj_vo (q := 36) (z := y_M_makes) (as := [vI (sk A n k)]) (rest := []) (la := [vA 0, vI (sk A n k)]) oM_0_M_makes ml_M_182 mw_M_makes mv_M_makes rfl d_M_value_33 rfl rfl rfl rfl rfl ?_
      refine Rj_aload_n (q := 1) d_M_makes_0 rfl rfl rfl ?_
      refine Rj_gi (q := 4) (ki := 17) (v := vl) gM_M_161_0 rfl rfl hv d_M_makes_1 rfl ?_
      refine Rj_bipush (q := 6) d_M_makes_4 rfl (by decide +kernel) ?_
      refine Rj_icmp_ne (q := 9) (t := 16) d_M_makes_6 rfl (by decide) ⟨by omega, by omega⟩ (by decide) (fun c33_6 => ?_) (fun c33_6 => ?_)
      · refine Rj_aload_n (q := 17) d_M_makes_16 rfl rfl rfl ?_
        refine Rj_dup (q := 18) d_M_makes_17 rfl (by intro h; cases h) ?_
        refine Rj_gi (q := 21) (ki := 17) (v := vl) gM_M_161_0 rfl rfl hv d_M_makes_18 rfl ?_
        refine Rj_iconst (q := 22) d_M_makes_21 rfl ?_
        refine Rj_iadd (q := 23) d_M_makes_22 rfl ?_
        refine Rj_pi (q := 26) (ki := 17) pM_M_161_0 rfl rfl d_M_makes_23 rfl ?_
        refine Rj_iconst (q := 27) d_M_makes_26 rfl ?_
        refine Rj_bret1 d_M_makes_27 rfl ?_
        refine Rj_if_ne (q := 39) (t := 41) d_M_value_36 rfl (by decide) (by decide) (fun _ => ?_) (fun c => absurd c (by decide))
        refine Rj_aload_n (q := 42) d_M_value_41 rfl rfl rfl ?_
        refine Rj_iconst (q := 43) d_M_value_42 rfl ?_
        refine Rj_aload_n (q := 44) d_M_value_43 rfl rfl rfl ?_
        refine Rj_gi (q := 47) (ki := 15) (v := v) gM_M_135_0 rfl rfl rfl d_M_value_44 rfl ?_
        refine Rj_vov (q := 50) (z := y_M_puts) (as := [vI 0, vI v]) (rest := []) (la := [vA 0, vI 0, vI v]) oM_0_M_puts ml_M_174 mw_M_puts mv_M_puts rfl d_M_value_47 rfl rfl rfl rfl rfl ?_
        have cv : RM ((mset (mset (mset μ 0 13 e) 0 15 v) 0 17 (vl + 1))) A n t (e) cl (vl + 1) D c := hC.upd (Fr.put (Fr.put (Fr.put (Fr.refl _ _) (by omega)) (by omega)) (by omega)) rfl rfl hc
        refine s_M_puts cv.2.2.2.2.2.1 cv.2.2.2.2.2.2.2.2.1 (cv.2.2.2.2.2.2.2.2.2.trans (nM_len D c)) (by rw [← nM_len]; omega) (fun m fm lm lm2 => ?_)
        have cm := cv.emit (op := 32 + v) fm (by rw [enc_num va2]; exact lm) lm2
        have fr1 : Fr (Wsm t) μ m := Fr.trans (Fr.put (Fr.put (Fr.put (Fr.refl _ _) (by unfold Wsm; omega)) (by unfold Wsm; omega)) (by unfold Wsm; omega)) (Fr.wide fm (fun c i q => by unfold Wpu at q; unfold Wsm; omega))
        refine Rj_iconst (q := 51) d_M_value_50 rfl ?_
        refine Rj_bret1 d_M_value_51 rfl ?_
        exact hG m (e) (emt (32 + v) c) (fun x g => RUN_val rfl hx ho (va) (by omega) rfl g) fr1 cm ((hI.emit (by omega) (by omega) (by omega)).at (by split <;> omega) (by split <;> omega)) (by omega) (PF_emt _ _)
      · refine Rj_aload_n (q := 10) d_M_makes_9 rfl rfl rfl ?_
        refine Rj_iconst (q := 11) d_M_makes_10 rfl ?_
        refine Rj_iload_n (q := 12) d_M_makes_11 rfl rfl rfl ?_
        refine Rj_vo (q := 15) (z := y_M_fails) (as := [vI 3, vI (sk A n k)]) (rest := []) (la := [vA 0, vI 3, vI (sk A n k)]) oM_0_M_fails ml_M_131 mw_M_fails mv_M_fails rfl d_M_makes_12 rfl rfl rfl rfl rfl ?_
        refine s_M_fails hw0 ?_
        refine Rj_bret0 d_M_makes_15 rfl ?_
        refine Rj_if_ne (q := 39) (t := 41) d_M_value_36 rfl (by decide) (by decide) (fun c => absurd c (by decide)) (fun _ => ?_)
        refine Rj_iconst (q := 40) d_M_value_39 rfl ?_
        refine Rj_bret0 d_M_value_40 rfl ?_
        exact hE (1 + 8 * (sk A n k) + 3) _ (RUN_vmany rfl hx ho (va) (by omega)) (Fr.put (Fr.put (Fr.put (Fr.refl _ _) (by unfold Wsm; omega)) (by unfold Wsm; omega)) (by unfold Wsm; omega)) rfl (by omega)
    · have va := vn2 wr q1
      have we : wr = 1 + 8 * sk A n k + 1 := by rw [vat_err1 hdg va]
      have fr1 : Fr (Wsm t) μ m := Fr.trans (Fr.put (Fr.refl _ _) (by unfold Wsm; omega)) (Fr.wide q2 (fun c i q => by unfold Wnum at q; unfold Wsm; omega))
      refine Rj_if_eq (q := 31) (t := 39) d_M_value_28 rfl (by decide) (by decide) (fun _ => ?_) (fun c => absurd c (by decide))
      refine Rj_iconst (q := 40) d_M_value_39 rfl ?_
      refine Rj_bret0 d_M_value_40 rfl ?_
      exact hE wr m (RUN_vbad rfl hx ho va) fr1 q3 (by omega)
  · rw [bI_f (decide_eq_false hdg)]
    refine Rj_if_eq (q := 21) (t := 52) d_M_value_18 rfl (by decide) (by decide) (fun _ => ?_) (fun c => absurd c (by decide))
    refine Rj_aload_n (q := 53) d_M_value_52 rfl rfl rfl ?_
    refine Rj_vo (q := 56) (z := y_M_wordHere) (as := []) (rest := []) (la := [vA 0]) oM_0_M_wordHere ml_M_185 mw_M_wordHere mv_M_wordHere rfl d_M_value_53 rfl rfl rfl rfl rfl ?_
    have wr := wix_rng A n (sk A n k)
    refine s_M_wordHere (μ := (mset μ 0 13 (sk A n k))) (A := A) (n := n) (k := sk A n k) hX hA hn rfl (by omega) (sk_idem _ _ _) ?_
    refine Rj_istore_n (q := 57) (ls' := [vA 0, vI (sk A n k), vI (wix A n (sk A n k))]) d_M_value_56 rfl rfl (by decide) rfl ?_
    refine Rj_iload_n (q := 58) d_M_value_57 rfl rfl rfl ?_
    refine Rj_if_ge (q := 61) (t := 68) d_M_value_58 rfl (by decide) ⟨by omega, by omega⟩ (fun c58 => ?_) (fun c58 => ?_)
    · refine Rj_aload_n (q := 69) d_M_value_68 rfl rfl rfl ?_
      refine Rj_iload_n (q := 70) d_M_value_69 rfl rfl rfl ?_
      refine Rj_vo (q := 73) (z := y_M_makes) (as := [vI (sk A n k)]) (rest := []) (la := [vA 0, vI (sk A n k)]) oM_0_M_makes ml_M_182 mw_M_makes mv_M_makes rfl d_M_value_70 rfl rfl rfl rfl rfl ?_
      refine Rj_aload_n (q := 1) d_M_makes_0 rfl rfl rfl ?_
      refine Rj_gi (q := 4) (ki := 17) (v := vl) gM_M_161_0 rfl rfl hv d_M_makes_1 rfl ?_
      refine Rj_bipush (q := 6) d_M_makes_4 rfl (by decide +kernel) ?_
      refine Rj_icmp_ne (q := 9) (t := 16) d_M_makes_6 rfl (by decide) ⟨by omega, by omega⟩ (by decide) (fun c70_6 => ?_) (fun c70_6 => ?_)
      · refine Rj_aload_n (q := 17) d_M_makes_16 rfl rfl rfl ?_
        refine Rj_dup (q := 18) d_M_makes_17 rfl (by intro h; cases h) ?_
        refine Rj_gi (q := 21) (ki := 17) (v := vl) gM_M_161_0 rfl rfl hv d_M_makes_18 rfl ?_
        refine Rj_iconst (q := 22) d_M_makes_21 rfl ?_
        refine Rj_iadd (q := 23) d_M_makes_22 rfl ?_
        refine Rj_pi (q := 26) (ki := 17) pM_M_161_0 rfl rfl d_M_makes_23 rfl ?_
        refine Rj_iconst (q := 27) d_M_makes_26 rfl ?_
        refine Rj_bret1 d_M_makes_27 rfl ?_
        refine Rj_if_ne (q := 76) (t := 78) d_M_value_73 rfl (by decide) (by decide) (fun _ => ?_) (fun c => absurd c (by decide))
        refine Rj_aload_n (q := 79) d_M_value_78 rfl rfl rfl ?_
        refine Rj_vov (q := 82) (z := y_M_passWord) (as := []) (rest := []) (la := [vA 0]) oM_0_M_passWord ml_M_125 mw_M_passWord mv_M_passWord rfl d_M_value_79 rfl rfl rfl rfl rfl ?_
        refine s_M_passWord (μ := (mset (mset μ 0 13 (sk A n k)) 0 17 (vl + 1))) (A := A) (n := n) (k := sk A n k) hX hA hn rfl (by omega) ?_
        have lb79 := lend_bd A (n := n) (k := sk A n k) (by omega)
        refine Rj_aload_n (q := 83) d_M_value_82 rfl rfl rfl ?_
        refine Rj_iconst (q := 84) d_M_value_83 rfl ?_
        refine Rj_iload_n (q := 85) d_M_value_84 rfl rfl rfl ?_
        refine Rj_vov (q := 88) (z := y_M_puts) (as := [vI 1, vI (wix A n (sk A n k))]) (rest := []) (la := [vA 0, vI 1, vI (wix A n (sk A n k))]) oM_0_M_puts ml_M_174 mw_M_puts mv_M_puts rfl d_M_value_85 rfl rfl rfl rfl rfl ?_
        have cv : RM ((mset (mset (mset μ 0 13 (sk A n k)) 0 17 (vl + 1)) 0 13 (lend A n (sk A n k)))) A n t (lend A n (sk A n k)) cl (vl + 1) D c := hC.upd (Fr.put (Fr.put (Fr.put (Fr.refl _ _) (by omega)) (by omega)) (by omega)) rfl rfl hc
        refine s_M_puts cv.2.2.2.2.2.1 cv.2.2.2.2.2.2.2.2.1 (cv.2.2.2.2.2.2.2.2.2.trans (nM_len D c)) (by rw [← nM_len]; omega) (fun m fm lm lm2 => ?_)
        have cm := cv.emit (op := wix A n (sk A n k)) fm (by rw [enc_word wr.1]; exact lm) lm2
        have fr1 : Fr (Wsm t) μ m := Fr.trans (Fr.put (Fr.put (Fr.put (Fr.refl _ _) (by unfold Wsm; omega)) (by unfold Wsm; omega)) (by unfold Wsm; omega)) (Fr.wide fm (fun c i q => by unfold Wpu at q; unfold Wsm; omega))
        refine Rj_iconst (q := 89) d_M_value_88 rfl ?_
        refine Rj_bret1 d_M_value_89 rfl ?_
        exact hG m (lend A n (sk A n k)) (emt (wix A n (sk A n k)) c) (fun x g => RUN_val rfl hx ho (vat_word hdg (by omega)) (by omega) rfl g) fr1 cm ((hI.emit (by have := wr.2.2 (by omega); omega) (by omega) (by omega)).at (by split <;> omega) (by split <;> omega)) (by have := wr.2.2 (by omega); omega) (PF_emt _ _)
      · refine Rj_aload_n (q := 10) d_M_makes_9 rfl rfl rfl ?_
        refine Rj_iconst (q := 11) d_M_makes_10 rfl ?_
        refine Rj_iload_n (q := 12) d_M_makes_11 rfl rfl rfl ?_
        refine Rj_vo (q := 15) (z := y_M_fails) (as := [vI 3, vI (sk A n k)]) (rest := []) (la := [vA 0, vI 3, vI (sk A n k)]) oM_0_M_fails ml_M_131 mw_M_fails mv_M_fails rfl d_M_makes_12 rfl rfl rfl rfl rfl ?_
        refine s_M_fails hw0 ?_
        refine Rj_bret0 d_M_makes_15 rfl ?_
        refine Rj_if_ne (q := 76) (t := 78) d_M_value_73 rfl (by decide) (by decide) (fun c => absurd c (by decide)) (fun _ => ?_)
        refine Rj_iconst (q := 77) d_M_value_76 rfl ?_
        refine Rj_bret0 d_M_value_77 rfl ?_
        exact hE (1 + 8 * (sk A n k) + 3) _ (RUN_vmany rfl hx ho (vat_word hdg (by omega)) (by omega)) (Fr.put (Fr.put (Fr.refl _ _) (by unfold Wsm; omega)) (by unfold Wsm; omega)) rfl (by omega)
    · refine Rj_aload_n (q := 62) d_M_value_61 rfl rfl rfl ?_
      refine Rj_iconst (q := 63) d_M_value_62 rfl ?_
      refine Rj_iload_n (q := 64) d_M_value_63 rfl rfl rfl ?_
      refine Rj_vo (q := 67) (z := y_M_fails) (as := [vI 0, vI (sk A n k)]) (rest := []) (la := [vA 0, vI 0, vI (sk A n k)]) oM_0_M_fails ml_M_131 mw_M_fails mv_M_fails rfl d_M_value_64 rfl rfl rfl rfl rfl ?_
      refine s_M_fails hw0 ?_
      refine Rj_bret0 d_M_value_67 rfl ?_
      exact hE (1 + 8 * (sk A n k) + 0) _ (RUN_vbad rfl hx ho (vat_none hdg (by omega))) (Fr.put (Fr.put (Fr.refl _ _) (by unfold Wsm; omega)) (by unfold Wsm; omega)) rfl (by omega)
