theorem oM_0_M_joinsOf : OI YM 0 y_M_joinsOf := ⟨by decide, _, _, _, cM_0, rfl⟩
/-! the reference: by how many teeth a rule has a door pushed -/
set_option maxHeartbeats 4000000 in
theorem s_M_reck_end {μ : Mem} {Q : PV → Mem → Prop} {t b0 e0 v : Int} (he : 0 ≤ e0 ∧ e0 ≤ 400) (hS : SSM μ [v]) (hQ : ∀ μ', Fr Wsn μ μ' → Q (vL v) μ') : Rj YM y_M_reckons 8 [vA 0, vI t, vI b0, vI e0, vI e0] [] μ Q := by
  refine Rj_iload (q := 10) d_M_reckons_8 rfl rfl ?_
  refine Rj_iload_n (q := 11) d_M_reckons_10 rfl rfl rfl ?_
  refine Rj_icmp_ge (q := 14) (t := 135) d_M_reckons_11 rfl (by decide) ⟨by omega, by omega⟩ ⟨by omega, by omega⟩ (fun c11 => ?_) (fun c11 => ?_)
  · refine Rj_aload_n (q := 136) d_M_reckons_135 rfl rfl rfl ?_
    refine Rj_vo (q := 139) (z := y_M_pop) (as := []) (rest := []) (la := [vA 0]) oM_0_M_pop ml_M_289 mw_M_pop mv_M_pop rfl d_M_reckons_136 rfl rfl rfl rfl rfl ?_
    refine s_M_pop hS (by decide) (fun m136 fm136 sm136 => ?_)
    refine Rj_lret d_M_reckons_139 rfl ?_
    exact hQ _ fm136
  · exact absurd c11 (by omega)
set_option maxHeartbeats 4000000 in
theorem s_M_reckons {μ : Mem} {Q : PV → Mem → Prop} {W : Int → Int} {t b e : Int} {c : List Int} (ht : 0 ≤ t ∧ t < 6) (hW : ∀ j, 0 ≤ j → j ≤ 7 → μ 10 j = W j) (hW6 : ∀ j, 0 ≤ j → j ≤ 7 → i64 (W j)) (hb : 0 ≤ b) (he : e = b + (c.length : Int)) (he4 : e ≤ 400) (hL : LST (μ 2) (400 * t + b) (c.map enc)) (hh : htf c 0 = some 1) (hQ : ∀ μ', Fr Wsn μ μ' → Q (vL (top1 (ev W c []))) μ') : Rj YM y_M_reckons 0 [vA 0, vI t, vI b, vI e] [] μ Q := by
  refine Rj_aload_n (q := 1) d_M_reckons_0 rfl rfl rfl ?_
  refine Rj_iconst (q := 2) d_M_reckons_1 rfl ?_
  refine Rj_pi (q := 5) (ki := 23) pM_M_282_0 rfl rfl d_M_reckons_2 rfl ?_
  refine Rj_iload_n (q := 6) d_M_reckons_5 rfl rfl rfl ?_
  refine Rj_istore (q := 8) (ls' := [vA 0, vI t, vI b, vI e, vI b]) d_M_reckons_6 rfl (by decide) rfl ?_
  have fr0 : Fr Wsn μ (mset μ 0 23 0) := Fr.put (Fr.refl _ _) (Or.inl ⟨rfl, rfl⟩)
  obtain ⟨v, ev1⟩ := one_of (ev_len (W := W) (c := c) (st := []) hh)
  rw [ev1] at hQ
  refine s_M_reck_8 (μ := mset μ 0 23 0) (W := W) (c := c) (st := []) (a := 1) _ (Nat.lt_succ_self _) ht hW hW6 hb (by omega) he4 hL hh (by decide) ⟨rfl, trivial⟩ (fun z hz => absurd hz (by simp)) (fun m f1 s1 => ?_)
  rw [ev1] at s1
  rw [← he]
  exact s_M_reck_end (by omega) s1 (fun m2 f2 => hQ m2 ((fr0.trans f1).trans f2))
set_option maxHeartbeats 4000000 in
theorem s_M_joinsOf_4 : ∀ (f : Nat) {μ : Mem} {Q : PV → Mem → Prop} {d j m : Int}, ((μ 11 1 - j).toNat < f) → (StrOK (μ 11)) → (0 ≤ d ∧ d < μ 11 0) → (0 ≤ j ∧ j ≤ μ 11 1) → (m = jno (μ 11) d j.toNat) → (Q (vI (jno (μ 11) d (μ 11 1).toNat)) μ) → Rj YM y_M_joinsOf 4 [vA 0, vI d, vI m, vI j] [] μ Q := by
  intro f
  induction f with
  | zero => intro μ Q d j m hf hS hd hj hm hQ; exact absurd hf (by omega)
  | succ f ih =>
    intro μ Q d j m hf hS hd hj hm hQ
    have z0 := hS.1
    have z1 := hS.2.1
    have jr := jno_rng (μ 11) d j.toNat
    refine Rj_iload_n (q := 5) d_M_joinsOf_4 rfl rfl rfl ?_
    refine Rj_aload_n (q := 6) d_M_joinsOf_5 rfl rfl rfl ?_
    refine Rj_gr (q := 9) (zd := 11) gM_M_42_0 rfl rfl d_M_joinsOf_6 rfl ?_
    refine Rj_iconst (q := 10) d_M_joinsOf_9 rfl ?_
    refine Rj_ia (q := 11) (v := μ 11 1) aM_11 rfl (by decide) rfl d_M_joinsOf_10 rfl ?_
    refine Rj_icmp_ge (q := 14) (t := 48) d_M_joinsOf_11 rfl (by decide) ⟨by omega, by omega⟩ ⟨by omega, by omega⟩ (fun c11 => ?_) (fun c11 => ?_)
    · have ej : j = μ 11 1 := by omega
      rw [ej] at hm
      refine Rj_iload_n (q := 49) d_M_joinsOf_48 rfl rfl rfl ?_
      refine Rj_iret d_M_joinsOf_49 rfl ?_
      exact fin_I hQ hm.symm
    · obtain ⟨ka, kb, kne, kk⟩ := hS.2.2.2.1 j hj.1 (by omega)
      have st := jno_step (S := μ 11) (d := d) hj.1
      refine Rj_iload_n (q := 15) d_M_joinsOf_14 rfl rfl rfl ?_
      refine Rj_aload_n (q := 16) d_M_joinsOf_15 rfl rfl rfl ?_
      refine Rj_iload_n (q := 17) d_M_joinsOf_16 rfl rfl rfl ?_
      refine Rj_iconst (q := 18) d_M_joinsOf_17 rfl ?_
      refine Rj_vo (q := 21) (z := y_M_joinOf) (as := [vI j, vI 0]) (rest := [vI m]) (la := [vA 0, vI j, vI 0]) oM_0_M_joinOf ml_M_297 mw_M_joinOf mv_M_joinOf rfl d_M_joinsOf_18 rfl rfl rfl rfl rfl ?_
      refine s_M_joinOf (by omega) (by decide) ?_
      refine Rj_iload_n (q := 22) d_M_joinsOf_21 rfl rfl rfl ?_
      refine Rj_icmp_eq (q := 25) (t := 35) d_M_joinsOf_22 rfl (by decide) ⟨by omega, by omega⟩ ⟨by omega, by omega⟩ (fun c22 => ?_) (fun c22 => ?_)
      · refine Rj_iconst (q := 36) d_M_joinsOf_35 rfl ?_
        refine Rj_goto (t := 40) d_M_joinsOf_36 (by decide) ?_
        refine Rj_iadd (q := 41) d_M_joinsOf_40 rfl ?_
        refine Rj_istore_n (q := 42) (ls' := [vA 0, vI d, vI (m + 1), vI j]) d_M_joinsOf_41 rfl rfl (by decide) rfl ?_
        refine Rj_iinc (q := 45) (ls' := [vA 0, vI d, vI (m + 1), vI (j + 1)]) d_M_joinsOf_42 rfl rfl (by decide) rfl ?_
        refine Rj_goto (t := 4) d_M_joinsOf_45 (by decide) ?_
        refine ih (by omega) hS hd (by omega) ?_ hQ
        rw [st]
        first
          | (rw [if_pos (by omega)]; omega)
          | (rw [if_neg (by omega)]; omega)
      · refine Rj_aload_n (q := 26) d_M_joinsOf_25 rfl rfl rfl ?_
        refine Rj_iload_n (q := 27) d_M_joinsOf_26 rfl rfl rfl ?_
        refine Rj_iconst (q := 28) d_M_joinsOf_27 rfl ?_
        refine Rj_vo (q := 31) (z := y_M_joinOf) (as := [vI j, vI 1]) (rest := [vI m]) (la := [vA 0, vI j, vI 1]) oM_0_M_joinOf ml_M_297 mw_M_joinOf mv_M_joinOf rfl d_M_joinsOf_28 rfl rfl rfl rfl rfl ?_
        refine s_M_joinOf (by omega) (by decide) ?_
        refine Rj_iload_n (q := 32) d_M_joinsOf_31 rfl rfl rfl ?_
        refine Rj_icmp_ne (q := 35) (t := 39) d_M_joinsOf_32 rfl (by decide) ⟨by omega, by omega⟩ ⟨by omega, by omega⟩ (fun c32 => ?_) (fun c32 => ?_)
        · refine Rj_iconst (q := 40) d_M_joinsOf_39 rfl ?_
          refine Rj_iadd (q := 41) d_M_joinsOf_40 rfl ?_
          refine Rj_istore_n (q := 42) (ls' := [vA 0, vI d, vI (m + 0), vI j]) d_M_joinsOf_41 rfl rfl (by decide) rfl ?_
          refine Rj_iinc (q := 45) (ls' := [vA 0, vI d, vI (m + 0), vI (j + 1)]) d_M_joinsOf_42 rfl rfl (by decide) rfl ?_
          refine Rj_goto (t := 4) d_M_joinsOf_45 (by decide) ?_
          refine ih (by omega) hS hd (by omega) ?_ hQ
          rw [st]
          first
            | (rw [if_pos (by omega)]; omega)
            | (rw [if_neg (by omega)]; omega)
        · refine Rj_iconst (q := 36) d_M_joinsOf_35 rfl ?_
          refine Rj_goto (t := 40) d_M_joinsOf_36 (by decide) ?_
          refine Rj_iadd (q := 41) d_M_joinsOf_40 rfl ?_
          refine Rj_istore_n (q := 42) (ls' := [vA 0, vI d, vI (m + 1), vI j]) d_M_joinsOf_41 rfl rfl (by decide) rfl ?_
          refine Rj_iinc (q := 45) (ls' := [vA 0, vI d, vI (m + 1), vI (j + 1)]) d_M_joinsOf_42 rfl rfl (by decide) rfl ?_
          refine Rj_goto (t := 4) d_M_joinsOf_45 (by decide) ?_
          refine ih (by omega) hS hd (by omega) ?_ hQ
          rw [st]
          first
            | (rw [if_pos (by omega)]; omega)
            | (rw [if_neg (by omega)]; omega)
set_option maxHeartbeats 4000000 in
theorem s_M_joinsOf {μ : Mem} {Q : PV → Mem → Prop} {d : Int} (hS : StrOK (μ 11)) (hd : 0 ≤ d ∧ d < μ 11 0) (hQ : Q (vI (jno (μ 11) d (μ 11 1).toNat)) μ) : Rj YM y_M_joinsOf 0 [vA 0, vI d] [] μ Q := by
  have z1 := hS.2.1
  refine Rj_iconst (q := 1) d_M_joinsOf_0 rfl ?_
  refine Rj_istore_n (q := 2) (ls' := [vA 0, vI d, vI 0]) d_M_joinsOf_1 rfl rfl (by decide) rfl ?_
  refine Rj_iconst (q := 3) d_M_joinsOf_2 rfl ?_
  refine Rj_istore_n (q := 4) (ls' := [vA 0, vI d, vI 0, vI 0]) d_M_joinsOf_3 rfl rfl (by decide) rfl ?_
  exact s_M_joinsOf_4 _ (Nat.lt_succ_self _) hS hd (by omega) rfl hQ
set_option maxHeartbeats 4000000 in
theorem s_M_words {μ : Mem} {Q : PV → Mem → Prop} (h : MX μ) {d ah : Int} (hd : 0 ≤ d ∧ d < μ 11 0) (ha : 0 ≤ ah ∧ ah ≤ 100) (hQ : ∀ μ', Fr (fun c _ => c = 10) μ μ' → (∀ j, 0 ≤ j → j ≤ 7 → μ' 10 j = wrd (μ 11) (μ 12) d ah j) → Q vU μ') : Rj YM y_M_words 0 [vA 0, vI d, vI ah] [] μ Q := by
  obtain ⟨hS, hH, hP, hB, hFx⟩ := id h
  obtain ⟨z0, z1, z6, z5⟩ := h.z
  obtain ⟨tr, sr, lr, kr, ur, un, dr⟩ := Hu_d hS hH hd
  have pb := hB d hd.1 (by omega)
  have or_ := opS_rng (μ 11) (pts (μ 11)) (μ 12) (μ 11 0).toNat (by omega)
  have pl_ := pcn_le (opS (μ 11) (pts (μ 11)) (μ 12) (μ 11 0).toNat)
  have jr := jno_rng (μ 11) d (μ 11 1).toNat
  refine Rj_aload_n (q := 1) d_M_words_0 rfl rfl rfl ?_
  refine Rj_gr (q := 4) (zd := 10) gM_M_39_0 rfl rfl d_M_words_1 rfl ?_
  refine Rj_iconst (q := 5) d_M_words_4 rfl ?_
  refine Rj_iload_n (q := 6) d_M_words_5 rfl rfl rfl ?_
  refine Rj_i2l (q := 7) d_M_words_6 rfl ⟨by omega, by omega⟩ ?_
  refine Rj_lst (q := 8) aM_10 rfl (by decide) d_M_words_7 rfl ?_
  refine Rj_aload_n (q := 9) d_M_words_8 rfl rfl rfl ?_
  refine Rj_gr (q := 12) (zd := 10) gM_M_39_0 rfl rfl d_M_words_9 rfl ?_
  refine Rj_iconst (q := 13) d_M_words_12 rfl ?_
  refine Rj_aload_n (q := 14) d_M_words_13 rfl rfl rfl ?_
  refine Rj_iload_n (q := 15) d_M_words_14 rfl rfl rfl ?_
  refine Rj_vo (q := 18) (z := y_M_teeth) (as := [vI d]) (rest := [vI 1, vA 10]) (la := [vA 0, vI d]) oM_0_M_teeth ml_M_301 mw_M_teeth mv_M_teeth rfl d_M_words_15 rfl rfl rfl rfl rfl ?_
  refine s_M_teeth (μ := (mset μ 10 0 d)) (by omega) ?_
  show Rj YM y_M_words 18 [vA 0, vI d, vI ah] [vI (tee (μ 11) d), vI 1, vA 10] (mset μ 10 0 d) Q
  refine Rj_i2l (q := 19) d_M_words_18 rfl ⟨by omega, by omega⟩ ?_
  refine Rj_lst (q := 20) aM_10 rfl (by decide) d_M_words_19 rfl ?_
  refine Rj_aload_n (q := 21) d_M_words_20 rfl rfl rfl ?_
  refine Rj_gr (q := 24) (zd := 10) gM_M_39_0 rfl rfl d_M_words_21 rfl ?_
  refine Rj_iconst (q := 25) d_M_words_24 rfl ?_
  refine Rj_aload_n (q := 26) d_M_words_25 rfl rfl rfl ?_
  refine Rj_iload_n (q := 27) d_M_words_26 rfl rfl rfl ?_
  refine Rj_vo (q := 30) (z := y_M_span) (as := [vI d]) (rest := [vI 2, vA 10]) (la := [vA 0, vI d]) oM_0_M_span ml_M_338 mw_M_span mv_M_span rfl d_M_words_27 rfl rfl rfl rfl rfl ?_
  refine s_M_span (μ := (mset (mset μ 10 0 d) 10 1 (tee (μ 11) d))) (by omega) ?_
  show Rj YM y_M_words 30 [vA 0, vI d, vI ah] [vI (spn (μ 11) d), vI 2, vA 10] (mset (mset μ 10 0 d) 10 1 (tee (μ 11) d)) Q
  refine Rj_i2l (q := 31) d_M_words_30 rfl ⟨by omega, by omega⟩ ?_
  refine Rj_lst (q := 32) aM_10 rfl (by decide) d_M_words_31 rfl ?_
  refine Rj_aload_n (q := 33) d_M_words_32 rfl rfl rfl ?_
  refine Rj_gr (q := 36) (zd := 10) gM_M_39_0 rfl rfl d_M_words_33 rfl ?_
  refine Rj_iconst (q := 37) d_M_words_36 rfl ?_
  refine Rj_aload_n (q := 38) d_M_words_37 rfl rfl rfl ?_
  refine Rj_gr (q := 41) (zd := 12) gM_M_45_0 rfl rfl d_M_words_38 rfl ?_
  refine Rj_iload_n (q := 42) d_M_words_41 rfl rfl rfl ?_
  refine Rj_la (q := 43) (v := μ 12 d) aM_12 rfl (by omega) rfl d_M_words_42 rfl ?_
  refine Rj_aload_n (q := 44) d_M_words_43 rfl rfl rfl ?_
  refine Rj_gl (q := 47) (ki := 32) (v := pts (μ 11)) gM_M_64_0 rfl rfl hP d_M_words_44 rfl ?_
  refine Rj_cs (q := 50) (z := y_M_floored) (as := [vL (μ 12 d), vL (pts (μ 11))]) (rest := [vI 3, vA 10]) (la := [vL (μ 12 d), vU, vL (pts (μ 11)), vU]) ml_M_343 mw_M_floored ms_M_floored d_M_words_47 rfl rfl rfl rfl rfl ?_
  refine s_M_floored (μ := (mset (mset (mset μ 10 0 d) 10 1 (tee (μ 11) d)) 10 2 (spn (μ 11) d))) (a := μ 12 d) (b := pts (μ 11)) (by omega) (by omega) ?_
  show Rj YM y_M_words 50 [vA 0, vI d, vI ah] [vL (μ 12 d / pts (μ 11)), vI 3, vA 10] (mset (mset (mset μ 10 0 d) 10 1 (tee (μ 11) d)) 10 2 (spn (μ 11) d)) Q
  refine Rj_lst (q := 51) aM_10 rfl (by decide) d_M_words_50 rfl ?_
  refine Rj_aload_n (q := 52) d_M_words_51 rfl rfl rfl ?_
  refine Rj_gr (q := 55) (zd := 10) gM_M_39_0 rfl rfl d_M_words_52 rfl ?_
  refine Rj_iconst (q := 56) d_M_words_55 rfl ?_
  refine Rj_aload_n (q := 57) d_M_words_56 rfl rfl rfl ?_
  refine Rj_iload_n (q := 58) d_M_words_57 rfl rfl rfl ?_
  refine Rj_vo (q := 61) (z := y_M_isOpen) (as := [vI d]) (rest := [vI 4, vA 10]) (la := [vA 0, vI d]) oM_0_M_isOpen ml_M_350 mw_M_isOpen mv_M_isOpen rfl d_M_words_58 rfl rfl rfl rfl rfl ?_
  refine s_M_isOpen (μ := (mset (mset (mset (mset μ 10 0 d) 10 1 (tee (μ 11) d)) 10 2 (spn (μ 11) d)) 10 3 (μ 12 d / pts (μ 11)))) h hd ?_
  show Rj YM y_M_words 61 [vA 0, vI d, vI ah] [vI (bI (opn (μ 11) (pts (μ 11)) d (μ 12 d))), vI 4, vA 10] (mset (mset (mset (mset μ 10 0 d) 10 1 (tee (μ 11) d)) 10 2 (spn (μ 11) d)) 10 3 (μ 12 d / pts (μ 11))) Q
  refine Rj_b_eq (q := 64) (t := 68) d_M_words_61 rfl (by decide) (fun c61 => ?_) (fun c61 => ?_)
  · refine Rj_lconst (q := 69) (z := 0) d_M_words_68 rfl rfl ?_
    refine Rj_lst (q := 70) aM_10 rfl (by decide) d_M_words_69 rfl ?_
    refine Rj_aload_n (q := 71) d_M_words_70 rfl rfl rfl ?_
    refine Rj_gr (q := 74) (zd := 10) gM_M_39_0 rfl rfl d_M_words_71 rfl ?_
    refine Rj_iconst (q := 75) d_M_words_74 rfl ?_
    refine Rj_aload_n (q := 76) d_M_words_75 rfl rfl rfl ?_
    refine Rj_vo (q := 79) (z := y_M_openOnes) (as := []) (rest := [vI 5, vA 10]) (la := [vA 0]) oM_0_M_openOnes ml_M_452 mw_M_openOnes mv_M_openOnes rfl d_M_words_76 rfl rfl rfl rfl rfl ?_
    refine s_M_openOnes (μ := (mset (mset (mset (mset (mset μ 10 0 d) 10 1 (tee (μ 11) d)) 10 2 (spn (μ 11) d)) 10 3 (μ 12 d / pts (μ 11))) 10 4 0)) h ?_
    show Rj YM y_M_words 79 [vA 0, vI d, vI ah] [vI (opS (μ 11) (pts (μ 11)) (μ 12) (μ 11 0).toNat), vI 5, vA 10] (mset (mset (mset (mset (mset μ 10 0 d) 10 1 (tee (μ 11) d)) 10 2 (spn (μ 11) d)) 10 3 (μ 12 d / pts (μ 11))) 10 4 0) Q
    refine Rj_cs (q := 82) (z := y_M_bits) (as := [vI (opS (μ 11) (pts (μ 11)) (μ 12) (μ 11 0).toNat)]) (rest := [vI 5, vA 10]) (la := [vI (opS (μ 11) (pts (μ 11)) (μ 12) (μ 11 0).toNat)]) ml_M_439 mw_M_bits ms_M_bits d_M_words_79 rfl rfl rfl rfl rfl ?_
    refine s_M_bits (μ := (mset (mset (mset (mset (mset μ 10 0 d) 10 1 (tee (μ 11) d)) 10 2 (spn (μ 11) d)) 10 3 (μ 12 d / pts (μ 11))) 10 4 0)) (s := opS (μ 11) (pts (μ 11)) (μ 12) (μ 11 0).toNat) (by omega) ?_
    show Rj YM y_M_words 82 [vA 0, vI d, vI ah] [vI (((pcn (opS (μ 11) (pts (μ 11)) (μ 12) (μ 11 0).toNat) : Nat) : Int)), vI 5, vA 10] (mset (mset (mset (mset (mset μ 10 0 d) 10 1 (tee (μ 11) d)) 10 2 (spn (μ 11) d)) 10 3 (μ 12 d / pts (μ 11))) 10 4 0) Q
    refine Rj_i2l (q := 83) d_M_words_82 rfl ⟨by omega, by omega⟩ ?_
    refine Rj_lst (q := 84) aM_10 rfl (by decide) d_M_words_83 rfl ?_
    refine Rj_aload_n (q := 85) d_M_words_84 rfl rfl rfl ?_
    refine Rj_gr (q := 88) (zd := 10) gM_M_39_0 rfl rfl d_M_words_85 rfl ?_
    refine Rj_bipush (q := 90) d_M_words_88 rfl (by decide +kernel) ?_
    refine Rj_aload_n (q := 91) d_M_words_90 rfl rfl rfl ?_
    refine Rj_iload_n (q := 92) d_M_words_91 rfl rfl rfl ?_
    refine Rj_vo (q := 95) (z := y_M_joinsOf) (as := [vI d]) (rest := [vI 6, vA 10]) (la := [vA 0, vI d]) oM_0_M_joinsOf ml_M_455 mw_M_joinsOf mv_M_joinsOf rfl d_M_words_92 rfl rfl rfl rfl rfl ?_
    refine s_M_joinsOf (μ := (mset (mset (mset (mset (mset (mset μ 10 0 d) 10 1 (tee (μ 11) d)) 10 2 (spn (μ 11) d)) 10 3 (μ 12 d / pts (μ 11))) 10 4 0) 10 5 ((pcn (opS (μ 11) (pts (μ 11)) (μ 12) (μ 11 0).toNat) : Nat) : Int))) hS hd ?_
    show Rj YM y_M_words 95 [vA 0, vI d, vI ah] [vI (jno (μ 11) d (μ 11 1).toNat), vI 6, vA 10] (mset (mset (mset (mset (mset (mset μ 10 0 d) 10 1 (tee (μ 11) d)) 10 2 (spn (μ 11) d)) 10 3 (μ 12 d / pts (μ 11))) 10 4 0) 10 5 ((pcn (opS (μ 11) (pts (μ 11)) (μ 12) (μ 11 0).toNat) : Nat) : Int)) Q
    refine Rj_i2l (q := 96) d_M_words_95 rfl ⟨by omega, by omega⟩ ?_
    refine Rj_lst (q := 97) aM_10 rfl (by decide) d_M_words_96 rfl ?_
    refine Rj_aload_n (q := 98) d_M_words_97 rfl rfl rfl ?_
    refine Rj_gr (q := 101) (zd := 10) gM_M_39_0 rfl rfl d_M_words_98 rfl ?_
    refine Rj_bipush (q := 103) d_M_words_101 rfl (by decide +kernel) ?_
    refine Rj_iload_n (q := 104) d_M_words_103 rfl rfl rfl ?_
    refine Rj_i2l (q := 105) d_M_words_104 rfl ⟨by omega, by omega⟩ ?_
    refine Rj_lst (q := 106) aM_10 rfl (by decide) d_M_words_105 rfl ?_
    refine Rj_vret d_M_words_106 rfl ?_
    refine hQ _ (Fr.put (Fr.put (Fr.put (Fr.put (Fr.put (Fr.put (Fr.put (Fr.put (Fr.refl _ _) (rfl)) (rfl)) (rfl)) (rfl)) (rfl)) (rfl)) (rfl)) (rfl)) (fun j j0 j1 => ?_)
    rcases (show j = 0 ∨ j = 1 ∨ j = 2 ∨ j = 3 ∨ j = 4 ∨ j = 5 ∨ j = 6 ∨ j = 7 by omega) with e | e | e | e | e | e | e | e
    · rw [e]; rfl
    · rw [e]; rfl
    · rw [e]; rfl
    · rw [e]; rfl
    · rw [e]; show (0 : Int) = (if opn (μ 11) (pts (μ 11)) d (μ 12 d) = true then (1 : Int) else 0); rw [if_neg (by rw [c61]; decide)]
    · rw [e]; rfl
    · rw [e]; rfl
    · rw [e]; rfl
  · refine Rj_lconst (q := 65) (z := 1) d_M_words_64 rfl rfl ?_
    refine Rj_goto (t := 69) d_M_words_65 (by decide) ?_
    refine Rj_lst (q := 70) aM_10 rfl (by decide) d_M_words_69 rfl ?_
    refine Rj_aload_n (q := 71) d_M_words_70 rfl rfl rfl ?_
    refine Rj_gr (q := 74) (zd := 10) gM_M_39_0 rfl rfl d_M_words_71 rfl ?_
    refine Rj_iconst (q := 75) d_M_words_74 rfl ?_
    refine Rj_aload_n (q := 76) d_M_words_75 rfl rfl rfl ?_
    refine Rj_vo (q := 79) (z := y_M_openOnes) (as := []) (rest := [vI 5, vA 10]) (la := [vA 0]) oM_0_M_openOnes ml_M_452 mw_M_openOnes mv_M_openOnes rfl d_M_words_76 rfl rfl rfl rfl rfl ?_
    refine s_M_openOnes (μ := (mset (mset (mset (mset (mset μ 10 0 d) 10 1 (tee (μ 11) d)) 10 2 (spn (μ 11) d)) 10 3 (μ 12 d / pts (μ 11))) 10 4 1)) h ?_
    show Rj YM y_M_words 79 [vA 0, vI d, vI ah] [vI (opS (μ 11) (pts (μ 11)) (μ 12) (μ 11 0).toNat), vI 5, vA 10] (mset (mset (mset (mset (mset μ 10 0 d) 10 1 (tee (μ 11) d)) 10 2 (spn (μ 11) d)) 10 3 (μ 12 d / pts (μ 11))) 10 4 1) Q
    refine Rj_cs (q := 82) (z := y_M_bits) (as := [vI (opS (μ 11) (pts (μ 11)) (μ 12) (μ 11 0).toNat)]) (rest := [vI 5, vA 10]) (la := [vI (opS (μ 11) (pts (μ 11)) (μ 12) (μ 11 0).toNat)]) ml_M_439 mw_M_bits ms_M_bits d_M_words_79 rfl rfl rfl rfl rfl ?_
    refine s_M_bits (μ := (mset (mset (mset (mset (mset μ 10 0 d) 10 1 (tee (μ 11) d)) 10 2 (spn (μ 11) d)) 10 3 (μ 12 d / pts (μ 11))) 10 4 1)) (s := opS (μ 11) (pts (μ 11)) (μ 12) (μ 11 0).toNat) (by omega) ?_
    show Rj YM y_M_words 82 [vA 0, vI d, vI ah] [vI (((pcn (opS (μ 11) (pts (μ 11)) (μ 12) (μ 11 0).toNat) : Nat) : Int)), vI 5, vA 10] (mset (mset (mset (mset (mset μ 10 0 d) 10 1 (tee (μ 11) d)) 10 2 (spn (μ 11) d)) 10 3 (μ 12 d / pts (μ 11))) 10 4 1) Q
    refine Rj_i2l (q := 83) d_M_words_82 rfl ⟨by omega, by omega⟩ ?_
    refine Rj_lst (q := 84) aM_10 rfl (by decide) d_M_words_83 rfl ?_
    refine Rj_aload_n (q := 85) d_M_words_84 rfl rfl rfl ?_
    refine Rj_gr (q := 88) (zd := 10) gM_M_39_0 rfl rfl d_M_words_85 rfl ?_
    refine Rj_bipush (q := 90) d_M_words_88 rfl (by decide +kernel) ?_
    refine Rj_aload_n (q := 91) d_M_words_90 rfl rfl rfl ?_
    refine Rj_iload_n (q := 92) d_M_words_91 rfl rfl rfl ?_
    refine Rj_vo (q := 95) (z := y_M_joinsOf) (as := [vI d]) (rest := [vI 6, vA 10]) (la := [vA 0, vI d]) oM_0_M_joinsOf ml_M_455 mw_M_joinsOf mv_M_joinsOf rfl d_M_words_92 rfl rfl rfl rfl rfl ?_
    refine s_M_joinsOf (μ := (mset (mset (mset (mset (mset (mset μ 10 0 d) 10 1 (tee (μ 11) d)) 10 2 (spn (μ 11) d)) 10 3 (μ 12 d / pts (μ 11))) 10 4 1) 10 5 ((pcn (opS (μ 11) (pts (μ 11)) (μ 12) (μ 11 0).toNat) : Nat) : Int))) hS hd ?_
    show Rj YM y_M_words 95 [vA 0, vI d, vI ah] [vI (jno (μ 11) d (μ 11 1).toNat), vI 6, vA 10] (mset (mset (mset (mset (mset (mset μ 10 0 d) 10 1 (tee (μ 11) d)) 10 2 (spn (μ 11) d)) 10 3 (μ 12 d / pts (μ 11))) 10 4 1) 10 5 ((pcn (opS (μ 11) (pts (μ 11)) (μ 12) (μ 11 0).toNat) : Nat) : Int)) Q
    refine Rj_i2l (q := 96) d_M_words_95 rfl ⟨by omega, by omega⟩ ?_
    refine Rj_lst (q := 97) aM_10 rfl (by decide) d_M_words_96 rfl ?_
    refine Rj_aload_n (q := 98) d_M_words_97 rfl rfl rfl ?_
    refine Rj_gr (q := 101) (zd := 10) gM_M_39_0 rfl rfl d_M_words_98 rfl ?_
    refine Rj_bipush (q := 103) d_M_words_101 rfl (by decide +kernel) ?_
    refine Rj_iload_n (q := 104) d_M_words_103 rfl rfl rfl ?_
    refine Rj_i2l (q := 105) d_M_words_104 rfl ⟨by omega, by omega⟩ ?_
    refine Rj_lst (q := 106) aM_10 rfl (by decide) d_M_words_105 rfl ?_
    refine Rj_vret d_M_words_106 rfl ?_
    refine hQ _ (Fr.put (Fr.put (Fr.put (Fr.put (Fr.put (Fr.put (Fr.put (Fr.put (Fr.refl _ _) (rfl)) (rfl)) (rfl)) (rfl)) (rfl)) (rfl)) (rfl)) (rfl)) (fun j j0 j1 => ?_)
    rcases (show j = 0 ∨ j = 1 ∨ j = 2 ∨ j = 3 ∨ j = 4 ∨ j = 5 ∨ j = 6 ∨ j = 7 by omega) with e | e | e | e | e | e | e | e
    · rw [e]; rfl
    · rw [e]; rfl
    · rw [e]; rfl
    · rw [e]; rfl
    · rw [e]; show (1 : Int) = (if opn (μ 11) (pts (μ 11)) d (μ 12 d) = true then (1 : Int) else 0); rw [if_pos c61]
    · rw [e]; rfl
    · rw [e]; rfl
    · rw [e]; rfl
