theorem oM_0_M_joinOf : OI YM 0 y_M_joinOf := ⟨by decide, _, _, _, cM_0, rfl⟩
theorem oM_0_M_teeth : OI YM 0 y_M_teeth := ⟨by decide, _, _, _, cM_0, rfl⟩
theorem gM_M_54_0 : GI YM "DoorsOnCogsModel" 54 0 29 (some (some 15)) := ⟨by decide, _, _, _, fl_M_54, cM_0, by decide, rfl⟩
theorem aM_15 : AI YM 15 (.long) 12 := ⟨by decide, cM_15, by decide⟩
theorem oM_0_M_above : OI YM 0 y_M_above := ⟨by decide, _, _, _, cM_0, rfl⟩
theorem gM_M_57_0 : GI YM "DoorsOnCogsModel" 57 0 30 (some (some 16)) := ⟨by decide, _, _, _, fl_M_57, cM_0, by decide, rfl⟩
theorem aM_16 : AI YM 16 (.long) 12 := ⟨by decide, cM_16, by decide⟩
theorem oM_0_M_below : OI YM 0 y_M_below := ⟨by decide, _, _, _, cM_0, rfl⟩
theorem oM_0_M_turns : OI YM 0 y_M_turns := ⟨by decide, _, _, _, cM_0, rfl⟩
/-! the reference hangs its doors -/
theorem pow60 {a : Nat} (h : a ≤ 3) : (60 : Int) ^ a ≤ 216000 := by
  have := ipow_le (c := 60) (by decide) h
  simpa using this
theorem HI_bd {S : Int → Int} {w b r : Int} {lo up dn : Int → Int} (hS : StrOK S) (h : HI S w b r lo up dn) : ∀ d, 0 ≤ d → d < S 0 → 0 ≤ lo d → (-216000 ≤ up d ∧ up d ≤ 216000) ∧ (0 < dn d ∧ dn d ≤ 216000) := by
  obtain ⟨a1, a2, a3, a4, b1, b2, used, F, E, B, cB, c1, c2, c3, c4⟩ := h
  intro d h1 h2 h3
  have hB : B ≤ 216000 := by
    rw [cB]
    refine pow60 (Nat.le_trans (cntB_le _ (fun j hj hu => (c1 j hu).2.1)) hS.2.2.2.2)
  have := c3 d h1 h2 h3
  have := b1 d h1 h2 h3
  omega
set_option maxHeartbeats 4000000 in
theorem s_M_above {μ : Mem} {Q : PV → Mem → Prop} {j t : Int} (hS : StrOK (μ 11)) (hj : 0 ≤ j ∧ j < μ 11 1) (ht : 0 ≤ t ∧ t < μ 11 0) (hQ : Q (vL (abv (μ 11) j t)) μ) : Rj YM y_M_above 0 [vA 0, vI j, vI t] [] μ Q := by
  obtain ⟨hS0, hS1, hS2, hS3, hS4⟩ := id hS
  obtain ⟨k1, k2, k3, k4⟩ := hS3 j hj.1 hj.2
  have k5 := hS2 t ht.1 ht.2
  refine Rj_aload_n (q := 1) d_M_above_0 rfl rfl rfl ?_
  refine Rj_iload_n (q := 2) d_M_above_1 rfl rfl rfl ?_
  refine Rj_iconst (q := 3) d_M_above_2 rfl ?_
  refine Rj_vo (q := 6) (z := y_M_joinOf) (as := [vI j, vI 2]) (rest := []) (la := [vA 0, vI j, vI 2]) oM_0_M_joinOf ml_M_297 mw_M_joinOf mv_M_joinOf rfl d_M_above_3 rfl rfl rfl rfl rfl ?_
  refine s_M_joinOf (by omega) (by decide) ?_
  refine Rj_iconst (q := 7) d_M_above_6 rfl ?_
  refine Rj_icmp_ne (q := 10) (t := 19) d_M_above_7 rfl (by decide) ⟨by omega, by omega⟩ (by decide) (fun c7 => ?_) (fun c7 => ?_)
  · refine Rj_aload_n (q := 20) d_M_above_19 rfl rfl rfl ?_
    refine Rj_iload_n (q := 21) d_M_above_20 rfl rfl rfl ?_
    refine Rj_iconst (q := 22) d_M_above_21 rfl ?_
    refine Rj_vo (q := 25) (z := y_M_joinOf) (as := [vI j, vI 2]) (rest := []) (la := [vA 0, vI j, vI 2]) oM_0_M_joinOf ml_M_297 mw_M_joinOf mv_M_joinOf rfl d_M_above_22 rfl rfl rfl rfl rfl ?_
    refine s_M_joinOf (by omega) (by decide) ?_
    refine Rj_if_ne (q := 28) (t := 34) d_M_above_25 rfl (by decide) ⟨by omega, by omega⟩ (fun c25 => ?_) (fun c25 => ?_)
    · refine Rj_lconst (q := 35) (z := 1) d_M_above_34 rfl rfl ?_
      refine Rj_lret d_M_above_35 rfl ?_
      exact fin_L hQ (by unfold abv; simp [*])
    · refine Rj_ldc2 (q := 31) k_M_304 d_M_above_28 rfl ?_
      refine Rj_goto (t := 35) d_M_above_31 (by decide) ?_
      refine Rj_lret d_M_above_35 rfl ?_
      exact fin_L hQ (by unfold abv; simp [*])
  · refine Rj_aload_n (q := 11) d_M_above_10 rfl rfl rfl ?_
    refine Rj_iload_n (q := 12) d_M_above_11 rfl rfl rfl ?_
    refine Rj_vo (q := 15) (z := y_M_teeth) (as := [vI t]) (rest := []) (la := [vA 0, vI t]) oM_0_M_teeth ml_M_301 mw_M_teeth mv_M_teeth rfl d_M_above_12 rfl rfl rfl rfl rfl ?_
    refine s_M_teeth (by omega) ?_
    refine Rj_i2l (q := 16) d_M_above_15 rfl ⟨by omega, by omega⟩ ?_
    refine Rj_goto (t := 35) d_M_above_16 (by decide) ?_
    refine Rj_lret d_M_above_35 rfl ?_
    exact fin_L hQ (by unfold abv; simp [*])
set_option maxHeartbeats 4000000 in
theorem s_M_below {μ : Mem} {Q : PV → Mem → Prop} {j t : Int} (hS : StrOK (μ 11)) (hj : 0 ≤ j ∧ j < μ 11 1) (ht : 0 ≤ t ∧ t < μ 11 0) (hQ : Q (vL (blw (μ 11) j t)) μ) : Rj YM y_M_below 0 [vA 0, vI j, vI t] [] μ Q := by
  obtain ⟨hS0, hS1, hS2, hS3, hS4⟩ := id hS
  obtain ⟨k1, k2, k3, k4⟩ := hS3 j hj.1 hj.2
  have k5 := hS2 t ht.1 ht.2
  refine Rj_aload_n (q := 1) d_M_below_0 rfl rfl rfl ?_
  refine Rj_iload_n (q := 2) d_M_below_1 rfl rfl rfl ?_
  refine Rj_iconst (q := 3) d_M_below_2 rfl ?_
  refine Rj_vo (q := 6) (z := y_M_joinOf) (as := [vI j, vI 2]) (rest := []) (la := [vA 0, vI j, vI 2]) oM_0_M_joinOf ml_M_297 mw_M_joinOf mv_M_joinOf rfl d_M_below_3 rfl rfl rfl rfl rfl ?_
  refine s_M_joinOf (by omega) (by decide) ?_
  refine Rj_iconst (q := 7) d_M_below_6 rfl ?_
  refine Rj_icmp_ne (q := 10) (t := 19) d_M_below_7 rfl (by decide) ⟨by omega, by omega⟩ (by decide) (fun c7 => ?_) (fun c7 => ?_)
  · refine Rj_lconst (q := 20) (z := 1) d_M_below_19 rfl rfl ?_
    refine Rj_lret d_M_below_20 rfl ?_
    exact fin_L hQ (by unfold blw; simp [*])
  · refine Rj_aload_n (q := 11) d_M_below_10 rfl rfl rfl ?_
    refine Rj_iload_n (q := 12) d_M_below_11 rfl rfl rfl ?_
    refine Rj_vo (q := 15) (z := y_M_teeth) (as := [vI t]) (rest := []) (la := [vA 0, vI t]) oM_0_M_teeth ml_M_301 mw_M_teeth mv_M_teeth rfl d_M_below_12 rfl rfl rfl rfl rfl ?_
    refine s_M_teeth (by omega) ?_
    refine Rj_i2l (q := 16) d_M_below_15 rfl ⟨by omega, by omega⟩ ?_
    refine Rj_goto (t := 20) d_M_below_16 (by decide) ?_
    refine Rj_lret d_M_below_20 rfl ?_
    exact fin_L hQ (by unfold blw; simp [*])
theorem abv_bd {S : Int → Int} {j t : Int} (ht : 4 ≤ tee S t ∧ tee S t ≤ 60) : -60 ≤ abv S j t ∧ abv S j t ≤ 60 ∧ abv S j t ≠ 0 := by
  unfold abv; (repeat' split) <;> omega
theorem blw_bd {S : Int → Int} {j t : Int} (ht : 4 ≤ tee S t ∧ tee S t ≤ 60) : 1 ≤ blw S j t ∧ blw S j t ≤ 60 := by
  unfold blw; (repeat' split) <;> omega
theorem mul_bd {a b A B : Int} (ha : -A ≤ a ∧ a ≤ A) (hb : -B ≤ b ∧ b ≤ B) : -(A * B) ≤ a * b ∧ a * b ≤ A * B := by
  have hA : 0 ≤ A := by omega
  have hB : 0 ≤ B := by omega
  rcases Int.le_total 0 a with h | h
  · have e1 : a * b ≤ a * B := Int.mul_le_mul_of_nonneg_left hb.2 h
    have e2 : a * B ≤ A * B := Int.mul_le_mul_of_nonneg_right ha.2 hB
    have e3 : a * (-B) ≤ a * b := Int.mul_le_mul_of_nonneg_left hb.1 h
    rw [Int.mul_neg] at e3; omega
  · have e1 : (-a) * b ≤ (-a) * B := Int.mul_le_mul_of_nonneg_left hb.2 (by omega)
    have e2 : (-a) * B ≤ A * B := Int.mul_le_mul_of_nonneg_right (by omega) hB
    have e3 : (-a) * (-B) ≤ (-a) * b := Int.mul_le_mul_of_nonneg_left hb.1 (by omega)
    simp only [Int.neg_mul, Int.mul_neg, Int.neg_neg] at e1 e2 e3; omega
theorem mul_nn {a b : Int} (ha : a ≠ 0) (hb : b ≠ 0) : a * b ≠ 0 := Int.mul_ne_zero ha hb
set_option maxHeartbeats 4000000 in
theorem s_M_turns {μ : Mem} {Q : PV → Mem → Prop} {j f t : Int} (hS : StrOK (μ 11)) (hj : 0 ≤ j ∧ j < μ 11 1) (hf : 0 ≤ f ∧ f < μ 11 0) (ht : 0 ≤ t ∧ t < μ 11 0) (hu : (-216000 ≤ μ 15 f ∧ μ 15 f ≤ 216000) ∧ (0 < μ 16 f ∧ μ 16 f ≤ 216000)) (hlf : f ≠ t) (hQ : Q vU (mset (mset (mset μ 15 t (lw (μ 15 f * abv (μ 11) j t) (μ 16 f * blw (μ 11) j f) 0)) 16 t (lw (μ 15 f * abv (μ 11) j t) (μ 16 f * blw (μ 11) j f) 1)) 14 t (μ 14 f))) : Rj YM y_M_turns 0 [vA 0, vI j, vI f, vI t] [] μ Q := by
  obtain ⟨hS0, hS1, hS2, hS3, hS4⟩ := id hS
  have kt := hS2 t ht.1 ht.2
  have kf := hS2 f hf.1 hf.2
  have b1 := abv_bd (S := μ 11) (j := j) (t := t) kt.1
  have b2 := blw_bd (S := μ 11) (j := j) (t := f) kf.1
  have m1 := mul_bd hu.1 (show -60 ≤ abv (μ 11) j t ∧ abv (μ 11) j t ≤ 60 by omega)
  have m2 := mul_bd (show -216000 ≤ μ 16 f ∧ μ 16 f ≤ 216000 by omega) (show -60 ≤ blw (μ 11) j f ∧ blw (μ 11) j f ≤ 60 by omega)
  have m3 : μ 16 f * blw (μ 11) j f ≠ 0 := mul_nn (by omega) (by omega)
  refine Rj_aload_n (q := 1) d_M_turns_0 rfl rfl rfl ?_
  refine Rj_gr (q := 4) (zd := 15) gM_M_54_0 rfl rfl d_M_turns_1 rfl ?_
  refine Rj_iload_n (q := 5) d_M_turns_4 rfl rfl rfl ?_
  refine Rj_la (q := 6) (v := μ 15 f) aM_15 rfl (by omega) rfl d_M_turns_5 rfl ?_
  refine Rj_aload_n (q := 7) d_M_turns_6 rfl rfl rfl ?_
  refine Rj_iload_n (q := 8) d_M_turns_7 rfl rfl rfl ?_
  refine Rj_iload_n (q := 9) d_M_turns_8 rfl rfl rfl ?_
  refine Rj_vo (q := 12) (z := y_M_above) (as := [vI j, vI t]) (rest := [vL (μ 15 f)]) (la := [vA 0, vI j, vI t]) oM_0_M_above ml_M_306 mw_M_above mv_M_above rfl d_M_turns_9 rfl rfl rfl rfl rfl ?_
  refine s_M_above hS (by omega) (by omega) ?_
  refine Rj_lmul (q := 13) d_M_turns_12 rfl ?_
  refine Rj_lstore (q := 15) (ls' := [vA 0, vI j, vI f, vI t, vL ((μ 15 f) * (abv (μ 11) j t)), vU]) d_M_turns_13 rfl (by decide) rfl ?_
  refine Rj_aload_n (q := 16) d_M_turns_15 rfl rfl rfl ?_
  refine Rj_gr (q := 19) (zd := 16) gM_M_57_0 rfl rfl d_M_turns_16 rfl ?_
  refine Rj_iload_n (q := 20) d_M_turns_19 rfl rfl rfl ?_
  refine Rj_la (q := 21) (v := μ 16 f) aM_16 rfl (by omega) rfl d_M_turns_20 rfl ?_
  refine Rj_aload_n (q := 22) d_M_turns_21 rfl rfl rfl ?_
  refine Rj_iload_n (q := 23) d_M_turns_22 rfl rfl rfl ?_
  refine Rj_iload_n (q := 24) d_M_turns_23 rfl rfl rfl ?_
  refine Rj_vo (q := 27) (z := y_M_below) (as := [vI j, vI f]) (rest := [vL (μ 16 f)]) (la := [vA 0, vI j, vI f]) oM_0_M_below ml_M_310 mw_M_below mv_M_below rfl d_M_turns_24 rfl rfl rfl rfl rfl ?_
  refine s_M_below hS (by omega) (by omega) ?_
  refine Rj_lmul (q := 28) d_M_turns_27 rfl ?_
  refine Rj_lstore (q := 30) (ls' := [vA 0, vI j, vI f, vI t, vL ((μ 15 f) * (abv (μ 11) j t)), vU, vL ((μ 16 f) * (blw (μ 11) j f)), vU]) d_M_turns_28 rfl (by decide) rfl ?_
  refine Rj_aload_n (q := 31) d_M_turns_30 rfl rfl rfl ?_
  refine Rj_gr (q := 34) (zd := 15) gM_M_54_0 rfl rfl d_M_turns_31 rfl ?_
  refine Rj_iload_n (q := 35) d_M_turns_34 rfl rfl rfl ?_
  refine Rj_lload (q := 37) d_M_turns_35 rfl rfl ?_
  refine Rj_lload (q := 39) d_M_turns_37 rfl rfl ?_
  refine Rj_iconst (q := 40) d_M_turns_39 rfl ?_
  refine Rj_cs (q := 43) (z := y_M_lowest) (as := [vL ((μ 15 f) * (abv (μ 11) j t)), vL ((μ 16 f) * (blw (μ 11) j f)), vI 0]) (rest := [vI t, vA 15]) (la := [vL ((μ 15 f) * (abv (μ 11) j t)), vU, vL ((μ 16 f) * (blw (μ 11) j f)), vU, vI 0]) ml_M_313 mw_M_lowest ms_M_lowest d_M_turns_40 rfl rfl rfl rfl rfl ?_
  refine s_M_lowest (by omega) (by omega) (by omega) (by decide) ?_
  refine Rj_lst (q := 44) aM_15 rfl (by omega) d_M_turns_43 rfl ?_
  refine Rj_aload_n (q := 45) d_M_turns_44 rfl rfl rfl ?_
  refine Rj_gr (q := 48) (zd := 16) gM_M_57_0 rfl rfl d_M_turns_45 rfl ?_
  refine Rj_iload_n (q := 49) d_M_turns_48 rfl rfl rfl ?_
  refine Rj_lload (q := 51) d_M_turns_49 rfl rfl ?_
  refine Rj_lload (q := 53) d_M_turns_51 rfl rfl ?_
  refine Rj_iconst (q := 54) d_M_turns_53 rfl ?_
  refine Rj_cs (q := 57) (z := y_M_lowest) (as := [vL ((μ 15 f) * (abv (μ 11) j t)), vL ((μ 16 f) * (blw (μ 11) j f)), vI 1]) (rest := [vI t, vA 16]) (la := [vL ((μ 15 f) * (abv (μ 11) j t)), vU, vL ((μ 16 f) * (blw (μ 11) j f)), vU, vI 1]) ml_M_313 mw_M_lowest ms_M_lowest d_M_turns_54 rfl rfl rfl rfl rfl ?_
  refine s_M_lowest (by omega) (by omega) (by omega) (by decide) ?_
  refine Rj_lst (q := 58) aM_16 rfl (by omega) d_M_turns_57 rfl ?_
  refine Rj_aload_n (q := 59) d_M_turns_58 rfl rfl rfl ?_
  refine Rj_gr (q := 62) (zd := 14) gM_M_51_0 rfl rfl d_M_turns_59 rfl ?_
  refine Rj_iload_n (q := 63) d_M_turns_62 rfl rfl rfl ?_
  refine Rj_aload_n (q := 64) d_M_turns_63 rfl rfl rfl ?_
  refine Rj_gr (q := 67) (zd := 14) gM_M_51_0 rfl rfl d_M_turns_64 rfl ?_
  refine Rj_iload_n (q := 68) d_M_turns_67 rfl rfl rfl ?_
  refine Rj_ia (q := 69) (v := μ 14 f) aM_14 rfl (by omega) rfl d_M_turns_68 rfl ?_
  refine Rj_is (q := 70) aM_14 rfl (by omega) d_M_turns_69 rfl ?_
  refine Rj_vret d_M_turns_70 rfl ?_
  exact hQ
set_option maxHeartbeats 4000000 in
theorem s_M_isTurnedAlike {μ : Mem} {Q : PV → Mem → Prop} {j f t : Int} (hS : StrOK (μ 11)) (hj : 0 ≤ j ∧ j < μ 11 1) (hf : 0 ≤ f ∧ f < μ 11 0) (ht : 0 ≤ t ∧ t < μ 11 0) (hu : (-216000 ≤ μ 15 f ∧ μ 15 f ≤ 216000) ∧ (0 < μ 16 f ∧ μ 16 f ≤ 216000)) (hv : (-216000 ≤ μ 15 t ∧ μ 15 t ≤ 216000) ∧ (0 < μ 16 t ∧ μ 16 t ≤ 216000)) (hQ : Q (vI (bI (decide (μ 15 f * abv (μ 11) j t * μ 16 t = μ 15 t * (μ 16 f * blw (μ 11) j f))))) μ) : Rj YM y_M_isTurnedAlike 0 [vA 0, vI j, vI f, vI t] [] μ Q := by
  obtain ⟨hS0, hS1, hS2, hS3, hS4⟩ := id hS
  have kt := hS2 t ht.1 ht.2
  have kf := hS2 f hf.1 hf.2
  have b1 := abv_bd (S := μ 11) (j := j) (t := t) kt.1
  have b2 := blw_bd (S := μ 11) (j := j) (t := f) kf.1
  have m1 := mul_bd hu.1 (show -60 ≤ abv (μ 11) j t ∧ abv (μ 11) j t ≤ 60 by omega)
  have m2 := mul_bd (show -216000 ≤ μ 16 f ∧ μ 16 f ≤ 216000 by omega) (show -60 ≤ blw (μ 11) j f ∧ blw (μ 11) j f ≤ 60 by omega)
  have m3 := mul_bd m1 (show -216000 ≤ μ 16 t ∧ μ 16 t ≤ 216000 by omega)
  have m4 := mul_bd hv.1 m2
  refine Rj_aload_n (q := 1) d_M_isTurnedAlike_0 rfl rfl rfl ?_
  refine Rj_gr (q := 4) (zd := 15) gM_M_54_0 rfl rfl d_M_isTurnedAlike_1 rfl ?_
  refine Rj_iload_n (q := 5) d_M_isTurnedAlike_4 rfl rfl rfl ?_
  refine Rj_la (q := 6) (v := μ 15 f) aM_15 rfl (by omega) rfl d_M_isTurnedAlike_5 rfl ?_
  refine Rj_aload_n (q := 7) d_M_isTurnedAlike_6 rfl rfl rfl ?_
  refine Rj_iload_n (q := 8) d_M_isTurnedAlike_7 rfl rfl rfl ?_
  refine Rj_iload_n (q := 9) d_M_isTurnedAlike_8 rfl rfl rfl ?_
  refine Rj_vo (q := 12) (z := y_M_above) (as := [vI j, vI t]) (rest := [vL (μ 15 f)]) (la := [vA 0, vI j, vI t]) oM_0_M_above ml_M_306 mw_M_above mv_M_above rfl d_M_isTurnedAlike_9 rfl rfl rfl rfl rfl ?_
  refine s_M_above hS (by omega) (by omega) ?_
  refine Rj_lmul (q := 13) d_M_isTurnedAlike_12 rfl ?_
  refine Rj_lstore (q := 15) (ls' := [vA 0, vI j, vI f, vI t, vL ((μ 15 f) * (abv (μ 11) j t)), vU]) d_M_isTurnedAlike_13 rfl (by decide) rfl ?_
  refine Rj_aload_n (q := 16) d_M_isTurnedAlike_15 rfl rfl rfl ?_
  refine Rj_gr (q := 19) (zd := 16) gM_M_57_0 rfl rfl d_M_isTurnedAlike_16 rfl ?_
  refine Rj_iload_n (q := 20) d_M_isTurnedAlike_19 rfl rfl rfl ?_
  refine Rj_la (q := 21) (v := μ 16 f) aM_16 rfl (by omega) rfl d_M_isTurnedAlike_20 rfl ?_
  refine Rj_aload_n (q := 22) d_M_isTurnedAlike_21 rfl rfl rfl ?_
  refine Rj_iload_n (q := 23) d_M_isTurnedAlike_22 rfl rfl rfl ?_
  refine Rj_iload_n (q := 24) d_M_isTurnedAlike_23 rfl rfl rfl ?_
  refine Rj_vo (q := 27) (z := y_M_below) (as := [vI j, vI f]) (rest := [vL (μ 16 f)]) (la := [vA 0, vI j, vI f]) oM_0_M_below ml_M_310 mw_M_below mv_M_below rfl d_M_isTurnedAlike_24 rfl rfl rfl rfl rfl ?_
  refine s_M_below hS (by omega) (by omega) ?_
  refine Rj_lmul (q := 28) d_M_isTurnedAlike_27 rfl ?_
  refine Rj_lstore (q := 30) (ls' := [vA 0, vI j, vI f, vI t, vL ((μ 15 f) * (abv (μ 11) j t)), vU, vL ((μ 16 f) * (blw (μ 11) j f)), vU]) d_M_isTurnedAlike_28 rfl (by decide) rfl ?_
  refine Rj_lload (q := 32) d_M_isTurnedAlike_30 rfl rfl ?_
  refine Rj_aload_n (q := 33) d_M_isTurnedAlike_32 rfl rfl rfl ?_
  refine Rj_gr (q := 36) (zd := 16) gM_M_57_0 rfl rfl d_M_isTurnedAlike_33 rfl ?_
  refine Rj_iload_n (q := 37) d_M_isTurnedAlike_36 rfl rfl rfl ?_
  refine Rj_la (q := 38) (v := μ 16 t) aM_16 rfl (by omega) rfl d_M_isTurnedAlike_37 rfl ?_
  refine Rj_lmul (q := 39) d_M_isTurnedAlike_38 rfl ?_
  refine Rj_aload_n (q := 40) d_M_isTurnedAlike_39 rfl rfl rfl ?_
  refine Rj_gr (q := 43) (zd := 15) gM_M_54_0 rfl rfl d_M_isTurnedAlike_40 rfl ?_
  refine Rj_iload_n (q := 44) d_M_isTurnedAlike_43 rfl rfl rfl ?_
  refine Rj_la (q := 45) (v := μ 15 t) aM_15 rfl (by omega) rfl d_M_isTurnedAlike_44 rfl ?_
  refine Rj_lload (q := 47) d_M_isTurnedAlike_45 rfl rfl ?_
  refine Rj_lmul (q := 48) d_M_isTurnedAlike_47 rfl ?_
  refine Rj_lc_ne (q := 49) (q2 := 52) (t := 56) d_M_isTurnedAlike_48 rfl d_M_isTurnedAlike_49 rfl (by decide) ⟨by omega, by omega⟩ ⟨by omega, by omega⟩ (fun c48 => ?_) (fun c48 => ?_)
  · refine Rj_iconst (q := 57) d_M_isTurnedAlike_56 rfl ?_
    refine Rj_bret0 d_M_isTurnedAlike_57 rfl ?_
    exact fin_I hQ (bF c48)
  · refine Rj_iconst (q := 53) d_M_isTurnedAlike_52 rfl ?_
    refine Rj_goto (t := 57) d_M_isTurnedAlike_53 (by decide) ?_
    refine Rj_bret1 d_M_isTurnedAlike_57 rfl ?_
    exact fin_I hQ (bT c48)
/-- how many doors have no set yet -/
def una (lo : Int → Int) : Nat := cntB (fun d => decide (lo (d : Int) < 0)) 12
theorem una_lt {lo : Int → Int} {t r : Int} (ht : 0 ≤ t ∧ t < 12) (h1 : lo t < 0) (h2 : 0 ≤ r) : una (fset lo t r) < una lo := by
  have e : cntB (fun d => if d = t.toNat then true else decide (fset lo t r (d : Int) < 0)) 12 = una (fset lo t r) + 1 := by
    refine cntB_set ?_ 12 (by omega)
    rw [show ((t.toNat : Nat) : Int) = t by omega, fset_same]
    simpa using h2
  have e2 : cntB (fun d => if d = t.toNat then true else decide (fset lo t r (d : Int) < 0)) 12 = una lo := by
    apply cntB_congr
    intro d hd
    by_cases q : d = t.toNat
    · subst q
      rw [if_pos rfl, show ((t.toNat : Nat) : Int) = t by omega]
      simpa using h1
    · rw [if_neg q, fset_ne _ (by omega)]
  omega
abbrev Whg (c : Nat) (_ : Int) : Prop := c = 14 ∨ c = 15 ∨ c = 16
set_option maxHeartbeats 4000000 in
theorem s_M_reaches_l : ∀ (f : Nat) {μ : Mem} {Q : PV → Mem → Prop} {w r j : Int} {l3 l4 : PV}, ((μ 11 1 - j).toNat < f) → (StrOK (μ 11)) → (HI (μ 11) w (r + 1) r (μ 14) (μ 15) (μ 16)) → (0 ≤ w ∧ w ≤ 65535) → (0 ≤ r ∧ r < μ 11 0) → (0 ≤ j ∧ j ≤ μ 11 1) → (∀ i, 0 ≤ i → i < j → act (μ 11) w i → (0 ≤ μ 14 (jn (μ 11) i 0) ↔ 0 ≤ μ 14 (jn (μ 11) i 1))) → (∀ μ', Fr Whg μ μ' → HI (μ 11) w (r + 1) r (μ' 14) (μ' 15) (μ' 16) → una (μ' 14) < una (μ 14) → Q (vI 1) μ') → ((∀ i, act (μ 11) w i → (0 ≤ μ 14 (jn (μ 11) i 0) ↔ 0 ≤ μ 14 (jn (μ 11) i 1))) → Q (vI 0) μ) → Rj YM y_M_reaches 2 [vA 0, vI w, vI j] [] μ Q := by
  intro f
  induction f with
  | zero => intro μ Q w r j l3 l4 hf hS hH hw hr hj hb h1 h2; exact absurd hf (by omega)
  | succ f ih =>
    intro μ Q w r j l3 l4 hf hS hH hw hr hj hb h1 h2
    obtain ⟨hS0, hS1, hS2, hS3, hS4⟩ := id hS
    obtain ⟨a1, -⟩ := id hH
    refine Rj_iload_n (q := 3) d_M_reaches_2 rfl rfl rfl ?_
    refine Rj_aload_n (q := 4) d_M_reaches_3 rfl rfl rfl ?_
    refine Rj_gr (q := 7) (zd := 11) gM_M_42_0 rfl rfl d_M_reaches_4 rfl ?_
    refine Rj_iconst (q := 8) d_M_reaches_7 rfl ?_
    refine Rj_ia (q := 9) (v := μ 11 1) aM_11 rfl (by decide) rfl d_M_reaches_8 rfl ?_
    refine Rj_icmp_ge (q := 12) (t := 106) d_M_reaches_9 rfl (by decide) ⟨by omega, by omega⟩ ⟨by omega, by omega⟩ (fun c9 => ?_) (fun c9 => ?_)
    · refine Rj_iconst (q := 107) d_M_reaches_106 rfl ?_
      refine Rj_bret0 d_M_reaches_107 rfl ?_
      exact h2 (fun i hi => hb i hi.1 (by have := hi.2.1; omega) hi)
    · obtain ⟨ka, kb, kne, kk⟩ := hS3 j hj.1 c9
      have xa := a1 _ ka.1 ka.2
      have xb := a1 _ kb.1 kb.2
      refine Rj_aload_n (q := 13) d_M_reaches_12 rfl rfl rfl ?_
      refine Rj_iload_n (q := 14) d_M_reaches_13 rfl rfl rfl ?_
      refine Rj_iconst (q := 15) d_M_reaches_14 rfl ?_
      refine Rj_vo (q := 18) (z := y_M_joinOf) (as := [vI j, vI 0]) (rest := []) (la := [vA 0, vI j, vI 0]) oM_0_M_joinOf ml_M_297 mw_M_joinOf mv_M_joinOf rfl d_M_reaches_15 rfl rfl rfl rfl rfl ?_
      refine s_M_joinOf (by omega) (by decide) ?_
      refine Rj_istore_n (q := 19) (ls' := [vA 0, vI w, vI j, vI (jn (μ 11) j 0)]) d_M_reaches_18 rfl rfl (by decide) rfl ?_
      refine Rj_aload_n (q := 20) d_M_reaches_19 rfl rfl rfl ?_
      refine Rj_iload_n (q := 21) d_M_reaches_20 rfl rfl rfl ?_
      refine Rj_iconst (q := 22) d_M_reaches_21 rfl ?_
      refine Rj_vo (q := 25) (z := y_M_joinOf) (as := [vI j, vI 1]) (rest := []) (la := [vA 0, vI j, vI 1]) oM_0_M_joinOf ml_M_297 mw_M_joinOf mv_M_joinOf rfl d_M_reaches_22 rfl rfl rfl rfl rfl ?_
      refine s_M_joinOf (by omega) (by decide) ?_
      refine Rj_istore (q := 27) (ls' := [vA 0, vI w, vI j, vI (jn (μ 11) j 0), vI (jn (μ 11) j 1)]) d_M_reaches_25 rfl (by decide) rfl ?_
      refine Rj_iload_n (q := 28) d_M_reaches_27 rfl rfl rfl ?_
      refine Rj_iload_n (q := 29) d_M_reaches_28 rfl rfl rfl ?_
      refine Rj_cs (q := 32) (z := y_M_isOf) (as := [vI w, vI j]) (rest := []) (la := [vI w, vI j]) ml_M_317 mw_M_isOf ms_M_isOf d_M_reaches_29 rfl rfl rfl rfl rfl ?_
      refine s_M_isOf ⟨by omega, by omega⟩ (by omega) ?_
      refine Rj_b_ne (q := 35) (t := 100) d_M_reaches_32 rfl (by decide) (fun c32 => ?_) (fun c32 => ?_)
      · refine Rj_iinc (q := 103) (ls' := [vA 0, vI w, vI (j + 1), vI (jn (μ 11) j 0), vI (jn (μ 11) j 1)]) d_M_reaches_100 rfl rfl (by decide) rfl ?_
        refine Rj_goto (t := 2) d_M_reaches_103 (by decide) ?_
        refine Rj_pre (ls' := [vA 0, vI w, vI (j + 1)]) (t := [vI (jn (μ 11) j 0), vI (jn (μ 11) j 1)]) rfl ?_
        exact ih (l3 := l3) (l4 := l4) (by omega) hS hH hw hr (by omega) (fun i q1 q2 q3 => by
            by_cases e : i = j
            · subst e; first | exact ⟨fun _ => by omega, fun _ => by omega⟩ | exact ⟨fun _ => by omega, fun _ => by omega⟩ | exact absurd (by simpa using c32) q3.2.2
            · exact hb i q1 (by omega) q3) h1 h2
      · have hact : act (μ 11) w j := ⟨hj.1, c9, by simpa using c32⟩
        refine Rj_aload_n (q := 36) d_M_reaches_35 rfl rfl rfl ?_
        refine Rj_gr (q := 39) (zd := 14) gM_M_51_0 rfl rfl d_M_reaches_36 rfl ?_
        refine Rj_iload_n (q := 40) d_M_reaches_39 rfl rfl rfl ?_
        refine Rj_ia (q := 41) (v := μ 14 (jn (μ 11) j 0)) aM_14 rfl (by omega) rfl d_M_reaches_40 rfl ?_
        refine Rj_if_ge (q := 44) (t := 48) d_M_reaches_41 rfl (by decide) ⟨by omega, by omega⟩ (fun c41 => ?_) (fun c41 => ?_)
        · refine Rj_iconst (q := 49) d_M_reaches_48 rfl ?_
          refine Rj_aload_n (q := 50) d_M_reaches_49 rfl rfl rfl ?_
          refine Rj_gr (q := 53) (zd := 14) gM_M_51_0 rfl rfl d_M_reaches_50 rfl ?_
          refine Rj_iload (q := 55) d_M_reaches_53 rfl rfl ?_
          refine Rj_ia (q := 56) (v := μ 14 (jn (μ 11) j 1)) aM_14 rfl (by omega) rfl d_M_reaches_55 rfl ?_
          refine Rj_if_ge (q := 59) (t := 63) d_M_reaches_56 rfl (by decide) ⟨by omega, by omega⟩ (fun c56 => ?_) (fun c56 => ?_)
          · refine Rj_iconst (q := 64) d_M_reaches_63 rfl ?_
            refine Rj_icmp_ne (q := 67) (t := 70) d_M_reaches_64 rfl (by decide) (by decide) (by decide) (fun c => absurd c (by decide)) (fun _ => ?_)
            refine Rj_goto (t := 100) d_M_reaches_67 (by decide) ?_
            refine Rj_iinc (q := 103) (ls' := [vA 0, vI w, vI (j + 1), vI (jn (μ 11) j 0), vI (jn (μ 11) j 1)]) d_M_reaches_100 rfl rfl (by decide) rfl ?_
            refine Rj_goto (t := 2) d_M_reaches_103 (by decide) ?_
            refine Rj_pre (ls' := [vA 0, vI w, vI (j + 1)]) (t := [vI (jn (μ 11) j 0), vI (jn (μ 11) j 1)]) rfl ?_
            exact ih (l3 := l3) (l4 := l4) (by omega) hS hH hw hr (by omega) (fun i q1 q2 q3 => by
                by_cases e : i = j
                · subst e; first | exact ⟨fun _ => by omega, fun _ => by omega⟩ | exact ⟨fun _ => by omega, fun _ => by omega⟩ | exact absurd (by simpa using c32) q3.2.2
                · exact hb i q1 (by omega) q3) h1 h2
          · refine Rj_iconst (q := 60) d_M_reaches_59 rfl ?_
            refine Rj_goto (t := 64) d_M_reaches_60 (by decide) ?_
            refine Rj_icmp_ne (q := 67) (t := 70) d_M_reaches_64 rfl (by decide) (by decide) (by decide) (fun _ => ?_) (fun c => absurd c (by decide))
            refine Rj_aload_n (q := 71) d_M_reaches_70 rfl rfl rfl ?_
            refine Rj_gr (q := 74) (zd := 14) gM_M_51_0 rfl rfl d_M_reaches_71 rfl ?_
            refine Rj_iload_n (q := 75) d_M_reaches_74 rfl rfl rfl ?_
            refine Rj_ia (q := 76) (v := μ 14 (jn (μ 11) j 0)) aM_14 rfl (by omega) rfl d_M_reaches_75 rfl ?_
            refine Rj_if_lt (q := 79) (t := 90) d_M_reaches_76 rfl (by decide) ⟨by omega, by omega⟩ (fun c76 => ?_) (fun c76 => ?_)
            · refine Rj_aload_n (q := 91) d_M_reaches_90 rfl rfl rfl ?_
              refine Rj_iload_n (q := 92) d_M_reaches_91 rfl rfl rfl ?_
              refine Rj_iload (q := 94) d_M_reaches_92 rfl rfl ?_
              refine Rj_iload_n (q := 95) d_M_reaches_94 rfl rfl rfl ?_
              refine Rj_vov (q := 98) (z := y_M_turns) (as := [vI j, vI (jn (μ 11) j 1), vI (jn (μ 11) j 0)]) (rest := []) (la := [vA 0, vI j, vI (jn (μ 11) j 1), vI (jn (μ 11) j 0)]) oM_0_M_turns ml_M_320 mw_M_turns mv_M_turns rfl d_M_reaches_95 rfl rfl rfl rfl rfl ?_
              refine s_M_turns hS (by omega) kb ka (HI_bd hS hH _ kb.1 kb.2 (by omega)) (by omega) ?_
              refine Rj_iconst (q := 99) d_M_reaches_98 rfl ?_
              refine Rj_bret1 d_M_reaches_99 rfl ?_
              have hh := HI_hang hS hH hact (Or.inr ⟨rfl, rfl⟩) (by omega) (by omega)
              refine h1 _ (Fr.put (Fr.put (Fr.put (Fr.refl _ _) (by simp [Whg])) (by simp [Whg])) (by simp [Whg])) ?_ ?_
              · have e := hh.2
                rw [← hh.1] at e
                simpa [mset_fs, mset_nc, hh.1] using hh.2
              · have := una_lt (lo := μ 14) (t := (jn (μ 11) j 0)) (r := r) (by omega) (by omega) hr.1
                simpa [mset_fs, mset_nc, hh.1] using this
            · refine Rj_aload_n (q := 80) d_M_reaches_79 rfl rfl rfl ?_
              refine Rj_iload_n (q := 81) d_M_reaches_80 rfl rfl rfl ?_
              refine Rj_iload_n (q := 82) d_M_reaches_81 rfl rfl rfl ?_
              refine Rj_iload (q := 84) d_M_reaches_82 rfl rfl ?_
              refine Rj_vov (q := 87) (z := y_M_turns) (as := [vI j, vI (jn (μ 11) j 0), vI (jn (μ 11) j 1)]) (rest := []) (la := [vA 0, vI j, vI (jn (μ 11) j 0), vI (jn (μ 11) j 1)]) oM_0_M_turns ml_M_320 mw_M_turns mv_M_turns rfl d_M_reaches_84 rfl rfl rfl rfl rfl ?_
              refine s_M_turns hS (by omega) ka kb (HI_bd hS hH _ ka.1 ka.2 (by omega)) (by omega) ?_
              refine Rj_goto (t := 98) d_M_reaches_87 (by decide) ?_
              refine Rj_iconst (q := 99) d_M_reaches_98 rfl ?_
              refine Rj_bret1 d_M_reaches_99 rfl ?_
              have hh := HI_hang hS hH hact (Or.inl ⟨rfl, rfl⟩) (by omega) (by omega)
              refine h1 _ (Fr.put (Fr.put (Fr.put (Fr.refl _ _) (by simp [Whg])) (by simp [Whg])) (by simp [Whg])) ?_ ?_
              · have e := hh.2
                rw [← hh.1] at e
                simpa [mset_fs, mset_nc, hh.1] using hh.2
              · have := una_lt (lo := μ 14) (t := (jn (μ 11) j 1)) (r := r) (by omega) (by omega) hr.1
                simpa [mset_fs, mset_nc, hh.1] using this
        · refine Rj_iconst (q := 45) d_M_reaches_44 rfl ?_
          refine Rj_goto (t := 49) d_M_reaches_45 (by decide) ?_
          refine Rj_aload_n (q := 50) d_M_reaches_49 rfl rfl rfl ?_
          refine Rj_gr (q := 53) (zd := 14) gM_M_51_0 rfl rfl d_M_reaches_50 rfl ?_
          refine Rj_iload (q := 55) d_M_reaches_53 rfl rfl ?_
          refine Rj_ia (q := 56) (v := μ 14 (jn (μ 11) j 1)) aM_14 rfl (by omega) rfl d_M_reaches_55 rfl ?_
          refine Rj_if_ge (q := 59) (t := 63) d_M_reaches_56 rfl (by decide) ⟨by omega, by omega⟩ (fun c56 => ?_) (fun c56 => ?_)
          · refine Rj_iconst (q := 64) d_M_reaches_63 rfl ?_
            refine Rj_icmp_ne (q := 67) (t := 70) d_M_reaches_64 rfl (by decide) (by decide) (by decide) (fun _ => ?_) (fun c => absurd c (by decide))
            refine Rj_aload_n (q := 71) d_M_reaches_70 rfl rfl rfl ?_
            refine Rj_gr (q := 74) (zd := 14) gM_M_51_0 rfl rfl d_M_reaches_71 rfl ?_
            refine Rj_iload_n (q := 75) d_M_reaches_74 rfl rfl rfl ?_
            refine Rj_ia (q := 76) (v := μ 14 (jn (μ 11) j 0)) aM_14 rfl (by omega) rfl d_M_reaches_75 rfl ?_
            refine Rj_if_lt (q := 79) (t := 90) d_M_reaches_76 rfl (by decide) ⟨by omega, by omega⟩ (fun c76 => ?_) (fun c76 => ?_)
            · refine Rj_aload_n (q := 91) d_M_reaches_90 rfl rfl rfl ?_
              refine Rj_iload_n (q := 92) d_M_reaches_91 rfl rfl rfl ?_
              refine Rj_iload (q := 94) d_M_reaches_92 rfl rfl ?_
              refine Rj_iload_n (q := 95) d_M_reaches_94 rfl rfl rfl ?_
              refine Rj_vov (q := 98) (z := y_M_turns) (as := [vI j, vI (jn (μ 11) j 1), vI (jn (μ 11) j 0)]) (rest := []) (la := [vA 0, vI j, vI (jn (μ 11) j 1), vI (jn (μ 11) j 0)]) oM_0_M_turns ml_M_320 mw_M_turns mv_M_turns rfl d_M_reaches_95 rfl rfl rfl rfl rfl ?_
              refine s_M_turns hS (by omega) kb ka (HI_bd hS hH _ kb.1 kb.2 (by omega)) (by omega) ?_
              refine Rj_iconst (q := 99) d_M_reaches_98 rfl ?_
              refine Rj_bret1 d_M_reaches_99 rfl ?_
              have hh := HI_hang hS hH hact (Or.inr ⟨rfl, rfl⟩) (by omega) (by omega)
              refine h1 _ (Fr.put (Fr.put (Fr.put (Fr.refl _ _) (by simp [Whg])) (by simp [Whg])) (by simp [Whg])) ?_ ?_
              · have e := hh.2
                rw [← hh.1] at e
                simpa [mset_fs, mset_nc, hh.1] using hh.2
              · have := una_lt (lo := μ 14) (t := (jn (μ 11) j 0)) (r := r) (by omega) (by omega) hr.1
                simpa [mset_fs, mset_nc, hh.1] using this
            · refine Rj_aload_n (q := 80) d_M_reaches_79 rfl rfl rfl ?_
              refine Rj_iload_n (q := 81) d_M_reaches_80 rfl rfl rfl ?_
              refine Rj_iload_n (q := 82) d_M_reaches_81 rfl rfl rfl ?_
              refine Rj_iload (q := 84) d_M_reaches_82 rfl rfl ?_
              refine Rj_vov (q := 87) (z := y_M_turns) (as := [vI j, vI (jn (μ 11) j 0), vI (jn (μ 11) j 1)]) (rest := []) (la := [vA 0, vI j, vI (jn (μ 11) j 0), vI (jn (μ 11) j 1)]) oM_0_M_turns ml_M_320 mw_M_turns mv_M_turns rfl d_M_reaches_84 rfl rfl rfl rfl rfl ?_
              refine s_M_turns hS (by omega) ka kb (HI_bd hS hH _ ka.1 ka.2 (by omega)) (by omega) ?_
              refine Rj_goto (t := 98) d_M_reaches_87 (by decide) ?_
              refine Rj_iconst (q := 99) d_M_reaches_98 rfl ?_
              refine Rj_bret1 d_M_reaches_99 rfl ?_
              have hh := HI_hang hS hH hact (Or.inl ⟨rfl, rfl⟩) (by omega) (by omega)
              refine h1 _ (Fr.put (Fr.put (Fr.put (Fr.refl _ _) (by simp [Whg])) (by simp [Whg])) (by simp [Whg])) ?_ ?_
              · have e := hh.2
                rw [← hh.1] at e
                simpa [mset_fs, mset_nc, hh.1] using hh.2
              · have := una_lt (lo := μ 14) (t := (jn (μ 11) j 1)) (r := r) (by omega) (by omega) hr.1
                simpa [mset_fs, mset_nc, hh.1] using this
          · refine Rj_iconst (q := 60) d_M_reaches_59 rfl ?_
            refine Rj_goto (t := 64) d_M_reaches_60 (by decide) ?_
            refine Rj_icmp_ne (q := 67) (t := 70) d_M_reaches_64 rfl (by decide) (by decide) (by decide) (fun c => absurd c (by decide)) (fun _ => ?_)
            refine Rj_goto (t := 100) d_M_reaches_67 (by decide) ?_
            refine Rj_iinc (q := 103) (ls' := [vA 0, vI w, vI (j + 1), vI (jn (μ 11) j 0), vI (jn (μ 11) j 1)]) d_M_reaches_100 rfl rfl (by decide) rfl ?_
            refine Rj_goto (t := 2) d_M_reaches_103 (by decide) ?_
            refine Rj_pre (ls' := [vA 0, vI w, vI (j + 1)]) (t := [vI (jn (μ 11) j 0), vI (jn (μ 11) j 1)]) rfl ?_
            exact ih (l3 := l3) (l4 := l4) (by omega) hS hH hw hr (by omega) (fun i q1 q2 q3 => by
                by_cases e : i = j
                · subst e; first | exact ⟨fun _ => by omega, fun _ => by omega⟩ | exact ⟨fun _ => by omega, fun _ => by omega⟩ | exact absurd (by simpa using c32) q3.2.2
                · exact hb i q1 (by omega) q3) h1 h2
