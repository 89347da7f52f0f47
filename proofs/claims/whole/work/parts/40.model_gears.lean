theorem oM_0_M_ratioOf : OI YM 0 y_M_ratioOf := ⟨by decide, _, _, _, cM_0, rfl⟩
theorem oM_0_M_span : OI YM 0 y_M_span := ⟨by decide, _, _, _, cM_0, rfl⟩
theorem gM_M_45_0 : GI YM "DoorsOnCogsModel" 45 0 26 (some (some 12)) := ⟨by decide, _, _, _, fl_M_45, cM_0, by decide, rfl⟩
theorem aM_12 : AI YM 12 (.long) 12 := ⟨by decide, cM_12, by decide⟩
theorem oM_0_M_isOpenAt : OI YM 0 y_M_isOpenAt := ⟨by decide, _, _, _, cM_0, rfl⟩
theorem oM_0_M_isOpen : OI YM 0 y_M_isOpen := ⟨by decide, _, _, _, cM_0, rfl⟩
theorem oM_0_M_areJoined : OI YM 0 y_M_areJoined := ⟨by decide, _, _, _, cM_0, rfl⟩
theorem oM_0_M_partsOf : OI YM 0 y_M_partsOf := ⟨by decide, _, _, _, cM_0, rfl⟩
theorem oM_0_M_isBeyond : OI YM 0 y_M_isBeyond := ⟨by decide, _, _, _, cM_0, rfl⟩
/-! the reference: ratios, what is open, what is beyond, pushes, turns -/
def MX (ν : Mem) : Prop := StrOK (ν 11) ∧ Hung (ν 11) 0 (ν 14) (ν 15) (ν 16) (ν 17) ∧ ν 0 32 = pts (ν 11) ∧ PB (ν 12) ∧ (0 ≤ ν 11 2 ∧ ν 11 2 < 4096)
theorem MX.z {ν : Mem} (h : MX ν) : (0 ≤ ν 11 0 ∧ ν 11 0 ≤ 12) ∧ (0 ≤ ν 11 1 ∧ ν 11 1 ≤ 16) ∧ (1 ≤ pts (ν 11) ∧ pts (ν 11) ≤ 46656000000) ∧ (0 ≤ ν 11 2 ∧ ν 11 2 < 4096) :=
  ⟨h.1.1, h.1.2.1, pts_bd h.1, h.2.2.2.2⟩
theorem Hu_d {S lo up dn lk : Int → Int} (hS : StrOK S) (hH : Hung S 0 lo up dn lk) {d : Int} (d1 : 0 ≤ d ∧ d < S 0) : (4 ≤ tee S d ∧ tee S d ≤ 60) ∧ (0 ≤ spn S d ∧ spn S d ≤ tee S d) ∧ (0 ≤ lo d ∧ lo d < 12) ∧ (lk d = 0 ∨ lk d = 1) ∧ (-216000 ≤ up d ∧ up d ≤ 216000) ∧ up d ≠ 0 ∧ (0 < dn d ∧ dn d ≤ 216000) := by
  have t := hS.2.2.1 d d1.1 d1.2
  have l := Hung_lo hH d1
  have h0 := hS.1
  have b := HI_bd hS hH.1 d d1.1 d1.2 l.1
  have a := hH.1.2.2.2.2.1 d d1.1 d1.2 l.1
  exact ⟨t.1, t.2, ⟨l.1, by omega⟩, (hH.2 d d1.1 d1.2).1, b.1, a.2.1, b.2⟩
set_option maxHeartbeats 4000000 in
theorem s_M_areJoined2 {μ : Mem} {Q : PV → Mem → Prop} {a b : Int} (ha : 0 ≤ a ∧ a < 12) (hb : 0 ≤ b ∧ b < 12) (la : -1 ≤ μ 14 a ∧ μ 14 a < 12) (lb : -1 ≤ μ 14 b ∧ μ 14 b < 12) (hQ : Q (vI (bI (decide (μ 14 a = μ 14 b)))) μ) : Rj YM y_M_areJoined 0 [vA 0, vI a, vI b] [] μ Q := by
  refine Rj_aload_n (q := 1) d_M_areJoined_0 rfl rfl rfl ?_
  refine Rj_gr (q := 4) (zd := 14) gM_M_51_0 rfl rfl d_M_areJoined_1 rfl ?_
  refine Rj_iload_n (q := 5) d_M_areJoined_4 rfl rfl rfl ?_
  refine Rj_ia (q := 6) (v := μ 14 a) aM_14 rfl (by omega) rfl d_M_areJoined_5 rfl ?_
  refine Rj_aload_n (q := 7) d_M_areJoined_6 rfl rfl rfl ?_
  refine Rj_gr (q := 10) (zd := 14) gM_M_51_0 rfl rfl d_M_areJoined_7 rfl ?_
  refine Rj_iload_n (q := 11) d_M_areJoined_10 rfl rfl rfl ?_
  refine Rj_ia (q := 12) (v := μ 14 b) aM_14 rfl (by omega) rfl d_M_areJoined_11 rfl ?_
  refine Rj_icmp_ne (q := 15) (t := 19) d_M_areJoined_12 rfl (by decide) ⟨by omega, by omega⟩ ⟨by omega, by omega⟩ (fun c12 => ?_) (fun c12 => ?_)
  · refine Rj_iconst (q := 20) d_M_areJoined_19 rfl ?_
    refine Rj_bret0 d_M_areJoined_20 rfl ?_
    exact fin_I hQ (bF (by omega))
  · refine Rj_iconst (q := 16) d_M_areJoined_15 rfl ?_
    refine Rj_goto (t := 20) d_M_areJoined_16 (by decide) ?_
    refine Rj_bret1 d_M_areJoined_20 rfl ?_
    exact fin_I hQ (bT (by omega))
set_option maxHeartbeats 4000000 in
theorem s_M_ratioOf {μ : Mem} {Q : PV → Mem → Prop} (hS : StrOK (μ 11)) (hH : Hung (μ 11) 0 (μ 14) (μ 15) (μ 16) (μ 17)) {x d part : Int} (hx : 0 ≤ x ∧ x < μ 11 0) (hd : 0 ≤ d ∧ d < μ 11 0) (hp : i32 part) (hQ : Q (vL (rat (μ 15) (μ 16) x d part)) μ) : Rj YM y_M_ratioOf 0 [vA 0, vI x, vI d, vI part] [] μ Q := by
  have z0 := hS.1
  obtain ⟨trx, srx, lrx, krx, urx, unx, drx⟩ := Hu_d hS hH hx
  obtain ⟨tr, sr, lr, kr, ur, un, dr⟩ := Hu_d hS hH hd
  have m1 := mul_bd ur (show -216000 ≤ μ 16 x ∧ μ 16 x ≤ 216000 by omega)
  have m2 := mul_bd (show -216000 ≤ μ 16 d ∧ μ 16 d ≤ 216000 by omega) urx
  have m3 : μ 16 d * μ 15 x ≠ 0 := mul_nn (by omega) unx
  refine Rj_aload_n (q := 1) d_M_ratioOf_0 rfl rfl rfl ?_
  refine Rj_gr (q := 4) (zd := 15) gM_M_54_0 rfl rfl d_M_ratioOf_1 rfl ?_
  refine Rj_iload_n (q := 5) d_M_ratioOf_4 rfl rfl rfl ?_
  refine Rj_la (q := 6) (v := μ 15 d) aM_15 rfl (by omega) rfl d_M_ratioOf_5 rfl ?_
  refine Rj_aload_n (q := 7) d_M_ratioOf_6 rfl rfl rfl ?_
  refine Rj_gr (q := 10) (zd := 16) gM_M_57_0 rfl rfl d_M_ratioOf_7 rfl ?_
  refine Rj_iload_n (q := 11) d_M_ratioOf_10 rfl rfl rfl ?_
  refine Rj_la (q := 12) (v := μ 16 x) aM_16 rfl (by omega) rfl d_M_ratioOf_11 rfl ?_
  refine Rj_lmul (q := 13) d_M_ratioOf_12 rfl ?_
  refine Rj_lstore (q := 15) (ls' := [vA 0, vI x, vI d, vI part, vL ((μ 15 d) * (μ 16 x)), vU]) d_M_ratioOf_13 rfl (by decide) rfl ?_
  refine Rj_aload_n (q := 16) d_M_ratioOf_15 rfl rfl rfl ?_
  refine Rj_gr (q := 19) (zd := 16) gM_M_57_0 rfl rfl d_M_ratioOf_16 rfl ?_
  refine Rj_iload_n (q := 20) d_M_ratioOf_19 rfl rfl rfl ?_
  refine Rj_la (q := 21) (v := μ 16 d) aM_16 rfl (by omega) rfl d_M_ratioOf_20 rfl ?_
  refine Rj_aload_n (q := 22) d_M_ratioOf_21 rfl rfl rfl ?_
  refine Rj_gr (q := 25) (zd := 15) gM_M_54_0 rfl rfl d_M_ratioOf_22 rfl ?_
  refine Rj_iload_n (q := 26) d_M_ratioOf_25 rfl rfl rfl ?_
  refine Rj_la (q := 27) (v := μ 15 x) aM_15 rfl (by omega) rfl d_M_ratioOf_26 rfl ?_
  refine Rj_lmul (q := 28) d_M_ratioOf_27 rfl ?_
  refine Rj_lstore (q := 30) (ls' := [vA 0, vI x, vI d, vI part, vL ((μ 15 d) * (μ 16 x)), vU, vL ((μ 16 d) * (μ 15 x)), vU]) d_M_ratioOf_28 rfl (by decide) rfl ?_
  refine Rj_lload (q := 32) d_M_ratioOf_30 rfl rfl ?_
  refine Rj_lconst (q := 33) (z := 0) d_M_ratioOf_32 rfl rfl ?_
  refine Rj_lc_ge (q := 34) (q2 := 37) (t := 50) d_M_ratioOf_33 rfl d_M_ratioOf_34 rfl (by decide) ⟨by omega, by omega⟩ (by decide) (fun c33 => ?_) (fun c33 => ?_)
  · refine Rj_lload (q := 52) d_M_ratioOf_50 rfl rfl ?_
    refine Rj_lload (q := 54) d_M_ratioOf_52 rfl rfl ?_
    refine Rj_iload_n (q := 55) d_M_ratioOf_54 rfl rfl rfl ?_
    refine Rj_cs (q := 58) (z := y_M_lowest) (as := [vL ((μ 15 d) * (μ 16 x)), vL ((μ 16 d) * (μ 15 x)), vI part]) (rest := []) (la := [vL ((μ 15 d) * (μ 16 x)), vU, vL ((μ 16 d) * (μ 15 x)), vU, vI part]) ml_M_313 mw_M_lowest ms_M_lowest d_M_ratioOf_55 rfl rfl rfl rfl rfl ?_
    refine s_M_lowest (by omega) (by omega) (by omega) ⟨by omega, by omega⟩ ?_
    refine Rj_lret d_M_ratioOf_58 rfl ?_
    exact fin_L hQ (by unfold rat; rw [if_neg (by omega)])
  · refine Rj_lload (q := 39) d_M_ratioOf_37 rfl rfl ?_
    refine Rj_lneg (q := 40) d_M_ratioOf_39 rfl ?_
    refine Rj_lload (q := 42) d_M_ratioOf_40 rfl rfl ?_
    refine Rj_lneg (q := 43) d_M_ratioOf_42 rfl ?_
    refine Rj_iload_n (q := 44) d_M_ratioOf_43 rfl rfl rfl ?_
    refine Rj_cs (q := 47) (z := y_M_lowest) (as := [vL (-((μ 15 d) * (μ 16 x))), vL (-((μ 16 d) * (μ 15 x))), vI part]) (rest := []) (la := [vL (-((μ 15 d) * (μ 16 x))), vU, vL (-((μ 16 d) * (μ 15 x))), vU, vI part]) ml_M_313 mw_M_lowest ms_M_lowest d_M_ratioOf_44 rfl rfl rfl rfl rfl ?_
    refine s_M_lowest (by omega) (by omega) (by omega) ⟨by omega, by omega⟩ ?_
    refine Rj_goto (t := 58) d_M_ratioOf_47 (by decide) ?_
    refine Rj_lret d_M_ratioOf_58 rfl ?_
    exact fin_L hQ (by unfold rat; rw [if_pos c33])
set_option maxHeartbeats 4000000 in
theorem s_M_partsOf {μ : Mem} {Q : PV → Mem → Prop} (hS : StrOK (μ 11)) (hH : Hung (μ 11) 0 (μ 14) (μ 15) (μ 16) (μ 17)) (hP : μ 0 32 = pts (μ 11)) {x d : Int} (hx : 0 ≤ x ∧ x < μ 11 0) (hd : 0 ≤ d ∧ d < μ 11 0) (he : μ 14 x = μ 14 d) (hQ : Q (vL (pof (pts (μ 11)) (μ 15) (μ 16) x d)) μ) : Rj YM y_M_partsOf 0 [vA 0, vI x, vI d] [] μ Q := by
  have zp := pts_bd hS
  obtain ⟨tr, sr, lr, kr, ur, un, dr⟩ := Hu_d hS hH hd
  have ps := pof_spec hS hH.1 hx hd lr.1 he
  refine Rj_aload_n (q := 1) d_M_partsOf_0 rfl rfl rfl ?_
  refine Rj_iload_n (q := 2) d_M_partsOf_1 rfl rfl rfl ?_
  refine Rj_iload_n (q := 3) d_M_partsOf_2 rfl rfl rfl ?_
  refine Rj_iconst (q := 4) d_M_partsOf_3 rfl ?_
  refine Rj_vo (q := 7) (z := y_M_ratioOf) (as := [vI x, vI d, vI 0]) (rest := []) (la := [vA 0, vI x, vI d, vI 0]) oM_0_M_ratioOf ml_M_334 mw_M_ratioOf mv_M_ratioOf rfl d_M_partsOf_4 rfl rfl rfl rfl rfl ?_
  refine s_M_ratioOf hS hH ⟨by omega, by omega⟩ ⟨by omega, by omega⟩ (by first | decide | omega) ?_
  refine Rj_aload_n (q := 8) d_M_partsOf_7 rfl rfl rfl ?_
  refine Rj_gl (q := 11) (ki := 32) (v := pts (μ 11)) gM_M_64_0 rfl rfl hP d_M_partsOf_8 rfl ?_
  refine Rj_aload_n (q := 12) d_M_partsOf_11 rfl rfl rfl ?_
  refine Rj_iload_n (q := 13) d_M_partsOf_12 rfl rfl rfl ?_
  refine Rj_iload_n (q := 14) d_M_partsOf_13 rfl rfl rfl ?_
  refine Rj_iconst (q := 15) d_M_partsOf_14 rfl ?_
  refine Rj_vo (q := 18) (z := y_M_ratioOf) (as := [vI x, vI d, vI 1]) (rest := [vL (pts (μ 11)), vL (rat (μ 15) (μ 16) x d 0)]) (la := [vA 0, vI x, vI d, vI 1]) oM_0_M_ratioOf ml_M_334 mw_M_ratioOf mv_M_ratioOf rfl d_M_partsOf_15 rfl rfl rfl rfl rfl ?_
  refine s_M_ratioOf hS hH ⟨by omega, by omega⟩ ⟨by omega, by omega⟩ (by first | decide | omega) ?_
  refine Rj_ldiv (q := 19) d_M_partsOf_18 rfl ⟨by omega, by omega⟩ ⟨by omega, by omega⟩ (by omega) ?_
  refine Rj_lmul (q := 20) d_M_partsOf_19 rfl ?_
  refine Rj_lret d_M_partsOf_20 rfl ?_
  exact hQ
set_option maxHeartbeats 4000000 in
theorem s_M_isBeyond {μ : Mem} {Q : PV → Mem → Prop} (h : MX μ) {d x : Int} (hd : 0 ≤ d ∧ d < μ 11 0) (hr : -4000000000000000000 ≤ x ∧ x ≤ 4000000000000000000) (hQ : Q (vI (bI (byd (μ 11) (pts (μ 11)) d x))) μ) : Rj YM y_M_isBeyond 0 [vA 0, vI d, vL x, vU] [] μ Q := by
  obtain ⟨hS, hH, hP, hB, hFx⟩ := id h
  obtain ⟨z0, z1, z6, z5⟩ := h.z
  obtain ⟨tr, sr, lr, kr, ur, un, dr⟩ := Hu_d hS hH hd
  have m1 := mul_bd (show -60 ≤ spn (μ 11) d ∧ spn (μ 11) d ≤ 60 by omega) (show -46656000000 ≤ pts (μ 11) ∧ pts (μ 11) ≤ 46656000000 by omega)
  unfold byd at hQ
  refine Rj_aload_n (q := 1) d_M_isBeyond_0 rfl rfl rfl ?_
  refine Rj_iload_n (q := 2) d_M_isBeyond_1 rfl rfl rfl ?_
  refine Rj_vo (q := 5) (z := y_M_span) (as := [vI d]) (rest := []) (la := [vA 0, vI d]) oM_0_M_span ml_M_338 mw_M_span mv_M_span rfl d_M_isBeyond_2 rfl rfl rfl rfl rfl ?_
  refine s_M_span (by omega) ?_
  refine Rj_if_le (q := 8) (t := 34) d_M_isBeyond_5 rfl (by decide) ⟨by omega, by omega⟩ (fun c5 => ?_) (fun c5 => ?_)
  · refine Rj_iconst (q := 35) d_M_isBeyond_34 rfl ?_
    refine Rj_bret0 d_M_isBeyond_35 rfl ?_
    exact fin_I hQ (bF (by omega))
  · refine Rj_lload_n (q := 9) d_M_isBeyond_8 rfl rfl rfl ?_
    refine Rj_lconst (q := 10) (z := 0) d_M_isBeyond_9 rfl rfl ?_
    refine Rj_lc_lt (q := 11) (q2 := 14) (t := 30) d_M_isBeyond_10 rfl d_M_isBeyond_11 rfl (by decide) ⟨by omega, by omega⟩ (by decide) (fun c10 => ?_) (fun c10 => ?_)
    · refine Rj_iconst (q := 31) d_M_isBeyond_30 rfl ?_
      refine Rj_goto (t := 35) d_M_isBeyond_31 (by decide) ?_
      refine Rj_bret1 d_M_isBeyond_35 rfl ?_
      exact fin_I hQ (bT (by omega))
    · refine Rj_lload_n (q := 15) d_M_isBeyond_14 rfl rfl rfl ?_
      refine Rj_aload_n (q := 16) d_M_isBeyond_15 rfl rfl rfl ?_
      refine Rj_iload_n (q := 17) d_M_isBeyond_16 rfl rfl rfl ?_
      refine Rj_vo (q := 20) (z := y_M_span) (as := [vI d]) (rest := [vL x]) (la := [vA 0, vI d]) oM_0_M_span ml_M_338 mw_M_span mv_M_span rfl d_M_isBeyond_17 rfl rfl rfl rfl rfl ?_
      refine s_M_span (by omega) ?_
      refine Rj_i2l (q := 21) d_M_isBeyond_20 rfl ⟨by omega, by omega⟩ ?_
      refine Rj_aload_n (q := 22) d_M_isBeyond_21 rfl rfl rfl ?_
      refine Rj_gl (q := 25) (ki := 32) (v := pts (μ 11)) gM_M_64_0 rfl rfl hP d_M_isBeyond_22 rfl ?_
      refine Rj_lmul (q := 26) d_M_isBeyond_25 rfl ?_
      refine Rj_lc_le (q := 27) (q2 := 30) (t := 34) d_M_isBeyond_26 rfl d_M_isBeyond_27 rfl (by decide) ⟨by omega, by omega⟩ ⟨by omega, by omega⟩ (fun c26 => ?_) (fun c26 => ?_)
      · refine Rj_iconst (q := 35) d_M_isBeyond_34 rfl ?_
        refine Rj_bret0 d_M_isBeyond_35 rfl ?_
        exact fin_I hQ (bF (by omega))
      · refine Rj_iconst (q := 31) d_M_isBeyond_30 rfl ?_
        refine Rj_goto (t := 35) d_M_isBeyond_31 (by decide) ?_
        refine Rj_bret1 d_M_isBeyond_35 rfl ?_
        exact fin_I hQ (bT (by omega))
set_option maxHeartbeats 4000000 in
theorem s_M_isOpenAt {μ : Mem} {Q : PV → Mem → Prop} (h : MX μ) {d x : Int} (hd : 0 ≤ d ∧ d < μ 11 0) (hr : -4000000000000000000 ≤ x ∧ x ≤ 4000000000000000000) (hQ : Q (vI (bI (opn (μ 11) (pts (μ 11)) d x))) μ) : Rj YM y_M_isOpenAt 0 [vA 0, vI d, vL x, vU] [] μ Q := by
  obtain ⟨hS, hH, hP, hB, hFx⟩ := id h
  obtain ⟨z0, z1, z6, z5⟩ := h.z
  obtain ⟨tr, sr, lr, kr, ur, un, dr⟩ := Hu_d hS hH hd
  have m1 := mul_bd (show -60 ≤ spn (μ 11) d ∧ spn (μ 11) d ≤ 60 by omega) (show -46656000000 ≤ pts (μ 11) ∧ pts (μ 11) ≤ 46656000000 by omega)
  have m2 := mul_bd (show -60 ≤ tee (μ 11) d ∧ tee (μ 11) d ≤ 60 by omega) (show -46656000000 ≤ pts (μ 11) ∧ pts (μ 11) ≤ 46656000000 by omega)
  have m3 : 0 < tee (μ 11) d * pts (μ 11) := Int.mul_pos (by omega) (by omega)
  have m4 := Int.emod_nonneg x (show tee (μ 11) d * pts (μ 11) ≠ 0 by omega)
  have m5 := Int.emod_lt_of_pos x m3
  unfold opn at hQ
  refine Rj_aload_n (q := 1) d_M_isOpenAt_0 rfl rfl rfl ?_
  refine Rj_iload_n (q := 2) d_M_isOpenAt_1 rfl rfl rfl ?_
  refine Rj_vo (q := 5) (z := y_M_span) (as := [vI d]) (rest := []) (la := [vA 0, vI d]) oM_0_M_span ml_M_338 mw_M_span mv_M_span rfl d_M_isOpenAt_2 rfl rfl rfl rfl rfl ?_
  refine s_M_span (by omega) ?_
  refine Rj_if_le (q := 8) (t := 34) d_M_isOpenAt_5 rfl (by decide) ⟨by omega, by omega⟩ (fun c5 => ?_) (fun c5 => ?_)
  · rw [if_neg (by omega)] at hQ
    refine Rj_aload_n (q := 35) d_M_isOpenAt_34 rfl rfl rfl ?_
    refine Rj_iload_n (q := 36) d_M_isOpenAt_35 rfl rfl rfl ?_
    refine Rj_vo (q := 39) (z := y_M_teeth) (as := [vI d]) (rest := []) (la := [vA 0, vI d]) oM_0_M_teeth ml_M_301 mw_M_teeth mv_M_teeth rfl d_M_isOpenAt_36 rfl rfl rfl rfl rfl ?_
    refine s_M_teeth (by omega) ?_
    refine Rj_i2l (q := 40) d_M_isOpenAt_39 rfl ⟨by omega, by omega⟩ ?_
    refine Rj_aload_n (q := 41) d_M_isOpenAt_40 rfl rfl rfl ?_
    refine Rj_gl (q := 44) (ki := 32) (v := pts (μ 11)) gM_M_64_0 rfl rfl hP d_M_isOpenAt_41 rfl ?_
    refine Rj_lmul (q := 45) d_M_isOpenAt_44 rfl ?_
    refine Rj_lstore (q := 47) (ls' := [vA 0, vI d, vL x, vU, vL ((tee (μ 11) d) * (pts (μ 11))), vU]) d_M_isOpenAt_45 rfl (by decide) rfl ?_
    refine Rj_ldc2 (q := 50) k_M_341 d_M_isOpenAt_47 rfl ?_
    refine Rj_lload_n (q := 51) d_M_isOpenAt_50 rfl rfl rfl ?_
    refine Rj_lload_n (q := 52) d_M_isOpenAt_51 rfl rfl rfl ?_
    refine Rj_lload (q := 54) d_M_isOpenAt_52 rfl rfl ?_
    refine Rj_cs (q := 57) (z := y_M_floored) (as := [vL x, vL ((tee (μ 11) d) * (pts (μ 11)))]) (rest := [vL x, vL 2]) (la := [vL x, vU, vL ((tee (μ 11) d) * (pts (μ 11))), vU]) ml_M_343 mw_M_floored ms_M_floored d_M_isOpenAt_54 rfl rfl rfl rfl rfl ?_
    refine s_M_floored (by omega) (by omega) ?_
    refine Rj_lload (q := 59) d_M_isOpenAt_57 rfl rfl ?_
    refine Rj_lmul (q := 60) d_M_isOpenAt_59 rfl ?_
    refine Rj_lsub (q := 61) d_M_isOpenAt_60 rfl ?_
    rw [show x - ((x / ((tee (μ 11) d) * (pts (μ 11)))) * ((tee (μ 11) d) * (pts (μ 11)))) = x % (tee (μ 11) d * pts (μ 11)) from (by rw [Int.emod_def, Int.mul_comm (tee (μ 11) d * pts (μ 11))])]
    refine Rj_lmul (q := 62) d_M_isOpenAt_61 rfl ?_
    refine Rj_lload (q := 64) d_M_isOpenAt_62 rfl rfl ?_
    refine Rj_lc_ge (q := 65) (q2 := 68) (t := 72) d_M_isOpenAt_64 rfl d_M_isOpenAt_65 rfl (by decide) ⟨by omega, by omega⟩ ⟨by omega, by omega⟩ (fun c64 => ?_) (fun c64 => ?_)
    · refine Rj_iconst (q := 73) d_M_isOpenAt_72 rfl ?_
      refine Rj_bret0 d_M_isOpenAt_73 rfl ?_
      exact fin_I hQ (bF (by omega))
    · refine Rj_iconst (q := 69) d_M_isOpenAt_68 rfl ?_
      refine Rj_goto (t := 73) d_M_isOpenAt_69 (by decide) ?_
      refine Rj_bret1 d_M_isOpenAt_73 rfl ?_
      exact fin_I hQ (bT (by omega))
  · rw [if_pos (by omega)] at hQ
    refine Rj_ldc2 (q := 11) k_M_341 d_M_isOpenAt_8 rfl ?_
    refine Rj_lload_n (q := 12) d_M_isOpenAt_11 rfl rfl rfl ?_
    refine Rj_lmul (q := 13) d_M_isOpenAt_12 rfl ?_
    refine Rj_aload_n (q := 14) d_M_isOpenAt_13 rfl rfl rfl ?_
    refine Rj_iload_n (q := 15) d_M_isOpenAt_14 rfl rfl rfl ?_
    refine Rj_vo (q := 18) (z := y_M_span) (as := [vI d]) (rest := [vL (2 * x)]) (la := [vA 0, vI d]) oM_0_M_span ml_M_338 mw_M_span mv_M_span rfl d_M_isOpenAt_15 rfl rfl rfl rfl rfl ?_
    refine s_M_span (by omega) ?_
    refine Rj_i2l (q := 19) d_M_isOpenAt_18 rfl ⟨by omega, by omega⟩ ?_
    refine Rj_aload_n (q := 20) d_M_isOpenAt_19 rfl rfl rfl ?_
    refine Rj_gl (q := 23) (ki := 32) (v := pts (μ 11)) gM_M_64_0 rfl rfl hP d_M_isOpenAt_20 rfl ?_
    refine Rj_lmul (q := 24) d_M_isOpenAt_23 rfl ?_
    refine Rj_lc_lt (q := 25) (q2 := 28) (t := 32) d_M_isOpenAt_24 rfl d_M_isOpenAt_25 rfl (by decide) ⟨by omega, by omega⟩ ⟨by omega, by omega⟩ (fun c24 => ?_) (fun c24 => ?_)
    · refine Rj_iconst (q := 33) d_M_isOpenAt_32 rfl ?_
      refine Rj_bret0 d_M_isOpenAt_33 rfl ?_
      exact fin_I hQ (bF (by omega))
    · refine Rj_iconst (q := 29) d_M_isOpenAt_28 rfl ?_
      refine Rj_goto (t := 33) d_M_isOpenAt_29 (by decide) ?_
      refine Rj_bret1 d_M_isOpenAt_33 rfl ?_
      exact fin_I hQ (bT (by omega))
set_option maxHeartbeats 4000000 in
theorem s_M_isOpen {μ : Mem} {Q : PV → Mem → Prop} (h : MX μ) {d : Int} (hd : 0 ≤ d ∧ d < μ 11 0) (hQ : Q (vI (bI (opn (μ 11) (pts (μ 11)) d (μ 12 d)))) μ) : Rj YM y_M_isOpen 0 [vA 0, vI d] [] μ Q := by
  obtain ⟨z0, z1, z6, z5⟩ := h.z
  have pb := h.2.2.2.1 d hd.1 (by omega)
  refine Rj_aload_n (q := 1) d_M_isOpen_0 rfl rfl rfl ?_
  refine Rj_iload_n (q := 2) d_M_isOpen_1 rfl rfl rfl ?_
  refine Rj_aload_n (q := 3) d_M_isOpen_2 rfl rfl rfl ?_
  refine Rj_gr (q := 6) (zd := 12) gM_M_45_0 rfl rfl d_M_isOpen_3 rfl ?_
  refine Rj_iload_n (q := 7) d_M_isOpen_6 rfl rfl rfl ?_
  refine Rj_la (q := 8) (v := μ 12 d) aM_12 rfl (by omega) rfl d_M_isOpen_7 rfl ?_
  refine Rj_vo (q := 11) (z := y_M_isOpenAt) (as := [vI d, vL (μ 12 d)]) (rest := []) (la := [vA 0, vI d, vL (μ 12 d), vU]) oM_0_M_isOpenAt ml_M_346 mw_M_isOpenAt mv_M_isOpenAt rfl d_M_isOpen_8 rfl rfl rfl rfl rfl ?_
  refine s_M_isOpenAt h ⟨by omega, by omega⟩ (by omega) ?_
  refine Rj_bret d_M_isOpen_11 rfl ?_
  exact hQ
set_option maxHeartbeats 4000000 in
theorem s_M_openOnes_l : ∀ (f : Nat) {μ : Mem} {Q : PV → Mem → Prop} {s d : Int}, ((μ 11 0 - d).toNat < f) → (MX μ) → (0 ≤ d ∧ d ≤ μ 11 0) → (s = opS (μ 11) (pts (μ 11)) (μ 12) d.toNat) → (Q (vI (opS (μ 11) (pts (μ 11)) (μ 12) (μ 11 0).toNat)) μ) → Rj YM y_M_openOnes 4 [vA 0, vI s, vI d] [] μ Q := by
  intro f
  induction f with
  | zero => intro μ Q s d hf h hd hs hQ; exact absurd hf (by omega)
  | succ f ih =>
    intro μ Q s d hf h hd hs hQ
    obtain ⟨z0, z1, z6, z5⟩ := h.z
    refine Rj_iload_n (q := 5) d_M_openOnes_4 rfl rfl rfl ?_
    refine Rj_aload_n (q := 6) d_M_openOnes_5 rfl rfl rfl ?_
    refine Rj_gr (q := 9) (zd := 11) gM_M_42_0 rfl rfl d_M_openOnes_6 rfl ?_
    refine Rj_iconst (q := 10) d_M_openOnes_9 rfl ?_
    refine Rj_ia (q := 11) (v := μ 11 0) aM_11 rfl (by decide) rfl d_M_openOnes_10 rfl ?_
    refine Rj_icmp_ge (q := 14) (t := 38) d_M_openOnes_11 rfl (by decide) ⟨by omega, by omega⟩ ⟨by omega, by omega⟩ (fun c11 => ?_) (fun c11 => ?_)
    · have ed : d = μ 11 0 := by omega
      rw [ed] at hs
      refine Rj_iload_n (q := 39) d_M_openOnes_38 rfl rfl rfl ?_
      refine Rj_iret d_M_openOnes_39 rfl ?_
      exact fin_I hQ hs.symm
    · refine Rj_iload_n (q := 15) d_M_openOnes_14 rfl rfl rfl ?_
      refine Rj_aload_n (q := 16) d_M_openOnes_15 rfl rfl rfl ?_
      refine Rj_iload_n (q := 17) d_M_openOnes_16 rfl rfl rfl ?_
      refine Rj_vo (q := 20) (z := y_M_isOpen) (as := [vI d]) (rest := [vI s]) (la := [vA 0, vI d]) oM_0_M_isOpen ml_M_350 mw_M_isOpen mv_M_isOpen rfl d_M_openOnes_17 rfl rfl rfl rfl rfl ?_
      refine s_M_isOpen h ⟨by omega, by omega⟩ ?_
      refine Rj_b_eq (q := 23) (t := 29) d_M_openOnes_20 rfl (by decide) (fun c20 => ?_) (fun c20 => ?_)
      · refine Rj_iconst (q := 30) d_M_openOnes_29 rfl ?_
        refine Rj_ior (q := 31) (z := z_or s 0) d_M_openOnes_30 rfl rfl ?_
        refine Rj_istore_n (q := 32) (ls' := [vA 0, vI (z_or s 0), vI d]) d_M_openOnes_31 rfl rfl (by decide) rfl ?_
        refine Rj_iinc (q := 35) (ls' := [vA 0, vI (z_or s 0), vI (d + 1)]) d_M_openOnes_32 rfl rfl (by decide) rfl ?_
        refine Rj_goto (t := 4) d_M_openOnes_35 (by decide) ?_
        refine Rj_pre (ls' := [vA 0, vI (z_or s 0), vI (d + 1)]) (t := []) rfl ?_
        refine ih (by omega) h (by omega) ?_ hQ
        rw [show (d + 1).toNat = d.toNat + 1 by omega]
        unfold opS
        rw [← hs]
        simp only [show ((d.toNat : Nat) : Int) = d by omega]
        rw [if_neg (by rw [c20]; decide)]
      · refine Rj_iconst (q := 24) d_M_openOnes_23 rfl ?_
        refine Rj_iload_n (q := 25) d_M_openOnes_24 rfl rfl rfl ?_
        refine Rj_ishl (q := 26) (z := z_shl 1 d) d_M_openOnes_25 rfl rfl ?_
        refine Rj_goto (t := 30) d_M_openOnes_26 (by decide) ?_
        refine Rj_ior (q := 31) (z := z_or s (z_shl 1 d)) d_M_openOnes_30 rfl rfl ?_
        refine Rj_istore_n (q := 32) (ls' := [vA 0, vI (z_or s (z_shl 1 d)), vI d]) d_M_openOnes_31 rfl rfl (by decide) rfl ?_
        refine Rj_iinc (q := 35) (ls' := [vA 0, vI (z_or s (z_shl 1 d)), vI (d + 1)]) d_M_openOnes_32 rfl rfl (by decide) rfl ?_
        refine Rj_goto (t := 4) d_M_openOnes_35 (by decide) ?_
        refine Rj_pre (ls' := [vA 0, vI (z_or s (z_shl 1 d)), vI (d + 1)]) (t := []) rfl ?_
        refine ih (by omega) h (by omega) ?_ hQ
        rw [show (d + 1).toNat = d.toNat + 1 by omega]
        unfold opS
        rw [← hs]
        simp only [show ((d.toNat : Nat) : Int) = d by omega]
        rw [if_pos c20]
set_option maxHeartbeats 4000000 in
theorem s_M_openOnes {μ : Mem} {Q : PV → Mem → Prop} (h : MX μ) (hQ : Q (vI (opS (μ 11) (pts (μ 11)) (μ 12) (μ 11 0).toNat)) μ) : Rj YM y_M_openOnes 0 [vA 0] [] μ Q := by
  obtain ⟨z0, z1, z6, z5⟩ := h.z
  refine Rj_iconst (q := 1) d_M_openOnes_0 rfl ?_
  refine Rj_istore_n (q := 2) (ls' := [vA 0, vI 0]) d_M_openOnes_1 rfl rfl (by decide) rfl ?_
  refine Rj_iconst (q := 3) d_M_openOnes_2 rfl ?_
  refine Rj_istore_n (q := 4) (ls' := [vA 0, vI 0, vI 0]) d_M_openOnes_3 rfl rfl (by decide) rfl ?_
  exact s_M_openOnes_l _ (Nat.lt_succ_self _) h (by omega) rfl hQ
set_option maxHeartbeats 4000000 in
theorem s_M_pushes_l : ∀ (f : Nat) {μ : Mem} {Q : PV → Mem → Prop} {x n m d : Int}, ((μ 11 0 - d).toNat < f) → (MX μ) → (0 ≤ x ∧ x < μ 11 0) → (-60 ≤ n ∧ n ≤ 60) → (0 ≤ d ∧ d ≤ μ 11 0) → (Q (vI (psh (μ 11) (μ 14) (μ 15) (μ 16) (μ 12) (pts (μ 11)) x n f d m)) μ) → Rj YM y_M_pushes 33 [vA 0, vI x, vI n, vI m, vI d] [] μ Q := by
  intro f
  induction f with
  | zero => intro μ Q x n m d hf h hx hn hd hQ; exact absurd hf (by omega)
  | succ f ih =>
    intro μ Q x n m d hf h hx hn hd hQ
    obtain ⟨hS, hH, hP, hB, hFx⟩ := id h
    obtain ⟨z0, z1, z6, z5⟩ := h.z
    obtain ⟨trx, srx, lrx, krx, urx, unx, drx⟩ := Hu_d hS hH hx
    unfold psh at hQ
    refine Rj_iload (q := 35) d_M_pushes_33 rfl rfl ?_
    refine Rj_aload_n (q := 36) d_M_pushes_35 rfl rfl rfl ?_
    refine Rj_gr (q := 39) (zd := 11) gM_M_42_0 rfl rfl d_M_pushes_36 rfl ?_
    refine Rj_iconst (q := 40) d_M_pushes_39 rfl ?_
    refine Rj_ia (q := 41) (v := μ 11 0) aM_11 rfl (by decide) rfl d_M_pushes_40 rfl ?_
    refine Rj_icmp_ge (q := 44) (t := 99) d_M_pushes_41 rfl (by decide) ⟨by omega, by omega⟩ ⟨by omega, by omega⟩ (fun c41 => ?_) (fun c41 => ?_)
    · rw [if_neg (by omega)] at hQ
      refine Rj_iload_n (q := 100) d_M_pushes_99 rfl rfl rfl ?_
      refine Rj_iret d_M_pushes_100 rfl ?_
      exact hQ
    · have hd2 : 0 ≤ d ∧ d < μ 11 0 := ⟨hd.1, c41⟩
      rw [if_pos c41] at hQ
      obtain ⟨tr, sr, lr, kr, ur, un, dr⟩ := Hu_d hS hH hd2
      have pb := hB d hd.1 (by omega)
      refine Rj_aload_n (q := 45) d_M_pushes_44 rfl rfl rfl ?_
      refine Rj_iload_n (q := 46) d_M_pushes_45 rfl rfl rfl ?_
      refine Rj_iload (q := 48) d_M_pushes_46 rfl rfl ?_
      refine Rj_vo (q := 51) (z := y_M_areJoined) (as := [vI x, vI d]) (rest := []) (la := [vA 0, vI x, vI d]) oM_0_M_areJoined ml_M_363 mw_M_areJoined mv_M_areJoined rfl d_M_pushes_48 rfl rfl rfl rfl rfl ?_
      refine s_M_areJoined2 (by omega) (by omega) (show -1 ≤ μ 14 x ∧ μ 14 x < 12 by omega) (show -1 ≤ μ 14 d ∧ μ 14 d < 12 by omega) ?_
      refine Rj_b_ne (q := 54) (t := 57) d_M_pushes_51 rfl (by decide) (fun c51 => ?_) (fun c51 => ?_)
      · simp only [decide_eq_true_eq] at c51
        have ps := (pof_spec hS hH.1 hx hd2 lr.1 c51).2.2.2.1
        have m1 := mul_bd hn ps
        rw [if_pos c51.symm] at hQ
        refine Rj_aload_n (q := 58) d_M_pushes_57 rfl rfl rfl ?_
        refine Rj_iload (q := 60) d_M_pushes_58 rfl rfl ?_
        refine Rj_aload_n (q := 61) d_M_pushes_60 rfl rfl rfl ?_
        refine Rj_gr (q := 64) (zd := 12) gM_M_45_0 rfl rfl d_M_pushes_61 rfl ?_
        refine Rj_iload (q := 66) d_M_pushes_64 rfl rfl ?_
        refine Rj_la (q := 67) (v := μ 12 d) aM_12 rfl (by omega) rfl d_M_pushes_66 rfl ?_
        refine Rj_iload_n (q := 68) d_M_pushes_67 rfl rfl rfl ?_
        refine Rj_i2l (q := 69) d_M_pushes_68 rfl ⟨by omega, by omega⟩ ?_
        refine Rj_aload_n (q := 70) d_M_pushes_69 rfl rfl rfl ?_
        refine Rj_iload_n (q := 71) d_M_pushes_70 rfl rfl rfl ?_
        refine Rj_iload (q := 73) d_M_pushes_71 rfl rfl ?_
        refine Rj_vo (q := 76) (z := y_M_partsOf) (as := [vI x, vI d]) (rest := [vL n, vL (μ 12 d), vI d, vA 0]) (la := [vA 0, vI x, vI d]) oM_0_M_partsOf ml_M_366 mw_M_partsOf mv_M_partsOf rfl d_M_pushes_73 rfl rfl rfl rfl rfl ?_
        refine s_M_partsOf hS hH hP ⟨by omega, by omega⟩ ⟨by omega, by omega⟩ (by omega) ?_
        refine Rj_lmul (q := 77) d_M_pushes_76 rfl ?_
        refine Rj_ladd (q := 78) d_M_pushes_77 rfl ?_
        refine Rj_vo (q := 81) (z := y_M_isBeyond) (as := [vI d, vL ((μ 12 d) + (n * (pof (pts (μ 11)) (μ 15) (μ 16) x d)))]) (rest := []) (la := [vA 0, vI d, vL ((μ 12 d) + (n * (pof (pts (μ 11)) (μ 15) (μ 16) x d))), vU]) oM_0_M_isBeyond ml_M_369 mw_M_isBeyond mv_M_isBeyond rfl d_M_pushes_78 rfl rfl rfl rfl rfl ?_
        refine s_M_isBeyond h ⟨by omega, by omega⟩ (by omega) ?_
        refine Rj_b_eq (q := 84) (t := 90) d_M_pushes_81 rfl (by decide) (fun c81 => ?_) (fun c81 => ?_)
        · rw [if_neg (by rw [c81]; decide)] at hQ
          refine Rj_iinc (q := 93) (ls' := [vA 0, vI x, vI n, vI (m + 1), vI d]) d_M_pushes_90 rfl rfl (by decide) rfl ?_
          refine Rj_iinc (q := 96) (ls' := [vA 0, vI x, vI n, vI (m + 1), vI (d + 1)]) d_M_pushes_93 rfl rfl (by decide) rfl ?_
          refine Rj_goto (t := 33) d_M_pushes_96 (by decide) ?_
          exact ih (by omega) h hx hn (by omega) hQ
        · rw [if_pos c81] at hQ
          refine Rj_bipush (q := 86) d_M_pushes_84 rfl (by decide +kernel) ?_
          refine Rj_iload (q := 88) d_M_pushes_86 rfl rfl ?_
          refine Rj_isub (q := 89) d_M_pushes_88 rfl ?_
          refine Rj_iret d_M_pushes_89 rfl ?_
          exact hQ
      · simp only [decide_eq_false_iff_not] at c51
        rw [if_neg (by omega)] at hQ
        refine Rj_goto (t := 93) d_M_pushes_54 (by decide) ?_
        refine Rj_iinc (q := 96) (ls' := [vA 0, vI x, vI n, vI m, vI (d + 1)]) d_M_pushes_93 rfl rfl (by decide) rfl ?_
        refine Rj_goto (t := 33) d_M_pushes_96 (by decide) ?_
        exact ih (by omega) h hx hn (by omega) hQ
set_option maxHeartbeats 4000000 in
theorem s_M_pushes {μ : Mem} {Q : PV → Mem → Prop} (h : MX μ) {x n : Int} (hx : 0 ≤ x ∧ x < μ 11 0) (hn : -60 ≤ n ∧ n ≤ 60) (hQ : Q (vI (pushR (μ 11) (μ 14) (μ 15) (μ 16) (μ 17) (μ 12) (pts (μ 11)) x n)) μ) : Rj YM y_M_pushes 0 [vA 0, vI x, vI n] [] μ Q := by
  obtain ⟨hS, hH, hP, hB, hFx⟩ := id h
  obtain ⟨z0, z1, z6, z5⟩ := h.z
  obtain ⟨trx, srx, lrx, krx, urx, unx, drx⟩ := Hu_d hS hH hx
  unfold pushR at hQ
  refine Rj_aload_n (q := 1) d_M_pushes_0 rfl rfl rfl ?_
  refine Rj_gr (q := 4) (zd := 11) gM_M_42_0 rfl rfl d_M_pushes_1 rfl ?_
  refine Rj_iconst (q := 5) d_M_pushes_4 rfl ?_
  refine Rj_ia (q := 6) (v := μ 11 2) aM_11 rfl (by decide) rfl d_M_pushes_5 rfl ?_
  refine Rj_iload_n (q := 7) d_M_pushes_6 rfl rfl rfl ?_
  refine Rj_cs (q := 10) (z := y_M_isOf) (as := [vI (μ 11 2), vI x]) (rest := []) (la := [vI (μ 11 2), vI x]) ml_M_317 mw_M_isOf ms_M_isOf d_M_pushes_7 rfl rfl rfl rfl rfl ?_
  refine s_M_isOf ⟨by omega, by omega⟩ (by omega) ?_
  refine Rj_b_eq (q := 13) (t := 16) d_M_pushes_10 rfl (by decide) (fun c10 => ?_) (fun c10 => ?_)
  · simp only [decide_eq_false_iff_not] at c10
    rw [if_neg c10] at hQ
    refine Rj_aload_n (q := 17) d_M_pushes_16 rfl rfl rfl ?_
    refine Rj_gr (q := 20) (zd := 17) gM_M_60_0 rfl rfl d_M_pushes_17 rfl ?_
    refine Rj_iload_n (q := 21) d_M_pushes_20 rfl rfl rfl ?_
    refine Rj_za (q := 22) (v := μ 17 x) aM_17 rfl (by omega) rfl d_M_pushes_21 rfl ?_
    refine Rj_if_eq (q := 25) (t := 28) d_M_pushes_22 rfl (by decide) ⟨by omega, by omega⟩ (fun c22 => ?_) (fun c22 => ?_)
    · rw [if_neg (by omega)] at hQ
      refine Rj_iconst (q := 29) d_M_pushes_28 rfl ?_
      refine Rj_istore_n (q := 30) (ls' := [vA 0, vI x, vI n, vI 0]) d_M_pushes_29 rfl rfl (by decide) rfl ?_
      refine Rj_iconst (q := 31) d_M_pushes_30 rfl ?_
      refine Rj_istore (q := 33) (ls' := [vA 0, vI x, vI n, vI 0, vI 0]) d_M_pushes_31 rfl (by decide) rfl ?_
      exact s_M_pushes_l 13 (by omega) h hx hn (by omega) hQ
    · rw [if_pos (by omega)] at hQ
      refine Rj_bipush (q := 27) d_M_pushes_25 rfl (by decide +kernel) ?_
      refine Rj_iret d_M_pushes_27 rfl ?_
      exact hQ
  · simp only [decide_eq_true_eq] at c10
    rw [if_pos c10] at hQ
    refine Rj_bipush (q := 15) d_M_pushes_13 rfl (by decide +kernel) ?_
    refine Rj_iret d_M_pushes_15 rfl ?_
    exact hQ
set_option maxHeartbeats 4000000 in
theorem s_M_turnsAll_l : ∀ (f : Nat) {μ : Mem} {Q : PV → Mem → Prop} {x n d : Int}, ((μ 11 0 - d).toNat < f) → (StrOK (μ 11)) → (Hung (μ 11) 0 (μ 14) (μ 15) (μ 16) (μ 17)) → (μ 0 32 = pts (μ 11)) → (0 ≤ x ∧ x < μ 11 0) → (-60 ≤ n ∧ n ≤ 60) → (0 ≤ d ∧ d ≤ μ 11 0) → (∀ μ', Fr (fun c _ => c = 12) μ μ' → μ' 12 = (fun y => if d ≤ y ∧ y < μ 11 0 ∧ μ 14 y = μ 14 x then μ 12 y + n * pof (pts (μ 11)) (μ 15) (μ 16) x y else μ 12 y) → Q vU μ') → Rj YM y_M_turnsAll 2 [vA 0, vI x, vI n, vI d] [] μ Q := by
  intro f
  induction f with
  | zero => intro μ Q x n d hf hS hH hP hx hn hd hk; exact absurd hf (by omega)
  | succ f ih =>
    intro μ Q x n d hf hS hH hP hx hn hd hk
    have z0 := hS.1
    obtain ⟨trx, srx, lrx, krx, urx, unx, drx⟩ := Hu_d hS hH hx
    refine Rj_iload_n (q := 3) d_M_turnsAll_2 rfl rfl rfl ?_
    refine Rj_aload_n (q := 4) d_M_turnsAll_3 rfl rfl rfl ?_
    refine Rj_gr (q := 7) (zd := 11) gM_M_42_0 rfl rfl d_M_turnsAll_4 rfl ?_
    refine Rj_iconst (q := 8) d_M_turnsAll_7 rfl ?_
    refine Rj_ia (q := 9) (v := μ 11 0) aM_11 rfl (by decide) rfl d_M_turnsAll_8 rfl ?_
    refine Rj_icmp_ge (q := 12) (t := 45) d_M_turnsAll_9 rfl (by decide) ⟨by omega, by omega⟩ ⟨by omega, by omega⟩ (fun c9 => ?_) (fun c9 => ?_)
    · refine Rj_vret d_M_turnsAll_45 rfl ?_
      exact hk μ (Fr.refl _ _) (funext fun y => by rw [if_neg (by omega)])
    · have hd2 : 0 ≤ d ∧ d < μ 11 0 := ⟨hd.1, c9⟩
      obtain ⟨tr, sr, lr, kr, ur, un, dr⟩ := Hu_d hS hH hd2
      refine Rj_aload_n (q := 13) d_M_turnsAll_12 rfl rfl rfl ?_
      refine Rj_iload_n (q := 14) d_M_turnsAll_13 rfl rfl rfl ?_
      refine Rj_iload_n (q := 15) d_M_turnsAll_14 rfl rfl rfl ?_
      refine Rj_vo (q := 18) (z := y_M_areJoined) (as := [vI x, vI d]) (rest := []) (la := [vA 0, vI x, vI d]) oM_0_M_areJoined ml_M_363 mw_M_areJoined mv_M_areJoined rfl d_M_turnsAll_15 rfl rfl rfl rfl rfl ?_
      refine s_M_areJoined2 (by omega) (by omega) (show -1 ≤ μ 14 x ∧ μ 14 x < 12 by omega) (show -1 ≤ μ 14 d ∧ μ 14 d < 12 by omega) ?_
      refine Rj_b_eq (q := 21) (t := 39) d_M_turnsAll_18 rfl (by decide) (fun c18 => ?_) (fun c18 => ?_)
      · simp only [decide_eq_false_iff_not] at c18
        refine Rj_iinc (q := 42) (ls' := [vA 0, vI x, vI n, vI (d + 1)]) d_M_turnsAll_39 rfl rfl (by decide) rfl ?_
        refine Rj_goto (t := 2) d_M_turnsAll_42 (by decide) ?_
        refine ih (μ := μ) (show (μ 11 0 - (d + 1)).toNat < f by omega) hS hH hP hx hn (show 0 ≤ d + 1 ∧ d + 1 ≤ μ 11 0 by omega) (fun m f q => hk m (Fr.trans (Fr.refl _ _) f) ?_)
        rw [q]
        funext y
        by_cases e2 : d + 1 ≤ y ∧ y < μ 11 0 ∧ μ 14 y = μ 14 x
        · rw [if_pos e2, if_pos ⟨by omega, e2.2⟩]
        · rw [if_neg e2, if_neg (fun q => e2 ⟨by
            by_cases e : y = d
            · subst e; exact absurd q.2.2.symm c18
            · omega, q.2⟩)]
      · simp only [decide_eq_true_eq] at c18
        refine Rj_aload_n (q := 22) d_M_turnsAll_21 rfl rfl rfl ?_
        refine Rj_gr (q := 25) (zd := 12) gM_M_45_0 rfl rfl d_M_turnsAll_22 rfl ?_
        refine Rj_iload_n (q := 26) d_M_turnsAll_25 rfl rfl rfl ?_
        refine Rj_dup2 (q := 27) d_M_turnsAll_26 rfl (by intro h; cases h) (by intro h; cases h) ?_
        refine Rj_la (q := 28) (v := μ 12 d) aM_12 rfl (by omega) rfl d_M_turnsAll_27 rfl ?_
        refine Rj_iload_n (q := 29) d_M_turnsAll_28 rfl rfl rfl ?_
        refine Rj_i2l (q := 30) d_M_turnsAll_29 rfl ⟨by omega, by omega⟩ ?_
        refine Rj_aload_n (q := 31) d_M_turnsAll_30 rfl rfl rfl ?_
        refine Rj_iload_n (q := 32) d_M_turnsAll_31 rfl rfl rfl ?_
        refine Rj_iload_n (q := 33) d_M_turnsAll_32 rfl rfl rfl ?_
        refine Rj_vo (q := 36) (z := y_M_partsOf) (as := [vI x, vI d]) (rest := [vL n, vL (μ 12 d), vI d, vA 12]) (la := [vA 0, vI x, vI d]) oM_0_M_partsOf ml_M_366 mw_M_partsOf mv_M_partsOf rfl d_M_turnsAll_33 rfl rfl rfl rfl rfl ?_
        refine s_M_partsOf hS hH hP ⟨by omega, by omega⟩ ⟨by omega, by omega⟩ (by omega) ?_
        refine Rj_lmul (q := 37) d_M_turnsAll_36 rfl ?_
        refine Rj_ladd (q := 38) d_M_turnsAll_37 rfl ?_
        refine Rj_lst (q := 39) aM_12 rfl (by omega) d_M_turnsAll_38 rfl ?_
        refine Rj_iinc (q := 42) (ls' := [vA 0, vI x, vI n, vI (d + 1)]) d_M_turnsAll_39 rfl rfl (by decide) rfl ?_
        refine Rj_goto (t := 2) d_M_turnsAll_42 (by decide) ?_
        refine ih (μ := (mset μ 12 d ((μ 12 d) + (n * (pof (pts (μ 11)) (μ 15) (μ 16) x d))))) (show (μ 11 0 - (d + 1)).toNat < f by omega) hS hH hP hx hn (show 0 ≤ d + 1 ∧ d + 1 ≤ μ 11 0 by omega) (fun m f q => hk m (Fr.trans (Fr.put (Fr.refl _ _) rfl) f) ?_)
        rw [q]
        funext y
        by_cases e : y = d
        · subst e
          rw [if_neg (by omega), mset_same, if_pos ⟨by omega, hd2.2, c18.symm⟩]
        · show (if d + 1 ≤ y ∧ y < μ 11 0 ∧ μ 14 y = μ 14 x then mset μ 12 d _ 12 y + n * pof (pts (μ 11)) (μ 15) (μ 16) x y else mset μ 12 d _ 12 y) = _
          rw [mset_ne _ _ _ _ _ e]
          by_cases e2 : d + 1 ≤ y ∧ y < μ 11 0 ∧ μ 14 y = μ 14 x
          · rw [if_pos e2, if_pos ⟨by omega, e2.2⟩]
          · rw [if_neg e2, if_neg (fun q => e2 ⟨by omega, q.2⟩)]
set_option maxHeartbeats 4000000 in
theorem s_M_turnsAll {μ : Mem} {Q : PV → Mem → Prop} (h : MX μ) {x n : Int} (hx : 0 ≤ x ∧ x < μ 11 0) (hn : -60 ≤ n ∧ n ≤ 60) (hk : ∀ μ', Fr (fun c _ => c = 12) μ μ' → μ' 12 = trn (μ 11) (μ 14) (μ 15) (μ 16) (μ 12) (pts (μ 11)) x n → Q vU μ') : Rj YM y_M_turnsAll 0 [vA 0, vI x, vI n] [] μ Q := by
  obtain ⟨hS, hH, hP, hB, hFx⟩ := id h
  obtain ⟨z0, z1, z6, z5⟩ := h.z
  refine Rj_iconst (q := 1) d_M_turnsAll_0 rfl ?_
  refine Rj_istore_n (q := 2) (ls' := [vA 0, vI x, vI n, vI 0]) d_M_turnsAll_1 rfl rfl (by decide) rfl ?_
  exact s_M_turnsAll_l _ (Nat.lt_succ_self _) hS hH hP hx hn (by omega) hk
