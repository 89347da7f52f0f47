theorem gD_Pl_29_74 : GI YD "DoorsOnCogs$Planner" 29 74 1 (some (some 59)) := ⟨by decide, _, _, _, fl_Pl_29, cD_74, by decide, rfl⟩
theorem gD_Pl_128_59 : GI YD "DoorsOnCogs$Planner" 128 59 4 (some (some 63)) := ⟨by decide, _, _, _, fl_Pl_128, cD_59, by decide, rfl⟩
theorem gD_Pl_67_74 : GI YD "DoorsOnCogs$Planner" 67 74 9 none := ⟨by decide, _, _, _, fl_Pl_67, cD_74, by decide, rfl⟩
theorem gD_Pl_25_74 : GI YD "DoorsOnCogs$Planner" 25 74 0 (some (some 3)) := ⟨by decide, _, _, _, fl_Pl_25, cD_74, by decide, rfl⟩
theorem gD_Pl_125_3 : GI YD "DoorsOnCogs$Planner" 125 3 9 (some (some 9)) := ⟨by decide, _, _, _, fl_Pl_125, cD_3, by decide, rfl⟩
/-! the class: is a door open behind a turn of its set -/
set_option maxHeartbeats 4000000 in
theorem s_isOpenBehind {μ : Mem} {Q : PV → Mem → Prop} {S lo up dn lk pl : Int → Int} (h : GX μ S lo up dn lk pl) {l x t w V : Int} (hl : 0 ≤ l ∧ l < S 0) (hf : μ 74 9 = l) (hx : 0 ≤ x ∧ x < S 0) (hw : t * μ 64 (l * 12 + x) = w * μ 63 l) (hwb : -30000000000 ≤ w ∧ w ≤ 30000000000) (hV : w * pts S = V * μ 63 x) (hQ : Q (vI (bI (opn S (pts S) x (pl x + V)))) μ) : Rj YD y_Pl_isOpenBehind 0 [vA 74, vI x, vL t, vU] [] μ Q := by
  obtain ⟨z0, z1, z2, z3, z4, z5, z6, z7⟩ := h.z
  obtain ⟨dt, dsp, tr, sr, br, bp, sc, lr, lq, mr, pr, kr, zk⟩ := h.d hx
  obtain ⟨dtl, dspl, trl, srl, brl, bpl, scl, lrl, lql, mrl, prl, krl, zkl⟩ := h.d hl
  have mw := mul_bd hwb (show -216000 ≤ μ 63 l ∧ μ 63 l ≤ 216000 by omega)
  have ev : (t * μ 64 (l * 12 + x)).tdiv (μ 63 l) = w := by rw [hw, Int.mul_comm, tdiv_mul (by omega)]
  refine Rj_aload_n (q := 1) d_Pl_isOpenBehind_0 rfl rfl rfl ?_
  refine Rj_gr (q := 4) (zd := 59) gD_Pl_29_74 rfl rfl d_Pl_isOpenBehind_1 rfl ?_
  refine Rj_gr (q := 7) (zd := 63) gD_Pl_128_59 rfl rfl d_Pl_isOpenBehind_4 rfl ?_
  refine Rj_aload_n (q := 8) d_Pl_isOpenBehind_7 rfl rfl rfl ?_
  refine Rj_gi (q := 11) (ki := 9) (v := l) gD_Pl_67_74 rfl rfl hf d_Pl_isOpenBehind_8 rfl ?_
  refine Rj_la (q := 12) (v := μ 63 l) aD_63 rfl (by omega) rfl d_Pl_isOpenBehind_11 rfl ?_
  refine Rj_lstore (q := 14) (ls' := [vA 74, vI x, vL t, vU, vL (μ 63 l), vU]) d_Pl_isOpenBehind_12 rfl (by decide) rfl ?_
  refine Rj_lload (q := 16) d_Pl_isOpenBehind_14 rfl rfl ?_
  refine Rj_lconst (q := 17) (z := 0) d_Pl_isOpenBehind_16 rfl rfl ?_
  refine Rj_lc_le (q := 18) (q2 := 21) (t := 41) d_Pl_isOpenBehind_17 rfl d_Pl_isOpenBehind_18 rfl (by decide) ⟨by omega, by omega⟩ (by decide) (fun c17 => ?_) (fun c17 => ?_)
  · exact absurd c17 (by omega)
  · refine Rj_lload_n (q := 22) d_Pl_isOpenBehind_21 rfl rfl rfl ?_
    refine Rj_aload_n (q := 23) d_Pl_isOpenBehind_22 rfl rfl rfl ?_
    refine Rj_gr (q := 26) (zd := 59) gD_Pl_29_74 rfl rfl d_Pl_isOpenBehind_23 rfl ?_
    refine Rj_aload_n (q := 27) d_Pl_isOpenBehind_26 rfl rfl rfl ?_
    refine Rj_gi (q := 30) (ki := 9) (v := l) gD_Pl_67_74 rfl rfl hf d_Pl_isOpenBehind_27 rfl ?_
    refine Rj_iload_n (q := 31) d_Pl_isOpenBehind_30 rfl rfl rfl ?_
    refine Rj_vo (q := 34) (z := y_Ge_stepOf) (as := [vI l, vI x]) (rest := [vL t]) (la := [vA 59, vI l, vI x]) oD_59_Ge_stepOf ml_Pl_101 mw_Ge_stepOf mv_Ge_stepOf rfl d_Pl_isOpenBehind_31 rfl rfl rfl rfl rfl ?_
    refine Rj_aload_n (q := 1) d_Ge_stepOf_0 rfl rfl rfl ?_
    refine Rj_gr (q := 4) (zd := 64) gD_Ge_25_59 rfl rfl d_Ge_stepOf_1 rfl ?_
    refine Rj_iload_n (q := 5) d_Ge_stepOf_4 rfl rfl rfl ?_
    refine Rj_bipush (q := 7) d_Ge_stepOf_5 rfl (by decide +kernel) ?_
    refine Rj_imul (q := 8) d_Ge_stepOf_7 rfl ?_
    refine Rj_iload_n (q := 9) d_Ge_stepOf_8 rfl rfl rfl ?_
    refine Rj_iadd (q := 10) d_Ge_stepOf_9 rfl ?_
    refine Rj_la (q := 11) (v := μ 64 ((l * 12) + x)) aD_64 rfl (by omega) rfl d_Ge_stepOf_10 rfl ?_
    refine Rj_lret d_Ge_stepOf_11 rfl ?_
    refine Rj_lmul (q := 35) d_Pl_isOpenBehind_34 rfl ?_
    refine Rj_lload (q := 37) d_Pl_isOpenBehind_35 rfl rfl ?_
    refine Rj_ldiv (q := 38) d_Pl_isOpenBehind_37 rfl ⟨by omega, by omega⟩ ⟨by omega, by omega⟩ (by omega) ?_
    refine Rj_goto (t := 42) d_Pl_isOpenBehind_38 (by decide) ?_
    refine Rj_lstore (q := 44) (ls' := [vA 74, vI x, vL t, vU, vL (μ 63 l), vU, vL ((t * (μ 64 ((l * 12) + x))).tdiv (μ 63 l)), vU]) d_Pl_isOpenBehind_42 rfl (by decide) rfl ?_
    refine Rj_aload_n (q := 45) d_Pl_isOpenBehind_44 rfl rfl rfl ?_
    refine Rj_gr (q := 48) (zd := 59) gD_Pl_29_74 rfl rfl d_Pl_isOpenBehind_45 rfl ?_
    refine Rj_iload_n (q := 49) d_Pl_isOpenBehind_48 rfl rfl rfl ?_
    refine Rj_aload_n (q := 50) d_Pl_isOpenBehind_49 rfl rfl rfl ?_
    refine Rj_gr (q := 53) (zd := 3) gD_Pl_25_74 rfl rfl d_Pl_isOpenBehind_50 rfl ?_
    refine Rj_gr (q := 56) (zd := 9) gD_Pl_125_3 rfl rfl d_Pl_isOpenBehind_53 rfl ?_
    refine Rj_iload_n (q := 57) d_Pl_isOpenBehind_56 rfl rfl rfl ?_
    refine Rj_la (q := 58) (v := μ 9 x) aD_9 rfl (by omega) rfl d_Pl_isOpenBehind_57 rfl ?_
    refine Rj_lload (q := 60) d_Pl_isOpenBehind_58 rfl rfl ?_
    refine Rj_ladd (q := 61) d_Pl_isOpenBehind_60 rfl ?_
    refine Rj_vo (q := 64) (z := y_Ge_isOpenAt) (as := [vI x, vL ((μ 9 x) + ((t * (μ 64 ((l * 12) + x))).tdiv (μ 63 l)))]) (rest := []) (la := [vA 59, vI x, vL ((μ 9 x) + ((t * (μ 64 ((l * 12) + x))).tdiv (μ 63 l))), vU]) oD_59_Ge_isOpenAt ml_Pl_169 mw_Ge_isOpenAt mv_Ge_isOpenAt rfl d_Pl_isOpenBehind_61 rfl rfl rfl rfl rfl ?_
    refine s_isOpenAt h (x := pl x + V) hx (by rw [ev, Int.add_mul, Int.add_mul, sc, hV]) (by rw [ev]; omega) ?_
    refine Rj_bret d_Pl_isOpenBehind_64 rfl ?_
    exact hQ
