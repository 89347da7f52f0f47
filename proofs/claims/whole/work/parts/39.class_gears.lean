theorem gD_Ge_128_3 : GI YD "DoorsOnCogs$Gears" 128 3 2 (some (some 5)) := ⟨by decide, _, _, _, fl_Ge_128, cD_3, by decide, rfl⟩
theorem aD_5 : AI YD 5 (.int) 12 := ⟨by decide, cD_5, by decide⟩
theorem gD_Ge_117_3 : GI YD "DoorsOnCogs$Gears" 117 3 9 (some (some 9)) := ⟨by decide, _, _, _, fl_Ge_117, cD_3, by decide, rfl⟩
theorem aD_9 : AI YD 9 (.long) 12 := ⟨by decide, cD_9, by decide⟩
theorem oD_59_Ge_isOpenAt : OI YD 59 y_Ge_isOpenAt := ⟨by decide, _, _, _, cD_59, rfl⟩
theorem oD_59_Ge_stepOf : OI YD 59 y_Ge_stepOf := ⟨by decide, _, _, _, cD_59, rfl⟩
theorem oD_59_Ge_isBeyond : OI YD 59 y_Ge_isBeyond := ⟨by decide, _, _, _, cD_59, rfl⟩
theorem gD_Ge_114_3 : GI YD "DoorsOnCogs$Gears" 114 3 3 none := ⟨by decide, _, _, _, fl_Ge_114, cD_3, by decide, rfl⟩
/-! the class: what is open, what is beyond, pushes, turns -/
set_option maxHeartbeats 4000000 in
theorem s_isBeyond {μ : Mem} {Q : PV → Mem → Prop} {S lo up dn lk pl : Int → Int} (h : GX μ S lo up dn lk pl) {d s x : Int} (hd : 0 ≤ d ∧ d < S 0) (hs : s * pts S = x * μ 63 d) (hr : -4000000000000000000 ≤ s ∧ s ≤ 4000000000000000000) (hQ : Q (vI (bI (byd S (pts S) d x))) μ) : Rj YD y_Ge_isBeyond 0 [vA 59, vI d, vL s, vU] [] μ Q := by
  obtain ⟨z0, z1, z2, z3, z4, z5, z6, z7⟩ := h.z
  obtain ⟨dt, dsp, tr, sr, br, bp, sc, lr, lq, mr, pr, kr, zk⟩ := h.d hd
  have m1 := mul_bd (show -60 ≤ μ 5 d ∧ μ 5 d ≤ 60 by omega) (show -216000 ≤ μ 63 d ∧ μ 63 d ≤ 216000 by omega)
  rw [← byd_sc (by omega) br.1 hs] at hQ
  unfold byd at hQ
  rw [← dsp] at hQ
  refine Rj_aload_n (q := 1) d_Ge_isBeyond_0 rfl rfl rfl ?_
  refine Rj_gr (q := 4) (zd := 3) gD_Ge_31_59 rfl rfl d_Ge_isBeyond_1 rfl ?_
  refine Rj_gr (q := 7) (zd := 5) gD_Ge_128_3 rfl rfl d_Ge_isBeyond_4 rfl ?_
  refine Rj_iload_n (q := 8) d_Ge_isBeyond_7 rfl rfl rfl ?_
  refine Rj_ia (q := 9) (v := μ 5 d) aD_5 rfl (by omega) rfl d_Ge_isBeyond_8 rfl ?_
  refine Rj_if_ne (q := 12) (t := 14) d_Ge_isBeyond_9 rfl (by decide) ⟨by omega, by omega⟩ (fun c9 => ?_) (fun c9 => ?_)
  · refine Rj_lload_n (q := 15) d_Ge_isBeyond_14 rfl rfl rfl ?_
    refine Rj_lconst (q := 16) (z := 0) d_Ge_isBeyond_15 rfl rfl ?_
    refine Rj_lc_lt (q := 17) (q2 := 20) (t := 42) d_Ge_isBeyond_16 rfl d_Ge_isBeyond_17 rfl (by decide) ⟨by omega, by omega⟩ (by decide) (fun c16 => ?_) (fun c16 => ?_)
    · refine Rj_iconst (q := 43) d_Ge_isBeyond_42 rfl ?_
      refine Rj_goto (t := 47) d_Ge_isBeyond_43 (by decide) ?_
      refine Rj_bret1 d_Ge_isBeyond_47 rfl ?_
      exact fin_I hQ (bT (by omega))
    · refine Rj_lload_n (q := 21) d_Ge_isBeyond_20 rfl rfl rfl ?_
      refine Rj_aload_n (q := 22) d_Ge_isBeyond_21 rfl rfl rfl ?_
      refine Rj_gr (q := 25) (zd := 3) gD_Ge_31_59 rfl rfl d_Ge_isBeyond_22 rfl ?_
      refine Rj_gr (q := 28) (zd := 5) gD_Ge_128_3 rfl rfl d_Ge_isBeyond_25 rfl ?_
      refine Rj_iload_n (q := 29) d_Ge_isBeyond_28 rfl rfl rfl ?_
      refine Rj_ia (q := 30) (v := μ 5 d) aD_5 rfl (by omega) rfl d_Ge_isBeyond_29 rfl ?_
      refine Rj_i2l (q := 31) d_Ge_isBeyond_30 rfl ⟨by omega, by omega⟩ ?_
      refine Rj_aload_n (q := 32) d_Ge_isBeyond_31 rfl rfl rfl ?_
      refine Rj_gr (q := 35) (zd := 63) gD_Ge_22_59 rfl rfl d_Ge_isBeyond_32 rfl ?_
      refine Rj_iload_n (q := 36) d_Ge_isBeyond_35 rfl rfl rfl ?_
      refine Rj_la (q := 37) (v := μ 63 d) aD_63 rfl (by omega) rfl d_Ge_isBeyond_36 rfl ?_
      refine Rj_lmul (q := 38) d_Ge_isBeyond_37 rfl ?_
      refine Rj_lc_le (q := 39) (q2 := 42) (t := 46) d_Ge_isBeyond_38 rfl d_Ge_isBeyond_39 rfl (by decide) ⟨by omega, by omega⟩ ⟨by omega, by omega⟩ (fun c38 => ?_) (fun c38 => ?_)
      · refine Rj_iconst (q := 47) d_Ge_isBeyond_46 rfl ?_
        refine Rj_bret0 d_Ge_isBeyond_47 rfl ?_
        exact fin_I hQ (bF (by omega))
      · refine Rj_iconst (q := 43) d_Ge_isBeyond_42 rfl ?_
        refine Rj_goto (t := 47) d_Ge_isBeyond_43 (by decide) ?_
        refine Rj_bret1 d_Ge_isBeyond_47 rfl ?_
        exact fin_I hQ (bT (by omega))
  · refine Rj_iconst (q := 13) d_Ge_isBeyond_12 rfl ?_
    refine Rj_bret0 d_Ge_isBeyond_13 rfl ?_
    exact fin_I hQ (bF (by omega))
set_option maxHeartbeats 4000000 in
theorem s_isOpenAt {μ : Mem} {Q : PV → Mem → Prop} {S lo up dn lk pl : Int → Int} (h : GX μ S lo up dn lk pl) {d s x : Int} (hd : 0 ≤ d ∧ d < S 0) (hs : s * pts S = x * μ 63 d) (hr : -4000000000000000000 ≤ s ∧ s ≤ 4000000000000000000) (hQ : Q (vI (bI (opn S (pts S) d x))) μ) : Rj YD y_Ge_isOpenAt 0 [vA 59, vI d, vL s, vU] [] μ Q := by
  obtain ⟨z0, z1, z2, z3, z4, z5, z6, z7⟩ := h.z
  obtain ⟨dt, dsp, tr, sr, br, bp, sc, lr, lq, mr, pr, kr, zk⟩ := h.d hd
  have m1 := mul_bd (show -60 ≤ μ 5 d ∧ μ 5 d ≤ 60 by omega) (show -216000 ≤ μ 63 d ∧ μ 63 d ≤ 216000 by omega)
  have m2 := mul_bd (show -60 ≤ μ 4 d ∧ μ 4 d ≤ 60 by omega) (show -216000 ≤ μ 63 d ∧ μ 63 d ≤ 216000 by omega)
  have m3 : 0 < μ 4 d * μ 63 d := Int.mul_pos (by omega) (by omega)
  have m4 := Int.emod_nonneg s (show μ 4 d * μ 63 d ≠ 0 by omega)
  have m5 := Int.emod_lt_of_pos s m3
  rw [← opn_sc (by omega) br.1 hs] at hQ
  unfold opn at hQ
  rw [← dsp, ← dt] at hQ
  refine Rj_aload_n (q := 1) d_Ge_isOpenAt_0 rfl rfl rfl ?_
  refine Rj_gr (q := 4) (zd := 3) gD_Ge_31_59 rfl rfl d_Ge_isOpenAt_1 rfl ?_
  refine Rj_gr (q := 7) (zd := 5) gD_Ge_128_3 rfl rfl d_Ge_isOpenAt_4 rfl ?_
  refine Rj_iload_n (q := 8) d_Ge_isOpenAt_7 rfl rfl rfl ?_
  refine Rj_ia (q := 9) (v := μ 5 d) aD_5 rfl (by omega) rfl d_Ge_isOpenAt_8 rfl ?_
  refine Rj_if_le (q := 12) (t := 44) d_Ge_isOpenAt_9 rfl (by decide) ⟨by omega, by omega⟩ (fun c9 => ?_) (fun c9 => ?_)
  · rw [if_neg (by omega)] at hQ
    refine Rj_aload_n (q := 45) d_Ge_isOpenAt_44 rfl rfl rfl ?_
    refine Rj_gr (q := 48) (zd := 3) gD_Ge_31_59 rfl rfl d_Ge_isOpenAt_45 rfl ?_
    refine Rj_gr (q := 51) (zd := 4) gD_Ge_95_3 rfl rfl d_Ge_isOpenAt_48 rfl ?_
    refine Rj_iload_n (q := 52) d_Ge_isOpenAt_51 rfl rfl rfl ?_
    refine Rj_ia (q := 53) (v := μ 4 d) aD_4 rfl (by omega) rfl d_Ge_isOpenAt_52 rfl ?_
    refine Rj_i2l (q := 54) d_Ge_isOpenAt_53 rfl ⟨by omega, by omega⟩ ?_
    refine Rj_aload_n (q := 55) d_Ge_isOpenAt_54 rfl rfl rfl ?_
    refine Rj_gr (q := 58) (zd := 63) gD_Ge_22_59 rfl rfl d_Ge_isOpenAt_55 rfl ?_
    refine Rj_iload_n (q := 59) d_Ge_isOpenAt_58 rfl rfl rfl ?_
    refine Rj_la (q := 60) (v := μ 63 d) aD_63 rfl (by omega) rfl d_Ge_isOpenAt_59 rfl ?_
    refine Rj_lmul (q := 61) d_Ge_isOpenAt_60 rfl ?_
    refine Rj_lstore (q := 63) (ls' := [vA 59, vI d, vL s, vU, vL ((μ 4 d) * (μ 63 d)), vU]) d_Ge_isOpenAt_61 rfl (by decide) rfl ?_
    refine Rj_lload (q := 65) d_Ge_isOpenAt_63 rfl rfl ?_
    refine Rj_lconst (q := 66) (z := 0) d_Ge_isOpenAt_65 rfl rfl ?_
    refine Rj_lc_le (q := 67) (q2 := 70) (t := 90) d_Ge_isOpenAt_66 rfl d_Ge_isOpenAt_67 rfl (by decide) ⟨by omega, by omega⟩ (by decide) (fun c66 => ?_) (fun c66 => ?_)
    · exact absurd c66 (by omega)
    · refine Rj_ldc2 (q := 73) k_Ge_134 d_Ge_isOpenAt_70 rfl ?_
      refine Rj_lload_n (q := 74) d_Ge_isOpenAt_73 rfl rfl rfl ?_
      refine Rj_lload (q := 76) d_Ge_isOpenAt_74 rfl rfl ?_
      refine Rj_cs (q := 79) (z := y_Jmath_floorMod) (as := [vL s, vL ((μ 4 d) * (μ 63 d))]) (rest := [vL 2]) (la := [vL s, vU, vL ((μ 4 d) * (μ 63 d)), vU]) ml_Ge_136 mw_Jmath_floorMod ms_Jmath_floorMod d_Ge_isOpenAt_76 rfl rfl rfl rfl rfl ?_
      refine s_J_floorMod (by omega) (by omega) ?_
      refine Rj_lmul (q := 80) d_Ge_isOpenAt_79 rfl ?_
      refine Rj_lload (q := 82) d_Ge_isOpenAt_80 rfl rfl ?_
      refine Rj_lc_ge (q := 83) (q2 := 86) (t := 90) d_Ge_isOpenAt_82 rfl d_Ge_isOpenAt_83 rfl (by decide) ⟨by omega, by omega⟩ ⟨by omega, by omega⟩ (fun c82 => ?_) (fun c82 => ?_)
      · refine Rj_iconst (q := 91) d_Ge_isOpenAt_90 rfl ?_
        refine Rj_bret0 d_Ge_isOpenAt_91 rfl ?_
        exact fin_I hQ (bF (by omega))
      · refine Rj_iconst (q := 87) d_Ge_isOpenAt_86 rfl ?_
        refine Rj_goto (t := 91) d_Ge_isOpenAt_87 (by decide) ?_
        refine Rj_bret1 d_Ge_isOpenAt_91 rfl ?_
        exact fin_I hQ (bT (by omega))
  · rw [if_pos (by omega)] at hQ
    refine Rj_ldc2 (q := 15) k_Ge_134 d_Ge_isOpenAt_12 rfl ?_
    refine Rj_lload_n (q := 16) d_Ge_isOpenAt_15 rfl rfl rfl ?_
    refine Rj_lmul (q := 17) d_Ge_isOpenAt_16 rfl ?_
    refine Rj_aload_n (q := 18) d_Ge_isOpenAt_17 rfl rfl rfl ?_
    refine Rj_gr (q := 21) (zd := 3) gD_Ge_31_59 rfl rfl d_Ge_isOpenAt_18 rfl ?_
    refine Rj_gr (q := 24) (zd := 5) gD_Ge_128_3 rfl rfl d_Ge_isOpenAt_21 rfl ?_
    refine Rj_iload_n (q := 25) d_Ge_isOpenAt_24 rfl rfl rfl ?_
    refine Rj_ia (q := 26) (v := μ 5 d) aD_5 rfl (by omega) rfl d_Ge_isOpenAt_25 rfl ?_
    refine Rj_i2l (q := 27) d_Ge_isOpenAt_26 rfl ⟨by omega, by omega⟩ ?_
    refine Rj_aload_n (q := 28) d_Ge_isOpenAt_27 rfl rfl rfl ?_
    refine Rj_gr (q := 31) (zd := 63) gD_Ge_22_59 rfl rfl d_Ge_isOpenAt_28 rfl ?_
    refine Rj_iload_n (q := 32) d_Ge_isOpenAt_31 rfl rfl rfl ?_
    refine Rj_la (q := 33) (v := μ 63 d) aD_63 rfl (by omega) rfl d_Ge_isOpenAt_32 rfl ?_
    refine Rj_lmul (q := 34) d_Ge_isOpenAt_33 rfl ?_
    refine Rj_lc_lt (q := 35) (q2 := 38) (t := 42) d_Ge_isOpenAt_34 rfl d_Ge_isOpenAt_35 rfl (by decide) ⟨by omega, by omega⟩ ⟨by omega, by omega⟩ (fun c34 => ?_) (fun c34 => ?_)
    · refine Rj_iconst (q := 43) d_Ge_isOpenAt_42 rfl ?_
      refine Rj_bret0 d_Ge_isOpenAt_43 rfl ?_
      exact fin_I hQ (bF (by omega))
    · refine Rj_iconst (q := 39) d_Ge_isOpenAt_38 rfl ?_
      refine Rj_goto (t := 43) d_Ge_isOpenAt_39 (by decide) ?_
      refine Rj_bret1 d_Ge_isOpenAt_43 rfl ?_
      exact fin_I hQ (bT (by omega))
set_option maxHeartbeats 4000000 in
theorem s_isOpen {μ : Mem} {Q : PV → Mem → Prop} {S lo up dn lk pl : Int → Int} (h : GX μ S lo up dn lk pl) {d : Int} (hd : 0 ≤ d ∧ d < S 0) (hQ : Q (vI (bI (opn S (pts S) d (pl d)))) μ) : Rj YD y_Ge_isOpen 0 [vA 59, vI d] [] μ Q := by
  obtain ⟨z0, z1, z2, z3, z4, z5, z6, z7⟩ := h.z
  obtain ⟨dt, dsp, tr, sr, br, bp, sc, lr, lq, mr, pr, kr, zk⟩ := h.d hd
  refine Rj_aload_n (q := 1) d_Ge_isOpen_0 rfl rfl rfl ?_
  refine Rj_iload_n (q := 2) d_Ge_isOpen_1 rfl rfl rfl ?_
  refine Rj_aload_n (q := 3) d_Ge_isOpen_2 rfl rfl rfl ?_
  refine Rj_gr (q := 6) (zd := 3) gD_Ge_31_59 rfl rfl d_Ge_isOpen_3 rfl ?_
  refine Rj_gr (q := 9) (zd := 9) gD_Ge_117_3 rfl rfl d_Ge_isOpen_6 rfl ?_
  refine Rj_iload_n (q := 10) d_Ge_isOpen_9 rfl rfl rfl ?_
  refine Rj_la (q := 11) (v := μ 9 d) aD_9 rfl (by omega) rfl d_Ge_isOpen_10 rfl ?_
  refine Rj_vo (q := 14) (z := y_Ge_isOpenAt) (as := [vI d, vL (μ 9 d)]) (rest := []) (la := [vA 59, vI d, vL (μ 9 d), vU]) oD_59_Ge_isOpenAt ml_Ge_131 mw_Ge_isOpenAt mv_Ge_isOpenAt rfl d_Ge_isOpen_11 rfl rfl rfl rfl rfl ?_
  refine s_isOpenAt h (x := pl d) hd sc (by omega) ?_
  refine Rj_bret d_Ge_isOpen_14 rfl ?_
  exact hQ
set_option maxHeartbeats 4000000 in
theorem s_openSet_l : ∀ (f : Nat) {μ : Mem} {Q : PV → Mem → Prop} {S lo up dn lk pl : Int → Int} {s d : Int}, ((S 0 - d).toNat < f) → (GX μ S lo up dn lk pl) → (0 ≤ d ∧ d ≤ S 0) → (s = opS S (pts S) pl d.toNat) → (Q (vI (opS S (pts S) pl (S 0).toNat)) μ) → Rj YD y_Ge_openSet 4 [vA 59, vI s, vI d] [] μ Q := by
  intro f
  induction f with
  | zero => intro μ Q S lo up dn lk pl s d hf h hd hs hQ; exact absurd hf (by omega)
  | succ f ih =>
    intro μ Q S lo up dn lk pl s d hf h hd hs hQ
    obtain ⟨z0, z1, z2, z3, z4, z5, z6, z7⟩ := h.z
    refine Rj_iload_n (q := 5) d_Ge_openSet_4 rfl rfl rfl ?_
    refine Rj_aload_n (q := 6) d_Ge_openSet_5 rfl rfl rfl ?_
    refine Rj_gr (q := 9) (zd := 3) gD_Ge_31_59 rfl rfl d_Ge_openSet_6 rfl ?_
    refine Rj_gi (q := 12) (ki := 0) (v := μ 3 0) gD_Ge_58_3 rfl rfl rfl d_Ge_openSet_9 rfl ?_
    refine Rj_icmp_ge (q := 15) (t := 48) d_Ge_openSet_12 rfl (by decide) ⟨by omega, by omega⟩ ⟨by omega, by omega⟩ (fun c12 => ?_) (fun c12 => ?_)
    · have ed : d = S 0 := by omega
      rw [ed] at hs
      refine Rj_iload_n (q := 49) d_Ge_openSet_48 rfl rfl rfl ?_
      refine Rj_iret d_Ge_openSet_49 rfl ?_
      exact fin_I hQ hs.symm
    · have hlt : d < S 0 := by omega
      obtain ⟨dt, dsp, tr, sr, br, bp, sc, lr, lq, mr, pr, kr, zk⟩ := h.d ⟨hd.1, hlt⟩
      refine Rj_iload_n (q := 16) d_Ge_openSet_15 rfl rfl rfl ?_
      refine Rj_aload_n (q := 17) d_Ge_openSet_16 rfl rfl rfl ?_
      refine Rj_iload_n (q := 18) d_Ge_openSet_17 rfl rfl rfl ?_
      refine Rj_aload_n (q := 19) d_Ge_openSet_18 rfl rfl rfl ?_
      refine Rj_gr (q := 22) (zd := 3) gD_Ge_31_59 rfl rfl d_Ge_openSet_19 rfl ?_
      refine Rj_gr (q := 25) (zd := 9) gD_Ge_117_3 rfl rfl d_Ge_openSet_22 rfl ?_
      refine Rj_iload_n (q := 26) d_Ge_openSet_25 rfl rfl rfl ?_
      refine Rj_la (q := 27) (v := μ 9 d) aD_9 rfl (by omega) rfl d_Ge_openSet_26 rfl ?_
      refine Rj_vo (q := 30) (z := y_Ge_isOpenAt) (as := [vI d, vL (μ 9 d)]) (rest := [vI s]) (la := [vA 59, vI d, vL (μ 9 d), vU]) oD_59_Ge_isOpenAt ml_Ge_131 mw_Ge_isOpenAt mv_Ge_isOpenAt rfl d_Ge_openSet_27 rfl rfl rfl rfl rfl ?_
      refine s_isOpenAt h (x := pl d) ⟨hd.1, hlt⟩ sc (by omega) ?_
      refine Rj_b_eq (q := 33) (t := 39) d_Ge_openSet_30 rfl (by decide) (fun c30 => ?_) (fun c30 => ?_)
      · refine Rj_iconst (q := 40) d_Ge_openSet_39 rfl ?_
        refine Rj_ior (q := 41) (z := z_or s 0) d_Ge_openSet_40 rfl rfl ?_
        refine Rj_istore_n (q := 42) (ls' := [vA 59, vI (z_or s 0), vI d]) d_Ge_openSet_41 rfl rfl (by decide) rfl ?_
        refine Rj_iinc (q := 45) (ls' := [vA 59, vI (z_or s 0), vI (d + 1)]) d_Ge_openSet_42 rfl rfl (by decide) rfl ?_
        refine Rj_goto (t := 4) d_Ge_openSet_45 (by decide) ?_
        refine Rj_pre (ls' := [vA 59, vI (z_or s 0), vI (d + 1)]) (t := []) rfl ?_
        refine ih (by omega) h (by omega) ?_ hQ
        rw [show (d + 1).toNat = d.toNat + 1 by omega]
        unfold opS
        rw [← hs]
        simp only [show ((d.toNat : Nat) : Int) = d by omega]
        rw [if_neg (by rw [c30]; decide)]
      · refine Rj_iconst (q := 34) d_Ge_openSet_33 rfl ?_
        refine Rj_iload_n (q := 35) d_Ge_openSet_34 rfl rfl rfl ?_
        refine Rj_ishl (q := 36) (z := z_shl 1 d) d_Ge_openSet_35 rfl rfl ?_
        refine Rj_goto (t := 40) d_Ge_openSet_36 (by decide) ?_
        refine Rj_ior (q := 41) (z := z_or s (z_shl 1 d)) d_Ge_openSet_40 rfl rfl ?_
        refine Rj_istore_n (q := 42) (ls' := [vA 59, vI (z_or s (z_shl 1 d)), vI d]) d_Ge_openSet_41 rfl rfl (by decide) rfl ?_
        refine Rj_iinc (q := 45) (ls' := [vA 59, vI (z_or s (z_shl 1 d)), vI (d + 1)]) d_Ge_openSet_42 rfl rfl (by decide) rfl ?_
        refine Rj_goto (t := 4) d_Ge_openSet_45 (by decide) ?_
        refine Rj_pre (ls' := [vA 59, vI (z_or s (z_shl 1 d)), vI (d + 1)]) (t := []) rfl ?_
        refine ih (by omega) h (by omega) ?_ hQ
        rw [show (d + 1).toNat = d.toNat + 1 by omega]
        unfold opS
        rw [← hs]
        simp only [show ((d.toNat : Nat) : Int) = d by omega]
        rw [if_pos c30]
set_option maxHeartbeats 4000000 in
theorem s_openSet {μ : Mem} {Q : PV → Mem → Prop} {S lo up dn lk pl : Int → Int} (h : GX μ S lo up dn lk pl) (hQ : Q (vI (opS S (pts S) pl (S 0).toNat)) μ) : Rj YD y_Ge_openSet 0 [vA 59] [] μ Q := by
  obtain ⟨z0, z1, z2, z3, z4, z5, z6, z7⟩ := h.z
  refine Rj_iconst (q := 1) d_Ge_openSet_0 rfl ?_
  refine Rj_istore_n (q := 2) (ls' := [vA 59, vI 0]) d_Ge_openSet_1 rfl rfl (by decide) rfl ?_
  refine Rj_iconst (q := 3) d_Ge_openSet_2 rfl ?_
  refine Rj_istore_n (q := 4) (ls' := [vA 59, vI 0, vI 0]) d_Ge_openSet_3 rfl rfl (by decide) rfl ?_
  exact s_openSet_l _ (Nat.lt_succ_self _) h (by omega) rfl hQ
set_option maxHeartbeats 4000000 in
theorem s_wholeTeeth {μ : Mem} {Q : PV → Mem → Prop} {S lo up dn lk pl : Int → Int} (h : GX μ S lo up dn lk pl) {d : Int} (hd : 0 ≤ d ∧ d < S 0) (hQ : Q (vL (pl d / pts S)) μ) : Rj YD y_Ge_wholeTeeth 0 [vA 59, vI d] [] μ Q := by
  obtain ⟨z0, z1, z2, z3, z4, z5, z6, z7⟩ := h.z
  obtain ⟨dt, dsp, tr, sr, br, bp, sc, lr, lq, mr, pr, kr, zk⟩ := h.d hd
  rw [← sc_div (by omega) br.1 sc] at hQ
  refine Rj_aload_n (q := 1) d_Ge_wholeTeeth_0 rfl rfl rfl ?_
  refine Rj_gr (q := 4) (zd := 63) gD_Ge_22_59 rfl rfl d_Ge_wholeTeeth_1 rfl ?_
  refine Rj_iload_n (q := 5) d_Ge_wholeTeeth_4 rfl rfl rfl ?_
  refine Rj_la (q := 6) (v := μ 63 d) aD_63 rfl (by omega) rfl d_Ge_wholeTeeth_5 rfl ?_
  refine Rj_lconst (q := 7) (z := 0) d_Ge_wholeTeeth_6 rfl rfl ?_
  refine Rj_lc_le (q := 8) (q2 := 11) (t := 32) d_Ge_wholeTeeth_7 rfl d_Ge_wholeTeeth_8 rfl (by decide) ⟨by omega, by omega⟩ (by decide) (fun c7 => ?_) (fun c7 => ?_)
  · exact absurd c7 (by omega)
  · refine Rj_aload_n (q := 12) d_Ge_wholeTeeth_11 rfl rfl rfl ?_
    refine Rj_gr (q := 15) (zd := 3) gD_Ge_31_59 rfl rfl d_Ge_wholeTeeth_12 rfl ?_
    refine Rj_gr (q := 18) (zd := 9) gD_Ge_117_3 rfl rfl d_Ge_wholeTeeth_15 rfl ?_
    refine Rj_iload_n (q := 19) d_Ge_wholeTeeth_18 rfl rfl rfl ?_
    refine Rj_la (q := 20) (v := μ 9 d) aD_9 rfl (by omega) rfl d_Ge_wholeTeeth_19 rfl ?_
    refine Rj_aload_n (q := 21) d_Ge_wholeTeeth_20 rfl rfl rfl ?_
    refine Rj_gr (q := 24) (zd := 63) gD_Ge_22_59 rfl rfl d_Ge_wholeTeeth_21 rfl ?_
    refine Rj_iload_n (q := 25) d_Ge_wholeTeeth_24 rfl rfl rfl ?_
    refine Rj_la (q := 26) (v := μ 63 d) aD_63 rfl (by omega) rfl d_Ge_wholeTeeth_25 rfl ?_
    refine Rj_cs (q := 29) (z := y_Jmath_floorDiv) (as := [vL (μ 9 d), vL (μ 63 d)]) (rest := []) (la := [vL (μ 9 d), vU, vL (μ 63 d), vU]) ml_Ge_141 mw_Jmath_floorDiv ms_Jmath_floorDiv d_Ge_wholeTeeth_26 rfl rfl rfl rfl rfl ?_
    refine s_J_floorDiv (by omega) (by omega) ?_
    refine Rj_goto (t := 33) d_Ge_wholeTeeth_29 (by decide) ?_
    refine Rj_lret d_Ge_wholeTeeth_33 rfl ?_
    exact hQ
set_option maxHeartbeats 4000000 in
theorem s_tryPush_l : ∀ (f : Nat) {μ : Mem} {Q : PV → Mem → Prop} {S lo up dn lk pl : Int → Int} {x n m d : Int}, ((S 0 - d).toNat < f) → (GX μ S lo up dn lk pl) → (0 ≤ x ∧ x < S 0) → (-60 ≤ n ∧ n ≤ 60) → (lk x = 0) → (0 ≤ d ∧ d ≤ S 0) → (Q (vI (psh S lo up dn pl (pts S) x n f d m)) μ) → Rj YD y_Ge_tryPush 38 [vA 59, vI x, vI n, vI m, vI d] [] μ Q := by
  intro f
  induction f with
  | zero => intro μ Q S lo up dn lk pl x n m d hf h hx hn hk hd hQ; exact absurd hf (by omega)
  | succ f ih =>
    intro μ Q S lo up dn lk pl x n m d hf h hx hn hk hd hQ
    obtain ⟨z0, z1, z2, z3, z4, z5, z6, z7⟩ := h.z
    obtain ⟨dtx, dspx, trx, srx, brx, bpx, scx, lrx, lqx, mrx, prx, krx, zkx⟩ := h.d hx
    unfold psh at hQ
    refine Rj_iload (q := 40) d_Ge_tryPush_38 rfl rfl ?_
    refine Rj_aload_n (q := 41) d_Ge_tryPush_40 rfl rfl rfl ?_
    refine Rj_gr (q := 44) (zd := 3) gD_Ge_31_59 rfl rfl d_Ge_tryPush_41 rfl ?_
    refine Rj_gi (q := 47) (ki := 0) (v := μ 3 0) gD_Ge_58_3 rfl rfl rfl d_Ge_tryPush_44 rfl ?_
    refine Rj_icmp_ge (q := 50) (t := 111) d_Ge_tryPush_47 rfl (by decide) ⟨by omega, by omega⟩ ⟨by omega, by omega⟩ (fun c47 => ?_) (fun c47 => ?_)
    · rw [if_neg (by omega)] at hQ
      refine Rj_iload_n (q := 112) d_Ge_tryPush_111 rfl rfl rfl ?_
      refine Rj_iret d_Ge_tryPush_112 rfl ?_
      exact hQ
    · have hlt : d < S 0 := by omega
      rw [if_pos hlt] at hQ
      obtain ⟨dt, dsp, tr, sr, br, bp, sc, lr, lq, mr, pr, kr, zk⟩ := h.d ⟨hd.1, hlt⟩
      refine Rj_aload_n (q := 51) d_Ge_tryPush_50 rfl rfl rfl ?_
      refine Rj_gr (q := 54) (zd := 60) gD_Ge_9_59 rfl rfl d_Ge_tryPush_51 rfl ?_
      refine Rj_iload (q := 56) d_Ge_tryPush_54 rfl rfl ?_
      refine Rj_ia (q := 57) (v := μ 60 d) aD_60 rfl (by omega) rfl d_Ge_tryPush_56 rfl ?_
      refine Rj_aload_n (q := 58) d_Ge_tryPush_57 rfl rfl rfl ?_
      refine Rj_gr (q := 61) (zd := 60) gD_Ge_9_59 rfl rfl d_Ge_tryPush_58 rfl ?_
      refine Rj_iload_n (q := 62) d_Ge_tryPush_61 rfl rfl rfl ?_
      refine Rj_ia (q := 63) (v := μ 60 x) aD_60 rfl (by omega) rfl d_Ge_tryPush_62 rfl ?_
      refine Rj_icmp_ne (q := 66) (t := 105) d_Ge_tryPush_63 rfl (by decide) ⟨by omega, by omega⟩ ⟨by omega, by omega⟩ (fun c63 => ?_) (fun c63 => ?_)
      · rw [if_neg (by omega)] at hQ
        refine Rj_iinc (q := 108) (ls' := [vA 59, vI x, vI n, vI m, vI (d + 1)]) d_Ge_tryPush_105 rfl rfl (by decide) rfl ?_
        refine Rj_goto (t := 38) d_Ge_tryPush_108 (by decide) ?_
        exact ih (by omega) h hx hn hk (by omega) hQ
      · have hj : lo d = lo x := by omega
        rw [if_pos hj] at hQ
        have sp := h.st hx ⟨hd.1, hlt⟩ hj hk
        have m1 := mul_bd hn sp.2.1
        refine Rj_aload_n (q := 67) d_Ge_tryPush_66 rfl rfl rfl ?_
        refine Rj_iload (q := 69) d_Ge_tryPush_67 rfl rfl ?_
        refine Rj_aload_n (q := 70) d_Ge_tryPush_69 rfl rfl rfl ?_
        refine Rj_gr (q := 73) (zd := 3) gD_Ge_31_59 rfl rfl d_Ge_tryPush_70 rfl ?_
        refine Rj_gr (q := 76) (zd := 9) gD_Ge_117_3 rfl rfl d_Ge_tryPush_73 rfl ?_
        refine Rj_iload (q := 78) d_Ge_tryPush_76 rfl rfl ?_
        refine Rj_la (q := 79) (v := μ 9 d) aD_9 rfl (by omega) rfl d_Ge_tryPush_78 rfl ?_
        refine Rj_iload_n (q := 80) d_Ge_tryPush_79 rfl rfl rfl ?_
        refine Rj_i2l (q := 81) d_Ge_tryPush_80 rfl ⟨by omega, by omega⟩ ?_
        refine Rj_aload_n (q := 82) d_Ge_tryPush_81 rfl rfl rfl ?_
        refine Rj_iload_n (q := 83) d_Ge_tryPush_82 rfl rfl rfl ?_
        refine Rj_iload (q := 85) d_Ge_tryPush_83 rfl rfl ?_
        refine Rj_vo (q := 88) (z := y_Ge_stepOf) (as := [vI x, vI d]) (rest := [vL n, vL (μ 9 d), vI d, vA 59]) (la := [vA 59, vI x, vI d]) oD_59_Ge_stepOf ml_Ge_120 mw_Ge_stepOf mv_Ge_stepOf rfl d_Ge_tryPush_85 rfl rfl rfl rfl rfl ?_
        refine Rj_aload_n (q := 1) d_Ge_stepOf_0 rfl rfl rfl ?_
        refine Rj_gr (q := 4) (zd := 64) gD_Ge_25_59 rfl rfl d_Ge_stepOf_1 rfl ?_
        refine Rj_iload_n (q := 5) d_Ge_stepOf_4 rfl rfl rfl ?_
        refine Rj_bipush (q := 7) d_Ge_stepOf_5 rfl (by decide +kernel) ?_
        refine Rj_imul (q := 8) d_Ge_stepOf_7 rfl ?_
        refine Rj_iload_n (q := 9) d_Ge_stepOf_8 rfl rfl rfl ?_
        refine Rj_iadd (q := 10) d_Ge_stepOf_9 rfl ?_
        refine Rj_la (q := 11) (v := μ 64 ((x * 12) + d)) aD_64 rfl (by omega) rfl d_Ge_stepOf_10 rfl ?_
        refine Rj_lret d_Ge_stepOf_11 rfl ?_
        refine Rj_lmul (q := 89) d_Ge_tryPush_88 rfl ?_
        refine Rj_ladd (q := 90) d_Ge_tryPush_89 rfl ?_
        refine Rj_vo (q := 93) (z := y_Ge_isBeyond) (as := [vI d, vL ((μ 9 d) + (n * (μ 64 ((x * 12) + d))))]) (rest := []) (la := [vA 59, vI d, vL ((μ 9 d) + (n * (μ 64 ((x * 12) + d)))), vU]) oD_59_Ge_isBeyond ml_Ge_124 mw_Ge_isBeyond mv_Ge_isBeyond rfl d_Ge_tryPush_90 rfl rfl rfl rfl rfl ?_
        refine s_isBeyond h (x := pl d + n * pof (pts S) up dn x d) ⟨hd.1, hlt⟩ (sc_add sc sp.1) (by omega) ?_
        refine Rj_b_eq (q := 96) (t := 102) d_Ge_tryPush_93 rfl (by decide) (fun c93 => ?_) (fun c93 => ?_)
        · rw [if_neg (by rw [c93]; decide)] at hQ
          refine Rj_iinc (q := 105) (ls' := [vA 59, vI x, vI n, vI (m + 1), vI d]) d_Ge_tryPush_102 rfl rfl (by decide) rfl ?_
          refine Rj_iinc (q := 108) (ls' := [vA 59, vI x, vI n, vI (m + 1), vI (d + 1)]) d_Ge_tryPush_105 rfl rfl (by decide) rfl ?_
          refine Rj_goto (t := 38) d_Ge_tryPush_108 (by decide) ?_
          exact ih (by omega) h hx hn hk (by omega) hQ
        · rw [if_pos c93] at hQ
          refine Rj_bipush (q := 98) d_Ge_tryPush_96 rfl (by decide +kernel) ?_
          refine Rj_iload (q := 100) d_Ge_tryPush_98 rfl rfl ?_
          refine Rj_isub (q := 101) d_Ge_tryPush_100 rfl ?_
          refine Rj_iret d_Ge_tryPush_101 rfl ?_
          exact hQ
set_option maxHeartbeats 4000000 in
theorem s_tryPush {μ : Mem} {Q : PV → Mem → Prop} {S lo up dn lk pl : Int → Int} (h : GX μ S lo up dn lk pl) {x n : Int} (hx : 0 ≤ x ∧ x < S 0) (hn : -60 ≤ n ∧ n ≤ 60) (hQ : Q (vI (pushR S lo up dn lk pl (pts S) x n)) μ) : Rj YD y_Ge_tryPush 0 [vA 59, vI x, vI n] [] μ Q := by
  obtain ⟨z0, z1, z2, z3, z4, z5, z6, z7⟩ := h.z
  obtain ⟨dtx, dspx, trx, srx, brx, bpx, scx, lrx, lqx, mrx, prx, krx, zkx⟩ := h.d hx
  unfold pushR at hQ
  rw [← z4] at hQ
  have zb1 := zbit_01 (μ 3 3) x
  have zb2 := zbit_01 (μ 59 7) x
  refine Rj_aload_n (q := 1) d_Ge_tryPush_0 rfl rfl rfl ?_
  refine Rj_gr (q := 4) (zd := 3) gD_Ge_31_59 rfl rfl d_Ge_tryPush_1 rfl ?_
  refine Rj_gi (q := 7) (ki := 3) (v := μ 3 3) gD_Ge_114_3 rfl rfl rfl d_Ge_tryPush_4 rfl ?_
  refine Rj_iload_n (q := 8) d_Ge_tryPush_7 rfl rfl rfl ?_
  refine Rj_cs (q := 11) (z := y_D_bitOf) (as := [vI (μ 3 3), vI x]) (rest := []) (la := [vI (μ 3 3), vI x]) ml_Ge_70 mw_D_bitOf ms_D_bitOf d_Ge_tryPush_8 rfl rfl rfl rfl rfl ?_
  refine s_D_bitOf (by omega) (by omega) ?_
  refine Rj_iconst (q := 12) d_Ge_tryPush_11 rfl ?_
  refine Rj_icmp_ne (q := 15) (t := 18) d_Ge_tryPush_12 rfl (by decide) ⟨by omega, by omega⟩ (by decide) (fun c12 => ?_) (fun c12 => ?_)
  · rw [if_neg c12] at hQ
    refine Rj_aload_n (q := 19) d_Ge_tryPush_18 rfl rfl rfl ?_
    refine Rj_gi (q := 22) (ki := 7) (v := μ 59 7) gD_Ge_55_59 rfl rfl rfl d_Ge_tryPush_19 rfl ?_
    refine Rj_iload_n (q := 23) d_Ge_tryPush_22 rfl rfl rfl ?_
    refine Rj_cs (q := 26) (z := y_D_bitOf) (as := [vI (μ 59 7), vI x]) (rest := []) (la := [vI (μ 59 7), vI x]) ml_Ge_70 mw_D_bitOf ms_D_bitOf d_Ge_tryPush_23 rfl rfl rfl rfl rfl ?_
    refine s_D_bitOf (by omega) (by omega) ?_
    refine Rj_iconst (q := 27) d_Ge_tryPush_26 rfl ?_
    refine Rj_icmp_ne (q := 30) (t := 33) d_Ge_tryPush_27 rfl (by decide) ⟨by omega, by omega⟩ (by decide) (fun c27 => ?_) (fun c27 => ?_)
    · have hl : lk x = 0 := by omega
      rw [if_neg (by omega)] at hQ
      refine Rj_iconst (q := 34) d_Ge_tryPush_33 rfl ?_
      refine Rj_istore_n (q := 35) (ls' := [vA 59, vI x, vI n, vI 0]) d_Ge_tryPush_34 rfl rfl (by decide) rfl ?_
      refine Rj_iconst (q := 36) d_Ge_tryPush_35 rfl ?_
      refine Rj_istore (q := 38) (ls' := [vA 59, vI x, vI n, vI 0, vI 0]) d_Ge_tryPush_36 rfl (by decide) rfl ?_
      exact s_tryPush_l 13 (by omega) h hx hn hl (by omega) hQ
    · rw [if_pos (zkx.mp c27)] at hQ
      refine Rj_bipush (q := 32) d_Ge_tryPush_30 rfl (by decide +kernel) ?_
      refine Rj_iret d_Ge_tryPush_32 rfl ?_
      exact hQ
  · rw [if_pos c12] at hQ
    refine Rj_bipush (q := 17) d_Ge_tryPush_15 rfl (by decide +kernel) ?_
    refine Rj_iret d_Ge_tryPush_17 rfl ?_
    exact hQ
set_option maxHeartbeats 4000000 in
theorem s_turnSet_l : ∀ (f : Nat) {μ : Mem} {Q : PV → Mem → Prop} {S lo : Int → Int} {x n d : Int}, ((S 0 - d).toNat < f) → (0 ≤ S 0 ∧ S 0 ≤ 12) → (μ 3 0 = S 0) → (∀ y, 0 ≤ y → y < S 0 → μ 60 y = lo y ∧ (0 ≤ lo y ∧ lo y < 12)) → (0 ≤ x ∧ x < S 0) → (-60 ≤ n ∧ n ≤ 60) → (0 ≤ d ∧ d ≤ S 0) → (∀ μ', Fr (fun c _ => c = 9) μ μ' → (∀ y, 0 ≤ y → y < S 0 → μ' 9 y = if d ≤ y ∧ lo y = lo x then μ 9 y + n * μ 64 (x * 12 + y) else μ 9 y) → Q vU μ') → Rj YD y_Ge_turnSet 2 [vA 59, vI x, vI n, vI d] [] μ Q := by
  intro f
  induction f with
  | zero => intro μ Q S lo x n d hf hS0 hD hlo hx hn hd hk; exact absurd hf (by omega)
  | succ f ih =>
    intro μ Q S lo x n d hf hS0 hD hlo hx hn hd hk
    have lx := hlo x hx.1 hx.2
    refine Rj_iload_n (q := 3) d_Ge_turnSet_2 rfl rfl rfl ?_
    refine Rj_aload_n (q := 4) d_Ge_turnSet_3 rfl rfl rfl ?_
    refine Rj_gr (q := 7) (zd := 3) gD_Ge_31_59 rfl rfl d_Ge_turnSet_4 rfl ?_
    refine Rj_gi (q := 10) (ki := 0) (v := μ 3 0) gD_Ge_58_3 rfl rfl rfl d_Ge_turnSet_7 rfl ?_
    refine Rj_icmp_ge (q := 13) (t := 55) d_Ge_turnSet_10 rfl (by decide) ⟨by omega, by omega⟩ ⟨by omega, by omega⟩ (fun c10 => ?_) (fun c10 => ?_)
    · refine Rj_vret d_Ge_turnSet_55 rfl ?_
      exact hk μ (Fr.refl _ _) (fun y y1 y2 => by rw [if_neg (by omega)])
    · have hlt : d < S 0 := by omega
      have ld := hlo d hd.1 hlt
      refine Rj_aload_n (q := 14) d_Ge_turnSet_13 rfl rfl rfl ?_
      refine Rj_gr (q := 17) (zd := 60) gD_Ge_9_59 rfl rfl d_Ge_turnSet_14 rfl ?_
      refine Rj_iload_n (q := 18) d_Ge_turnSet_17 rfl rfl rfl ?_
      refine Rj_ia (q := 19) (v := μ 60 d) aD_60 rfl (by omega) rfl d_Ge_turnSet_18 rfl ?_
      refine Rj_aload_n (q := 20) d_Ge_turnSet_19 rfl rfl rfl ?_
      refine Rj_gr (q := 23) (zd := 60) gD_Ge_9_59 rfl rfl d_Ge_turnSet_20 rfl ?_
      refine Rj_iload_n (q := 24) d_Ge_turnSet_23 rfl rfl rfl ?_
      refine Rj_ia (q := 25) (v := μ 60 x) aD_60 rfl (by omega) rfl d_Ge_turnSet_24 rfl ?_
      refine Rj_icmp_ne (q := 28) (t := 49) d_Ge_turnSet_25 rfl (by decide) ⟨by omega, by omega⟩ ⟨by omega, by omega⟩ (fun c25 => ?_) (fun c25 => ?_)
      · refine Rj_iinc (q := 52) (ls' := [vA 59, vI x, vI n, vI (d + 1)]) d_Ge_turnSet_49 rfl rfl (by decide) rfl ?_
        refine Rj_goto (t := 2) d_Ge_turnSet_52 (by decide) ?_
        refine ih (μ := μ) (by omega) hS0 hD hlo hx hn (by omega) (fun m f q => hk m (Fr.trans (Fr.refl _ _) f) (fun y y1 y2 => ?_))
        rw [q y y1 y2]
        by_cases e2 : d + 1 ≤ y ∧ lo y = lo x
        · rw [if_pos e2, if_pos ⟨by omega, e2.2⟩]
        · rw [if_neg e2, if_neg (fun q => e2 ⟨by
            by_cases e : y = d
            · subst e; omega
            · omega, q.2⟩)]
      · refine Rj_aload_n (q := 29) d_Ge_turnSet_28 rfl rfl rfl ?_
        refine Rj_gr (q := 32) (zd := 3) gD_Ge_31_59 rfl rfl d_Ge_turnSet_29 rfl ?_
        refine Rj_gr (q := 35) (zd := 9) gD_Ge_117_3 rfl rfl d_Ge_turnSet_32 rfl ?_
        refine Rj_iload_n (q := 36) d_Ge_turnSet_35 rfl rfl rfl ?_
        refine Rj_dup2 (q := 37) d_Ge_turnSet_36 rfl (by intro h; cases h) (by intro h; cases h) ?_
        refine Rj_la (q := 38) (v := μ 9 d) aD_9 rfl (by omega) rfl d_Ge_turnSet_37 rfl ?_
        refine Rj_iload_n (q := 39) d_Ge_turnSet_38 rfl rfl rfl ?_
        refine Rj_i2l (q := 40) d_Ge_turnSet_39 rfl ⟨by omega, by omega⟩ ?_
        refine Rj_aload_n (q := 41) d_Ge_turnSet_40 rfl rfl rfl ?_
        refine Rj_iload_n (q := 42) d_Ge_turnSet_41 rfl rfl rfl ?_
        refine Rj_iload_n (q := 43) d_Ge_turnSet_42 rfl rfl rfl ?_
        refine Rj_vo (q := 46) (z := y_Ge_stepOf) (as := [vI x, vI d]) (rest := [vL n, vL (μ 9 d), vI d, vA 9]) (la := [vA 59, vI x, vI d]) oD_59_Ge_stepOf ml_Ge_120 mw_Ge_stepOf mv_Ge_stepOf rfl d_Ge_turnSet_43 rfl rfl rfl rfl rfl ?_
        refine Rj_aload_n (q := 1) d_Ge_stepOf_0 rfl rfl rfl ?_
        refine Rj_gr (q := 4) (zd := 64) gD_Ge_25_59 rfl rfl d_Ge_stepOf_1 rfl ?_
        refine Rj_iload_n (q := 5) d_Ge_stepOf_4 rfl rfl rfl ?_
        refine Rj_bipush (q := 7) d_Ge_stepOf_5 rfl (by decide +kernel) ?_
        refine Rj_imul (q := 8) d_Ge_stepOf_7 rfl ?_
        refine Rj_iload_n (q := 9) d_Ge_stepOf_8 rfl rfl rfl ?_
        refine Rj_iadd (q := 10) d_Ge_stepOf_9 rfl ?_
        refine Rj_la (q := 11) (v := μ 64 ((x * 12) + d)) aD_64 rfl (by omega) rfl d_Ge_stepOf_10 rfl ?_
        refine Rj_lret d_Ge_stepOf_11 rfl ?_
        refine Rj_lmul (q := 47) d_Ge_turnSet_46 rfl ?_
        refine Rj_ladd (q := 48) d_Ge_turnSet_47 rfl ?_
        refine Rj_lst (q := 49) aD_9 rfl (by omega) d_Ge_turnSet_48 rfl ?_
        refine Rj_iinc (q := 52) (ls' := [vA 59, vI x, vI n, vI (d + 1)]) d_Ge_turnSet_49 rfl rfl (by decide) rfl ?_
        refine Rj_goto (t := 2) d_Ge_turnSet_52 (by decide) ?_
        refine ih (μ := (mset μ 9 d ((μ 9 d) + (n * (μ 64 ((x * 12) + d)))))) (by omega) hS0 hD hlo hx hn (by omega) (fun m f q => hk m (Fr.trans (Fr.put (Fr.refl _ _) rfl) f) (fun y y1 y2 => ?_))
        rw [q y y1 y2]
        by_cases e : y = d
        · subst e
          rw [if_neg (by omega), mset_same, if_pos ⟨by omega, by omega⟩]
        · show (if _ then mset μ 9 d _ 9 y + n * μ 64 (x * 12 + y) else mset μ 9 d _ 9 y) = _
          rw [mset_ne _ _ _ _ _ e]
          by_cases e2 : d + 1 ≤ y ∧ lo y = lo x
          · rw [if_pos e2, if_pos ⟨by omega, e2.2⟩]
          · rw [if_neg e2, if_neg (fun q => e2 ⟨by omega, q.2⟩)]
theorem GX.turn {μ μ' : Mem} {S lo up dn lk pl : Int → Int} {x n : Int} (h : GX μ S lo up dn lk pl) (hx : 0 ≤ x ∧ x < S 0) (hk : lk x = 0) (hb : PB (trn S lo up dn pl (pts S) x n)) (f : Fr (fun c _ => c = 9) μ μ') (q : ∀ y, 0 ≤ y → y < S 0 → μ' 9 y = if (0 : Int) ≤ y ∧ lo y = lo x then μ 9 y + n * μ 64 (x * 12 + y) else μ 9 y) : GX μ' S lo up dn lk (trn S lo up dn pl (pts S) x n) := by
  have hst := fun d d1 e => h.st (p := x) (d := d) hx d1 e hk
  have hsc : ∀ d, 0 ≤ d → d < S 0 → μ' 9 d * pts S = trn S lo up dn pl (pts S) x n d * bel S lo up dn lk d := by
    intro d d1 d2
    rw [q d d1 d2]
    have e63 := h.2.2.2.1.2.2.2.1 d d1 d2
    unfold trn
    by_cases e : lo d = lo x
    · rw [if_pos ⟨d1, e⟩, if_pos ⟨d1, d2, e⟩]
      have := hst d ⟨d1, d2⟩ e
      rw [e63] at this
      exact sc_add (h.2.2.2.2.1 d d1 d2) this.1
    · rw [if_neg (fun q => e q.2), if_neg (fun q => e q.2.2)]
      exact h.2.2.2.2.1 d d1 d2
  obtain ⟨hS, hT, hH, hF, hp, hb0⟩ := h
  have r : ∀ c, c ≠ 9 → μ' c = μ c := fun c h => f.row (fun i q => h q)
  refine ⟨hS, ?_, hH, ?_, hsc, hb⟩
  · unfold GT GS
    rw [r 3 (by decide), r 4 (by decide), r 5 (by decide), r 6 (by decide), r 7 (by decide), r 8 (by decide)]
    exact hT
  · unfold GF
    rw [r 59 (by decide), r 60 (by decide), r 63 (by decide), r 64 (by decide)]
    exact hF
set_option maxHeartbeats 4000000 in
theorem s_turnSet {μ : Mem} {Q : PV → Mem → Prop} {S lo up dn lk pl : Int → Int} (h : GX μ S lo up dn lk pl) {x n : Int} (hx : 0 ≤ x ∧ x < S 0) (hn : -60 ≤ n ∧ n ≤ 60) (hk0 : lk x = 0) (hb : PB (trn S lo up dn pl (pts S) x n)) (hk : ∀ μ', Fr (fun c _ => c = 9) μ μ' → GX μ' S lo up dn lk (trn S lo up dn pl (pts S) x n) → Q vU μ') : Rj YD y_Ge_turnSet 0 [vA 59, vI x, vI n] [] μ Q := by
  obtain ⟨z0, z1, z2, z3, z4, z5, z6, z7⟩ := h.z
  refine Rj_iconst (q := 1) d_Ge_turnSet_0 rfl ?_
  refine Rj_istore_n (q := 2) (ls' := [vA 59, vI x, vI n, vI 0]) d_Ge_turnSet_1 rfl rfl (by decide) rfl ?_
  exact s_turnSet_l (S := S) (lo := lo) _ (Nat.lt_succ_self _) z0 z2 (fun y y1 y2 => ⟨(h.d ⟨y1, y2⟩).2.2.2.2.2.2.2.2.1, (h.d ⟨y1, y2⟩).2.2.2.2.2.2.2.1⟩) hx hn (by omega) (fun m f q => hk m f (h.turn hx hk0 hb f q))
