theorem oD_59_Ge_wholeTeeth : OI YD 59 y_Ge_wholeTeeth := ⟨by decide, _, _, _, cD_59, rfl⟩
theorem oD_0_D_strayOf : OI YD 0 y_D_strayOf := ⟨by decide, _, _, _, cD_0, rfl⟩
theorem oM_0_M_areSeen : OI YM 0 y_M_areSeen := ⟨by decide, _, _, _, cM_0, rfl⟩
/-! a pair of calls: slipped -/
/-- by how many teeth a door is not as it was seen -/
def sty (S pl : Int → Int) (d : Int) : Int := if zbit (S 6) d = 1 then S (82 + d) - pl d / pts S else 0
def asP (S pl : Int → Int) (x n : Int) : Prop := ∀ d, 0 ≤ d → d < S 0 → zbit (S 6) d = 1 → sty S pl d = (if d = x then n else 0)
def azP (S pl : Int → Int) : Prop := ∀ d, 0 ≤ d → d < S 0 → sty S pl d = 0
def oneP (S pl : Int → Int) (t : Int) : Prop := (0 ≤ t ∧ t < S 0) ∧ sty S pl t ≠ 0 ∧ (∀ y, 0 ≤ y → y < S 0 → y ≠ t → sty S pl y = 0) ∧ (-9 ≤ sty S pl t ∧ sty S pl t ≤ 9)
theorem pl_div {P x : Int} (hP : 1 ≤ P) (hx : -100000000000000000 ≤ x ∧ x ≤ 100000000000000000) : -100000000000000000 ≤ x / P ∧ x / P ≤ 100000000000000000 := by
  have h1 := Int.emod_add_mul_ediv x P
  have h2 := Int.emod_nonneg x (show P ≠ 0 by omega)
  have h3 := Int.emod_lt_of_pos x (show 0 < P by omega)
  constructor
  · exact Int.le_ediv_of_mul_le (by omega) (by
      have := Int.mul_le_mul_of_nonneg_left hP (show (0 : Int) ≤ 100000000000000000 by decide)
      omega)
  · rcases Int.le_total 0 x with q | q
    · exact Int.le_trans (Int.ediv_le_self P q) hx.2
    · have : x / P ≤ 0 := Int.ediv_nonpos_of_nonpos_of_neg q (by omega)
      omega
theorem sty_bd {n : Nat} {μ ν : Mem} (hC : Cor n μ ν) : ∀ y, 0 ≤ y → y < ν 11 0 → -1000000000000000000 ≤ sty (ν 11) (ν 12) y ∧ sty (ν 11) (ν 12) y ≤ 1000000000000000000 := by
  intro y y0 y1
  obtain ⟨w3, w5, w6, w8⟩ := hC.w
  obtain ⟨-, -, -, h, hM, -⟩ := hC
  obtain ⟨z0, z1, z2, z3, z4, z5, z6, z7⟩ := h.z
  have q1 := pl_div (x := ν 12 y) z6.1 (hM.2.2.2.1 y y0 (by omega))
  unfold sty
  by_cases e : zbit (ν 11 6) y = 1
  · rw [if_pos e]
    have := (w6.2.2 y y0 y1 e).1
    omega
  · rw [if_neg e]; omega
set_option maxHeartbeats 4000000 in
theorem s_strayOf {μ : Mem} {Q : PV → Mem → Prop} {ν : Mem} {n : Nat} {d : Int} (hC : Cor n μ ν) (hd : 0 ≤ d ∧ d < ν 11 0) (hQ : Q (vL (sty (ν 11) (ν 12) d)) μ) : Rj YD y_D_strayOf 0 [vA 0, vI d] [] μ Q := by
  obtain ⟨hTP, hK, hSc, h, hM, hSB, hBK, hIM⟩ := id hC
  obtain ⟨z0, z1, z2, z3, z4, z5, z6, z7⟩ := h.z
  obtain ⟨w3, w5, w6, w8⟩ := hC.w
  have w61 := w6.1
  have w62 := w6.2.1
  have zb := zbit_01 (ν 11 6) d
  unfold sty at hQ
  refine Rj_aload_n (q := 1) d_D_strayOf_0 rfl rfl rfl ?_
  refine Rj_gr (q := 4) (zd := 3) gD_D_25_0 rfl rfl d_D_strayOf_1 rfl ?_
  refine Rj_iload_n (q := 5) d_D_strayOf_4 rfl rfl rfl ?_
  refine Rj_vo (q := 8) (z := y_Sc_isDoor) (as := [vI d]) (rest := []) (la := [vA 3, vI d]) oD_3_Sc_isDoor ml_D_144 mw_Sc_isDoor mv_Sc_isDoor rfl d_D_strayOf_5 rfl rfl rfl rfl rfl ?_
  refine Rj_iload_n (q := 1) d_Sc_isDoor_0 rfl rfl rfl ?_
  refine Rj_if_lt (q := 4) (t := 16) d_Sc_isDoor_1 rfl (by decide) ⟨by omega, by omega⟩ (fun c5_1 => ?_) (fun c5_1 => ?_)
  · refine Rj_iconst (q := 17) d_Sc_isDoor_16 rfl ?_
    refine Rj_bret0 d_Sc_isDoor_17 rfl ?_
    refine Rj_if_eq (q := 11) (t := 25) d_D_strayOf_8 rfl (by decide) (by decide) (fun _ => ?_) (fun c => absurd c (by decide))
    refine Rj_lconst (q := 26) (z := 0) d_D_strayOf_25 rfl rfl ?_
    refine Rj_lret d_D_strayOf_26 rfl ?_
    first | exact hQ | (exfalso; omega)
  · refine Rj_iload_n (q := 5) d_Sc_isDoor_4 rfl rfl rfl ?_
    refine Rj_aload_n (q := 6) d_Sc_isDoor_5 rfl rfl rfl ?_
    refine Rj_gi (q := 9) (ki := 0) (v := ν 11 0) gD_Sc_37_3 rfl rfl z2 d_Sc_isDoor_6 rfl ?_
    refine Rj_icmp_ge (q := 12) (t := 16) d_Sc_isDoor_9 rfl (by decide) ⟨by omega, by omega⟩ ⟨by omega, by omega⟩ (fun c5_9 => ?_) (fun c5_9 => ?_)
    · refine Rj_iconst (q := 17) d_Sc_isDoor_16 rfl ?_
      refine Rj_bret0 d_Sc_isDoor_17 rfl ?_
      refine Rj_if_eq (q := 11) (t := 25) d_D_strayOf_8 rfl (by decide) (by decide) (fun _ => ?_) (fun c => absurd c (by decide))
      refine Rj_lconst (q := 26) (z := 0) d_D_strayOf_25 rfl rfl ?_
      refine Rj_lret d_D_strayOf_26 rfl ?_
      first | exact hQ | (exfalso; omega)
    · refine Rj_iconst (q := 13) d_Sc_isDoor_12 rfl ?_
      refine Rj_goto (t := 17) d_Sc_isDoor_13 (by decide) ?_
      refine Rj_bret1 d_Sc_isDoor_17 rfl ?_
      refine Rj_if_eq (q := 11) (t := 25) d_D_strayOf_8 rfl (by decide) (by decide) (fun c => absurd c (by decide)) (fun _ => ?_)
      refine Rj_aload_n (q := 12) d_D_strayOf_11 rfl rfl rfl ?_
      refine Rj_gr (q := 15) (zd := 3) gD_D_25_0 rfl rfl d_D_strayOf_12 rfl ?_
      refine Rj_gi (q := 18) (ki := 12) (v := ν 11 6) gD_D_242_3 rfl rfl w62 d_D_strayOf_15 rfl ?_
      refine Rj_iload_n (q := 19) d_D_strayOf_18 rfl rfl rfl ?_
      refine Rj_cs (q := 22) (z := y_D_bitOf) (as := [vI (ν 11 6), vI d]) (rest := []) (la := [vI (ν 11 6), vI d]) ml_D_157 mw_D_bitOf ms_D_bitOf d_D_strayOf_19 rfl rfl rfl rfl rfl ?_
      refine s_D_bitOf (by omega) (by omega) ?_
      refine Rj_if_ne (q := 25) (t := 27) d_D_strayOf_22 rfl (by decide) ⟨by omega, by omega⟩ (fun c22 => ?_) (fun c22 => ?_)
      · rw [if_pos (by omega)] at hQ
        have sv := w6.2.2 d hd.1 hd.2 (by omega)
        refine Rj_aload_n (q := 28) d_D_strayOf_27 rfl rfl rfl ?_
        refine Rj_gr (q := 31) (zd := 3) gD_D_25_0 rfl rfl d_D_strayOf_28 rfl ?_
        refine Rj_gr (q := 34) (zd := 10) gD_D_245_3 rfl rfl d_D_strayOf_31 rfl ?_
        refine Rj_iload_n (q := 35) d_D_strayOf_34 rfl rfl rfl ?_
        refine Rj_ia (q := 36) (v := ν 11 (82 + d)) aD_10 rfl (by omega) sv.2 d_D_strayOf_35 rfl ?_
        refine Rj_i2l (q := 37) d_D_strayOf_36 rfl ⟨by omega, by omega⟩ ?_
        refine Rj_aload_n (q := 38) d_D_strayOf_37 rfl rfl rfl ?_
        refine Rj_gr (q := 41) (zd := 59) gD_D_45_0 rfl rfl d_D_strayOf_38 rfl ?_
        refine Rj_iload_n (q := 42) d_D_strayOf_41 rfl rfl rfl ?_
        refine Rj_vo (q := 45) (z := y_Ge_wholeTeeth) (as := [vI d]) (rest := [vL (ν 11 (82 + d))]) (la := [vA 59, vI d]) oD_59_Ge_wholeTeeth ml_D_260 mw_Ge_wholeTeeth mv_Ge_wholeTeeth rfl d_D_strayOf_42 rfl rfl rfl rfl rfl ?_
        refine s_wholeTeeth h ⟨by omega, by omega⟩ ?_
        refine Rj_lsub (q := 46) d_D_strayOf_45 rfl ?_
        refine Rj_lret d_D_strayOf_46 rfl ?_
        first | exact hQ | (exfalso; omega)
      · rw [if_neg (by omega)] at hQ
        refine Rj_lconst (q := 26) (z := 0) d_D_strayOf_25 rfl rfl ?_
        refine Rj_lret d_D_strayOf_26 rfl ?_
        first | exact hQ | (exfalso; omega)
set_option maxHeartbeats 4000000 in
theorem s_slipped_63 {μ : Mem} {Q : PV → Mem → Prop} {ν : Mem} {n : Nat} {a s t d : Int} (hC : Cor n μ ν) (ha : 0 ≤ a ∧ a ≤ 2) (hd : d = ν 11 0) (hi : ((s = 0 ∧ t = -1 ∧ ∀ y, 0 ≤ y → y < d → sty (ν 11) (ν 12) y = 0) ∨ (s = 1 ∧ (0 ≤ t ∧ t < d) ∧ sty (ν 11) (ν 12) t ≠ 0 ∧ ∀ y, 0 ≤ y → y < d → y ≠ t → sty (ν 11) (ν 12) y = 0) ∨ ((2 ≤ s ∧ s ≤ 12) ∧ (-1 ≤ t ∧ t < 12) ∧ ∃ x y, x ≠ y ∧ (0 ≤ x ∧ x < d) ∧ (0 ≤ y ∧ y < d) ∧ sty (ν 11) (ν 12) x ≠ 0 ∧ sty (ν 11) (ν 12) y ≠ 0))) (hA : ∀ t, oneP (ν 11) (ν 12) t → Q (vI (if a = 0 then 1 else if a = 1 then t else sty (ν 11) (ν 12) t)) μ) (hB : (¬ ∃ t, oneP (ν 11) (ν 12) t) → Q (vI (if a = 0 then 0 else if a = 1 then (-2) else 0)) μ) : Rj YD y_D_slipped 63 [vA 0, vI a, vI s, vI t] [] μ Q := by
  subst hd
  obtain ⟨hTP, hK, hSc, h, hM, hSB, hBK, hIM⟩ := id hC
  obtain ⟨z0, z1, z2, z3, z4, z5, z6, z7⟩ := h.z
  obtain ⟨w3, w5, w6, w8⟩ := hC.w
  have hBB := hM.2.2.2.1
  have sb := sty_bd hC
  refine Rj_iload_n (q := 64) d_D_slipped_63 rfl rfl rfl ?_
  refine Rj_iconst (q := 65) d_D_slipped_64 rfl ?_
  refine Rj_icmp_ne (q := 68) (t := 87) d_D_slipped_65 rfl (by decide) ⟨by omega, by omega⟩ (by decide) (fun c65 => ?_) (fun c65 => ?_)
  · have hno : ¬ ∃ t, oneP (ν 11) (ν 12) t := by
      rintro ⟨x, x1, x2, x3, x4⟩
      rcases hi with q | q | ⟨-, -, y, z, yz, y1, z1, y2, z2⟩
      · exact x2 (q.2.2 x x1.1 x1.2)
      · omega
      · by_cases e : y = x
        · exact z2 (x3 z z1.1 z1.2 (by omega))
        · exact y2 (x3 y y1.1 y1.2 e)
    replace hB := hB hno
    refine Rj_iconst (q := 88) d_D_slipped_87 rfl ?_
    refine Rj_istore (q := 90) (ls' := [vA 0, vI a, vI s, vI t, vI 0]) d_D_slipped_88 rfl (by decide) rfl ?_
    refine Rj_iload_n (q := 91) d_D_slipped_90 rfl rfl rfl ?_
    refine Rj_if_ne (q := 94) (t := 105) d_D_slipped_91 rfl (by decide) ⟨by omega, by omega⟩ (fun c91 => ?_) (fun c91 => ?_)
    · refine Rj_iload_n (q := 106) d_D_slipped_105 rfl rfl rfl ?_
      refine Rj_iconst (q := 107) d_D_slipped_106 rfl ?_
      refine Rj_icmp_ne (q := 110) (t := 122) d_D_slipped_107 rfl (by decide) ⟨by omega, by omega⟩ (by decide) (fun c107 => ?_) (fun c107 => ?_)
      · refine Rj_iload (q := 124) d_D_slipped_122 rfl rfl ?_
        refine Rj_if_eq (q := 127) (t := 136) d_D_slipped_124 rfl (by decide) (by decide) (fun _ => ?_) (fun c => absurd c (by decide))
        refine Rj_iconst (q := 137) d_D_slipped_136 rfl ?_
        refine Rj_iret d_D_slipped_137 rfl ?_
        first | exact fin_I hA (by simp [*]; done) | exact fin_I hB (by simp [*]; done) | exact fin_I hA (by rw [if_pos (by omega)]) | exact fin_I hB (by rw [if_pos (by omega)]) | exact fin_I hA (by rw [if_neg (by omega), if_pos (by omega)]) | exact fin_I hB (by rw [if_neg (by omega), if_pos (by omega)]) | exact fin_I hA (by rw [if_neg (by omega), if_neg (by omega)]) | exact fin_I hB (by rw [if_neg (by omega), if_neg (by omega)])
      · refine Rj_iload (q := 112) d_D_slipped_110 rfl rfl ?_
        refine Rj_if_eq (q := 115) (t := 119) d_D_slipped_112 rfl (by decide) (by decide) (fun _ => ?_) (fun c => absurd c (by decide))
        refine Rj_bipush (q := 121) d_D_slipped_119 rfl (by decide +kernel) ?_
        refine Rj_iret d_D_slipped_121 rfl ?_
        first | exact fin_I hA (by simp [*]; done) | exact fin_I hB (by simp [*]; done) | exact fin_I hA (by rw [if_pos (by omega)]) | exact fin_I hB (by rw [if_pos (by omega)]) | exact fin_I hA (by rw [if_neg (by omega), if_pos (by omega)]) | exact fin_I hB (by rw [if_neg (by omega), if_pos (by omega)]) | exact fin_I hA (by rw [if_neg (by omega), if_neg (by omega)]) | exact fin_I hB (by rw [if_neg (by omega), if_neg (by omega)])
    · refine Rj_iload (q := 96) d_D_slipped_94 rfl rfl ?_
      refine Rj_if_eq (q := 99) (t := 103) d_D_slipped_96 rfl (by decide) (by decide) (fun _ => ?_) (fun c => absurd c (by decide))
      refine Rj_iconst (q := 104) d_D_slipped_103 rfl ?_
      refine Rj_iret d_D_slipped_104 rfl ?_
      first | exact fin_I hA (by simp [*]; done) | exact fin_I hB (by simp [*]; done) | exact fin_I hA (by rw [if_pos (by omega)]) | exact fin_I hB (by rw [if_pos (by omega)]) | exact fin_I hA (by rw [if_neg (by omega), if_pos (by omega)]) | exact fin_I hB (by rw [if_neg (by omega), if_pos (by omega)]) | exact fin_I hA (by rw [if_neg (by omega), if_neg (by omega)]) | exact fin_I hB (by rw [if_neg (by omega), if_neg (by omega)])
  · have h1 : s = 1 ∧ (0 ≤ t ∧ t < ν 11 0) ∧ sty (ν 11) (ν 12) t ≠ 0 ∧ ∀ y, 0 ≤ y → y < ν 11 0 → y ≠ t → sty (ν 11) (ν 12) y = 0 := by
      rcases hi with q | q | q
      · omega
      · exact q
      · omega
    obtain ⟨-, ht, hn0, ho⟩ := h1
    have sbt := sb t ht.1 ht.2
    refine Rj_aload_n (q := 69) d_D_slipped_68 rfl rfl rfl ?_
    refine Rj_iload_n (q := 70) d_D_slipped_69 rfl rfl rfl ?_
    refine Rj_vo (q := 73) (z := y_D_strayOf) (as := [vI t]) (rest := []) (la := [vA 0, vI t]) oD_0_D_strayOf ml_D_248 mw_D_strayOf mv_D_strayOf rfl d_D_slipped_70 rfl rfl rfl rfl rfl ?_
    refine s_strayOf hC ⟨by omega, by omega⟩ ?_
    refine Rj_cs (q := 76) (z := y_Jmath_abs) (as := [vL (sty (ν 11) (ν 12) t)]) (rest := []) (la := [vL (sty (ν 11) (ν 12) t), vU]) ml_D_252 mw_Jmath_abs ms_Jmath_abs d_D_slipped_73 rfl rfl rfl rfl rfl ?_
    refine s_J_abs (by omega) ?_
    refine Rj_ldc2 (q := 79) k_D_258 d_D_slipped_76 rfl ?_
    refine Rj_lc_gt (q := 80) (q2 := 83) (t := 87) d_D_slipped_79 rfl d_D_slipped_80 rfl (by decide) ⟨by omega, by omega⟩ (by decide) (fun c79 => ?_) (fun c79 => ?_)
    · have hno : ¬ ∃ t, oneP (ν 11) (ν 12) t := by
        rintro ⟨x, x1, x2, x3, x4⟩
        by_cases e : x = t
        · subst e; omega
        · exact x2 (ho x x1.1 x1.2 e)
      replace hB := hB hno
      refine Rj_iconst (q := 88) d_D_slipped_87 rfl ?_
      refine Rj_istore (q := 90) (ls' := [vA 0, vI a, vI s, vI t, vI 0]) d_D_slipped_88 rfl (by decide) rfl ?_
      refine Rj_iload_n (q := 91) d_D_slipped_90 rfl rfl rfl ?_
      refine Rj_if_ne (q := 94) (t := 105) d_D_slipped_91 rfl (by decide) ⟨by omega, by omega⟩ (fun c91 => ?_) (fun c91 => ?_)
      · refine Rj_iload_n (q := 106) d_D_slipped_105 rfl rfl rfl ?_
        refine Rj_iconst (q := 107) d_D_slipped_106 rfl ?_
        refine Rj_icmp_ne (q := 110) (t := 122) d_D_slipped_107 rfl (by decide) ⟨by omega, by omega⟩ (by decide) (fun c107 => ?_) (fun c107 => ?_)
        · refine Rj_iload (q := 124) d_D_slipped_122 rfl rfl ?_
          refine Rj_if_eq (q := 127) (t := 136) d_D_slipped_124 rfl (by decide) (by decide) (fun _ => ?_) (fun c => absurd c (by decide))
          refine Rj_iconst (q := 137) d_D_slipped_136 rfl ?_
          refine Rj_iret d_D_slipped_137 rfl ?_
          first | exact fin_I hA (by simp [*]; done) | exact fin_I hB (by simp [*]; done) | exact fin_I hA (by rw [if_pos (by omega)]) | exact fin_I hB (by rw [if_pos (by omega)]) | exact fin_I hA (by rw [if_neg (by omega), if_pos (by omega)]) | exact fin_I hB (by rw [if_neg (by omega), if_pos (by omega)]) | exact fin_I hA (by rw [if_neg (by omega), if_neg (by omega)]) | exact fin_I hB (by rw [if_neg (by omega), if_neg (by omega)])
        · refine Rj_iload (q := 112) d_D_slipped_110 rfl rfl ?_
          refine Rj_if_eq (q := 115) (t := 119) d_D_slipped_112 rfl (by decide) (by decide) (fun _ => ?_) (fun c => absurd c (by decide))
          refine Rj_bipush (q := 121) d_D_slipped_119 rfl (by decide +kernel) ?_
          refine Rj_iret d_D_slipped_121 rfl ?_
          first | exact fin_I hA (by simp [*]; done) | exact fin_I hB (by simp [*]; done) | exact fin_I hA (by rw [if_pos (by omega)]) | exact fin_I hB (by rw [if_pos (by omega)]) | exact fin_I hA (by rw [if_neg (by omega), if_pos (by omega)]) | exact fin_I hB (by rw [if_neg (by omega), if_pos (by omega)]) | exact fin_I hA (by rw [if_neg (by omega), if_neg (by omega)]) | exact fin_I hB (by rw [if_neg (by omega), if_neg (by omega)])
      · refine Rj_iload (q := 96) d_D_slipped_94 rfl rfl ?_
        refine Rj_if_eq (q := 99) (t := 103) d_D_slipped_96 rfl (by decide) (by decide) (fun _ => ?_) (fun c => absurd c (by decide))
        refine Rj_iconst (q := 104) d_D_slipped_103 rfl ?_
        refine Rj_iret d_D_slipped_104 rfl ?_
        first | exact fin_I hA (by simp [*]; done) | exact fin_I hB (by simp [*]; done) | exact fin_I hA (by rw [if_pos (by omega)]) | exact fin_I hB (by rw [if_pos (by omega)]) | exact fin_I hA (by rw [if_neg (by omega), if_pos (by omega)]) | exact fin_I hB (by rw [if_neg (by omega), if_pos (by omega)]) | exact fin_I hA (by rw [if_neg (by omega), if_neg (by omega)]) | exact fin_I hB (by rw [if_neg (by omega), if_neg (by omega)])
    · replace hA := hA t ⟨ht, hn0, ho, by omega⟩
      refine Rj_iconst (q := 84) d_D_slipped_83 rfl ?_
      refine Rj_goto (t := 88) d_D_slipped_84 (by decide) ?_
      refine Rj_istore (q := 90) (ls' := [vA 0, vI a, vI s, vI t, vI 1]) d_D_slipped_88 rfl (by decide) rfl ?_
      refine Rj_iload_n (q := 91) d_D_slipped_90 rfl rfl rfl ?_
      refine Rj_if_ne (q := 94) (t := 105) d_D_slipped_91 rfl (by decide) ⟨by omega, by omega⟩ (fun c91 => ?_) (fun c91 => ?_)
      · refine Rj_iload_n (q := 106) d_D_slipped_105 rfl rfl rfl ?_
        refine Rj_iconst (q := 107) d_D_slipped_106 rfl ?_
        refine Rj_icmp_ne (q := 110) (t := 122) d_D_slipped_107 rfl (by decide) ⟨by omega, by omega⟩ (by decide) (fun c107 => ?_) (fun c107 => ?_)
        · refine Rj_iload (q := 124) d_D_slipped_122 rfl rfl ?_
          refine Rj_if_eq (q := 127) (t := 136) d_D_slipped_124 rfl (by decide) (by decide) (fun c => absurd c (by decide)) (fun _ => ?_)
          refine Rj_aload_n (q := 128) d_D_slipped_127 rfl rfl rfl ?_
          refine Rj_iload_n (q := 129) d_D_slipped_128 rfl rfl rfl ?_
          refine Rj_vo (q := 132) (z := y_D_strayOf) (as := [vI t]) (rest := []) (la := [vA 0, vI t]) oD_0_D_strayOf ml_D_248 mw_D_strayOf mv_D_strayOf rfl d_D_slipped_129 rfl rfl rfl rfl rfl ?_
          refine s_strayOf hC ⟨by omega, by omega⟩ ?_
          refine Rj_l2i (q := 133) d_D_slipped_132 rfl ?_
          refine Rj_goto (t := 137) d_D_slipped_133 (by decide) ?_
          refine Rj_iret d_D_slipped_137 rfl ?_
          first | exact fin_I hA (by simp [*]; done) | exact fin_I hB (by simp [*]; done) | exact fin_I hA (by rw [if_pos (by omega)]) | exact fin_I hB (by rw [if_pos (by omega)]) | exact fin_I hA (by rw [if_neg (by omega), if_pos (by omega)]) | exact fin_I hB (by rw [if_neg (by omega), if_pos (by omega)]) | exact fin_I hA (by rw [if_neg (by omega), if_neg (by omega)]) | exact fin_I hB (by rw [if_neg (by omega), if_neg (by omega)])
        · refine Rj_iload (q := 112) d_D_slipped_110 rfl rfl ?_
          refine Rj_if_eq (q := 115) (t := 119) d_D_slipped_112 rfl (by decide) (by decide) (fun c => absurd c (by decide)) (fun _ => ?_)
          refine Rj_iload_n (q := 116) d_D_slipped_115 rfl rfl rfl ?_
          refine Rj_goto (t := 121) d_D_slipped_116 (by decide) ?_
          refine Rj_iret d_D_slipped_121 rfl ?_
          first | exact fin_I hA (by simp [*]; done) | exact fin_I hB (by simp [*]; done) | exact fin_I hA (by rw [if_pos (by omega)]) | exact fin_I hB (by rw [if_pos (by omega)]) | exact fin_I hA (by rw [if_neg (by omega), if_pos (by omega)]) | exact fin_I hB (by rw [if_neg (by omega), if_pos (by omega)]) | exact fin_I hA (by rw [if_neg (by omega), if_neg (by omega)]) | exact fin_I hB (by rw [if_neg (by omega), if_neg (by omega)])
      · refine Rj_iload (q := 96) d_D_slipped_94 rfl rfl ?_
        refine Rj_if_eq (q := 99) (t := 103) d_D_slipped_96 rfl (by decide) (by decide) (fun c => absurd c (by decide)) (fun _ => ?_)
        refine Rj_iconst (q := 100) d_D_slipped_99 rfl ?_
        refine Rj_goto (t := 104) d_D_slipped_100 (by decide) ?_
        refine Rj_iret d_D_slipped_104 rfl ?_
        first | exact fin_I hA (by simp [*]; done) | exact fin_I hB (by simp [*]; done) | exact fin_I hA (by rw [if_pos (by omega)]) | exact fin_I hB (by rw [if_pos (by omega)]) | exact fin_I hA (by rw [if_neg (by omega), if_pos (by omega)]) | exact fin_I hB (by rw [if_neg (by omega), if_pos (by omega)]) | exact fin_I hA (by rw [if_neg (by omega), if_neg (by omega)]) | exact fin_I hB (by rw [if_neg (by omega), if_neg (by omega)])
set_option maxHeartbeats 4000000 in
theorem s_slipped_l : ∀ (f : Nat) {μ ν : Mem} {Q : PV → Mem → Prop} {n : Nat} {a s t d : Int}, ((ν 11 0 - d).toNat < f) → (Cor n μ ν) → (0 ≤ a ∧ a ≤ 2) → (0 ≤ d ∧ d ≤ ν 11 0) → ((s = 0 ∧ t = -1 ∧ ∀ y, 0 ≤ y → y < d → sty (ν 11) (ν 12) y = 0) ∨ (s = 1 ∧ (0 ≤ t ∧ t < d) ∧ sty (ν 11) (ν 12) t ≠ 0 ∧ ∀ y, 0 ≤ y → y < d → y ≠ t → sty (ν 11) (ν 12) y = 0) ∨ ((2 ≤ s ∧ s ≤ 12) ∧ (-1 ≤ t ∧ t < 12) ∧ ∃ x y, x ≠ y ∧ (0 ≤ x ∧ x < d) ∧ (0 ≤ y ∧ y < d) ∧ sty (ν 11) (ν 12) x ≠ 0 ∧ sty (ν 11) (ν 12) y ≠ 0)) → (∀ t, oneP (ν 11) (ν 12) t → Q (vI (if a = 0 then 1 else if a = 1 then t else sty (ν 11) (ν 12) t)) μ) → ((¬ ∃ t, oneP (ν 11) (ν 12) t) → Q (vI (if a = 0 then 0 else if a = 1 then (-2) else 0)) μ) → (s ≤ d) → Rj YD y_D_slipped 28 [vA 0, vI a, vI s, vI t, vI d] [] μ Q := by
  intro f
  induction f with
  | zero => intro μ ν Q n a s t d hf hC ha hd hi hA hB hs; exact absurd hf (by omega)
  | succ f ih =>
    intro μ ν Q n a s t d hf hC ha hd hi hA hB hs
    obtain ⟨hTP, hK, hSc, h, hM, hSB, hBK, hIM⟩ := id hC
    obtain ⟨z0, z1, z2, z3, z4, z5, z6, z7⟩ := h.z
    obtain ⟨w3, w5, w6, w8⟩ := hC.w
    have hBB := hM.2.2.2.1
    have sb := sty_bd hC
    refine Rj_iload (q := 30) d_D_slipped_28 rfl rfl ?_
    refine Rj_aload_n (q := 31) d_D_slipped_30 rfl rfl rfl ?_
    refine Rj_gr (q := 34) (zd := 3) gD_D_25_0 rfl rfl d_D_slipped_31 rfl ?_
    refine Rj_gi (q := 37) (ki := 0) (v := ν 11 0) gD_D_130_3 rfl rfl z2 d_D_slipped_34 rfl ?_
    refine Rj_icmp_ge (q := 40) (t := 63) d_D_slipped_37 rfl (by decide) ⟨by omega, by omega⟩ ⟨by omega, by omega⟩ (fun c37 => ?_) (fun c37 => ?_)
    · refine Rj_pre (ls' := [vA 0, vI a, vI s, vI t]) (t := [vI d]) rfl ?_
      exact s_slipped_63 hC ha (show d = ν 11 0 by omega) hi hA hB
    · have sbd := sb d hd.1 (by omega)
      refine Rj_aload_n (q := 41) d_D_slipped_40 rfl rfl rfl ?_
      refine Rj_iload (q := 43) d_D_slipped_41 rfl rfl ?_
      refine Rj_vo (q := 46) (z := y_D_strayOf) (as := [vI d]) (rest := []) (la := [vA 0, vI d]) oD_0_D_strayOf ml_D_248 mw_D_strayOf mv_D_strayOf rfl d_D_slipped_43 rfl rfl rfl rfl rfl ?_
      refine s_strayOf hC ⟨by omega, by omega⟩ ?_
      refine Rj_lconst (q := 47) (z := 0) d_D_slipped_46 rfl rfl ?_
      refine Rj_lc_eq (q := 48) (q2 := 51) (t := 57) d_D_slipped_47 rfl d_D_slipped_48 rfl (by decide) ⟨by omega, by omega⟩ (by decide) (fun c47 => ?_) (fun c47 => ?_)
      · refine Rj_iinc (q := 60) (ls' := [vA 0, vI a, vI s, vI t, vI (d + 1)]) d_D_slipped_57 rfl rfl (by decide) rfl ?_
        refine Rj_goto (t := 28) d_D_slipped_60 (by decide) ?_
        have hm1 : (ν 11 0 - (d + 1)).toNat < f := by clear hi; omega
        have hm2 : 0 ≤ d + 1 ∧ d + 1 ≤ ν 11 0 := by clear hi; omega
        have hm3 : s ≤ d + 1 := by clear hi; omega
        refine ih hm1 hC ha hm2 ?_ hA hB hm3
        rcases hi with ⟨q1, q2, q3⟩ | ⟨q1, q2, q3, q4⟩ | ⟨q1, q2, x, y, q3, q4, q5, q6, q7⟩
        · refine Or.inl ⟨q1, q2, fun y y0 y1 => ?_⟩
          by_cases e : y = d
          · subst e; exact c47
          · exact q3 y y0 (by omega)
        · refine Or.inr (Or.inl ⟨q1, by omega, q3, fun y y0 y1 y2 => ?_⟩)
          by_cases e : y = d
          · subst e; exact c47
          · exact q4 y y0 (by omega) y2
        · exact Or.inr (Or.inr ⟨q1, q2, x, y, q3, by omega, by omega, q6, q7⟩)
      · refine Rj_iinc (q := 54) (ls' := [vA 0, vI a, vI (s + 1), vI t, vI d]) d_D_slipped_51 rfl rfl (by decide) rfl ?_
        refine Rj_iload (q := 56) d_D_slipped_54 rfl rfl ?_
        refine Rj_istore_n (q := 57) (ls' := [vA 0, vI a, vI (s + 1), vI d, vI d]) d_D_slipped_56 rfl rfl (by decide) rfl ?_
        refine Rj_iinc (q := 60) (ls' := [vA 0, vI a, vI (s + 1), vI d, vI (d + 1)]) d_D_slipped_57 rfl rfl (by decide) rfl ?_
        refine Rj_goto (t := 28) d_D_slipped_60 (by decide) ?_
        have hm1 : (ν 11 0 - (d + 1)).toNat < f := by clear hi; omega
        have hm2 : 0 ≤ d + 1 ∧ d + 1 ≤ ν 11 0 := by clear hi; omega
        have hm3 : s + 1 ≤ d + 1 := by clear hi; omega
        refine ih hm1 hC ha hm2 ?_ hA hB hm3
        rcases hi with ⟨q1, q2, q3⟩ | ⟨q1, q2, q3, q4⟩ | ⟨q1, q2, x, y, q3, q4, q5, q6, q7⟩
        · exact Or.inr (Or.inl ⟨by omega, by omega, c47, fun y y0 y1 y2 => q3 y y0 (by omega)⟩)
        · exact Or.inr (Or.inr ⟨by omega, by omega, t, d, by omega, by omega, by omega, q3, c47⟩)
        · exact Or.inr (Or.inr ⟨by omega, by omega, x, y, q3, by omega, by omega, q6, q7⟩)
set_option maxHeartbeats 4000000 in
theorem s_slipped {μ : Mem} {Q : PV → Mem → Prop} {ν : Mem} {n : Nat} {a : Int} (hC : Cor n μ ν) (ha : i32 a) (h0 : (ν 11 0 = 0 ∨ ¬ (0 ≤ a ∧ a ≤ 2)) → Q (vI (-1)) μ) (h1 : ν 11 0 ≠ 0 → (0 ≤ a ∧ a ≤ 2) → (∀ t, oneP (ν 11) (ν 12) t → Q (vI (if a = 0 then 1 else if a = 1 then t else sty (ν 11) (ν 12) t)) μ) ∧ ((¬ ∃ t, oneP (ν 11) (ν 12) t) → Q (vI (if a = 0 then 0 else if a = 1 then (-2) else 0)) μ)) : Rj YD y_D_slipped 0 [vA 0, vI a] [] μ Q := by
  obtain ⟨hTP, hK, hSc, h, hM, hSB, hBK, hIM⟩ := id hC
  obtain ⟨z0, z1, z2, z3, z4, z5, z6, z7⟩ := h.z
  refine Rj_aload_n (q := 1) d_D_slipped_0 rfl rfl rfl ?_
  refine Rj_gr (q := 4) (zd := 3) gD_D_25_0 rfl rfl d_D_slipped_1 rfl ?_
  refine Rj_gi (q := 7) (ki := 0) (v := ν 11 0) gD_D_130_3 rfl rfl z2 d_D_slipped_4 rfl ?_
  refine Rj_if_eq (q := 10) (t := 19) d_D_slipped_7 rfl (by decide) (by first | assumption | exact ⟨by omega, by omega⟩) (fun c7 => ?_) (fun c7 => ?_)
  · refine Rj_iconst (q := 20) d_D_slipped_19 rfl ?_
    refine Rj_iret d_D_slipped_20 rfl ?_
    exact h0 (by omega)
  · refine Rj_iload_n (q := 11) d_D_slipped_10 rfl rfl rfl ?_
    refine Rj_if_lt (q := 14) (t := 19) d_D_slipped_11 rfl (by decide) (by first | assumption | exact ⟨by omega, by omega⟩) (fun c11 => ?_) (fun c11 => ?_)
    · refine Rj_iconst (q := 20) d_D_slipped_19 rfl ?_
      refine Rj_iret d_D_slipped_20 rfl ?_
      exact h0 (by omega)
    · refine Rj_iload_n (q := 15) d_D_slipped_14 rfl rfl rfl ?_
      refine Rj_iconst (q := 16) d_D_slipped_15 rfl ?_
      refine Rj_icmp_le (q := 19) (t := 21) d_D_slipped_16 rfl (by decide) (by first | assumption | exact ⟨by omega, by omega⟩) (by decide) (fun c16 => ?_) (fun c16 => ?_)
      · refine Rj_iconst (q := 22) d_D_slipped_21 rfl ?_
        refine Rj_istore_n (q := 23) (ls' := [vA 0, vI a, vI 0]) d_D_slipped_22 rfl rfl (by decide) rfl ?_
        refine Rj_iconst (q := 24) d_D_slipped_23 rfl ?_
        refine Rj_istore_n (q := 25) (ls' := [vA 0, vI a, vI 0, vI (-1)]) d_D_slipped_24 rfl rfl (by decide) rfl ?_
        refine Rj_iconst (q := 26) d_D_slipped_25 rfl ?_
        refine Rj_istore (q := 28) (ls' := [vA 0, vI a, vI 0, vI (-1), vI 0]) d_D_slipped_26 rfl (by decide) rfl ?_
        obtain ⟨hA, hB⟩ := h1 (by omega) (by omega)
        exact s_slipped_l _ (Nat.lt_succ_self _) hC (by omega) (by omega) (Or.inl ⟨rfl, rfl, fun y y0 y1 => by omega⟩) hA hB (by decide)
      · refine Rj_iconst (q := 20) d_D_slipped_19 rfl ?_
        refine Rj_iret d_D_slipped_20 rfl ?_
        exact h0 (by omega)
set_option maxHeartbeats 4000000 in
theorem s_M_areSeen_l : ∀ (f : Nat) {μ : Mem} {Q : PV → Mem → Prop} {x k d : Int}, ((μ 11 0 - d).toNat < f) → (MX μ) → (0 ≤ μ 11 6 ∧ μ 11 6 < 4096) → (∀ d, 0 ≤ d → d < μ 11 0 → zbit (μ 11 6) d = 1 → -9999 ≤ μ 11 (82 + d) ∧ μ 11 (82 + d) ≤ 9999) → (-1 ≤ x ∧ x < 12) → (-9 ≤ k ∧ k ≤ 9) → (0 ≤ d ∧ d ≤ μ 11 0) → (∀ y, 0 ≤ y → y < d → zbit (μ 11 6) y = 1 → sty (μ 11) (μ 12) y = (if y = x then k else 0)) → (asP (μ 11) (μ 12) x k → Q (vI 1) μ) → (¬ asP (μ 11) (μ 12) x k → Q (vI 0) μ) → Rj YM y_M_areSeen 2 [vA 0, vI x, vI k, vI d] [] μ Q := by
  intro f
  induction f with
  | zero => intro μ Q x k d hf h h6 hl hx hk hd hb h1 h0; exact absurd hf (by omega)
  | succ f ih =>
    intro μ Q x k d hf h h6 hl hx hk hd hb h1 h0
    obtain ⟨hS, hH, hP, hB, hFx⟩ := id h
    obtain ⟨z0, z1, z6, z5⟩ := h.z
    refine Rj_iload_n (q := 3) d_M_areSeen_2 rfl rfl rfl ?_
    refine Rj_aload_n (q := 4) d_M_areSeen_3 rfl rfl rfl ?_
    refine Rj_gr (q := 7) (zd := 11) gM_M_42_0 rfl rfl d_M_areSeen_4 rfl ?_
    refine Rj_iconst (q := 8) d_M_areSeen_7 rfl ?_
    refine Rj_ia (q := 9) (v := μ 11 0) aM_11 rfl (by decide) rfl d_M_areSeen_8 rfl ?_
    refine Rj_icmp_ge (q := 12) (t := 78) d_M_areSeen_9 rfl (by decide) ⟨by omega, by omega⟩ ⟨by omega, by omega⟩ (fun c9 => ?_) (fun c9 => ?_)
    · refine Rj_iconst (q := 79) d_M_areSeen_78 rfl ?_
      refine Rj_bret1 d_M_areSeen_79 rfl ?_
      exact h1 (fun y y0 y1 y2 => hb y y0 (by omega) y2)
    · have pb := hB d hd.1 (by omega)
      have q1 := pl_div (x := μ 12 d) z6.1 pb
      have mk := mul_bd hk (show -46656000000 ≤ pts (μ 11) ∧ pts (μ 11) ≤ 46656000000 by omega)
      refine Rj_aload_n (q := 13) d_M_areSeen_12 rfl rfl rfl ?_
      refine Rj_gr (q := 16) (zd := 11) gM_M_42_0 rfl rfl d_M_areSeen_13 rfl ?_
      refine Rj_bipush (q := 18) d_M_areSeen_16 rfl (by decide +kernel) ?_
      refine Rj_ia (q := 19) (v := μ 11 6) aM_11 rfl (by decide) rfl d_M_areSeen_18 rfl ?_
      refine Rj_iload_n (q := 20) d_M_areSeen_19 rfl rfl rfl ?_
      refine Rj_cs (q := 23) (z := y_M_isOf) (as := [vI (μ 11 6), vI d]) (rest := []) (la := [vI (μ 11 6), vI d]) ml_M_317 mw_M_isOf ms_M_isOf d_M_areSeen_20 rfl rfl rfl rfl rfl ?_
      refine s_M_isOf ⟨by omega, by omega⟩ (by omega) ?_
      refine Rj_b_eq (q := 26) (t := 72) d_M_areSeen_23 rfl (by decide) (fun c23 => ?_) (fun c23 => ?_)
      · have c23 := of_decide_eq_false c23
        refine Rj_iinc (q := 75) (ls' := [vA 0, vI x, vI k, vI (d + 1)]) d_M_areSeen_72 rfl rfl (by decide) rfl ?_
        refine Rj_goto (t := 2) d_M_areSeen_75 (by decide) ?_
        refine ih (by omega) h h6 hl hx hk (by omega) (fun y y0 y1 y2 => ?_) h1 h0
        by_cases e : y = d
        · subst e
          first | exact absurd y2 c23 | (rw [Int.add_mul_ediv_right _ _ (by omega)] at c66; split <;> omega)
        · exact hb y y0 (by omega) y2
      · have c23 := of_decide_eq_true c23
        have lv := hl d hd.1 (by omega) c23
        have sd : sty (μ 11) (μ 12) d = μ 11 (82 + d) - μ 12 d / pts (μ 11) := by unfold sty; rw [if_pos c23]
        refine Rj_aload_n (q := 27) d_M_areSeen_26 rfl rfl rfl ?_
        refine Rj_gr (q := 30) (zd := 12) gM_M_45_0 rfl rfl d_M_areSeen_27 rfl ?_
        refine Rj_iload_n (q := 31) d_M_areSeen_30 rfl rfl rfl ?_
        refine Rj_la (q := 32) (v := μ 12 d) aM_12 rfl (by omega) rfl d_M_areSeen_31 rfl ?_
        refine Rj_iload_n (q := 33) d_M_areSeen_32 rfl rfl rfl ?_
        refine Rj_iload_n (q := 34) d_M_areSeen_33 rfl rfl rfl ?_
        refine Rj_icmp_ne (q := 37) (t := 47) d_M_areSeen_34 rfl (by decide) ⟨by omega, by omega⟩ ⟨by omega, by omega⟩ (fun c34 => ?_) (fun c34 => ?_)
        · refine Rj_lconst (q := 48) (z := 0) d_M_areSeen_47 rfl rfl ?_
          refine Rj_ladd (q := 49) d_M_areSeen_48 rfl ?_
          rw [show (μ 12 d) + 0 = μ 12 d + 0 * pts (μ 11) from (by omega)]
          refine Rj_aload_n (q := 50) d_M_areSeen_49 rfl rfl rfl ?_
          refine Rj_gl (q := 53) (ki := 32) (v := pts (μ 11)) gM_M_64_0 rfl rfl hP d_M_areSeen_50 rfl ?_
          refine Rj_cs (q := 56) (z := y_M_floored) (as := [vL (μ 12 d + 0 * pts (μ 11)), vL (pts (μ 11))]) (rest := []) (la := [vL (μ 12 d + 0 * pts (μ 11)), vU, vL (pts (μ 11)), vU]) ml_M_343 mw_M_floored ms_M_floored d_M_areSeen_53 rfl rfl rfl rfl rfl ?_
          refine s_M_floored (by omega) (by omega) ?_
          refine Rj_aload_n (q := 57) d_M_areSeen_56 rfl rfl rfl ?_
          refine Rj_gr (q := 60) (zd := 11) gM_M_42_0 rfl rfl d_M_areSeen_57 rfl ?_
          refine Rj_bipush (q := 62) d_M_areSeen_60 rfl (by decide +kernel) ?_
          refine Rj_iload_n (q := 63) d_M_areSeen_62 rfl rfl rfl ?_
          refine Rj_iadd (q := 64) d_M_areSeen_63 rfl ?_
          refine Rj_ia (q := 65) (v := μ 11 (82 + d)) aM_11 rfl (by omega) rfl d_M_areSeen_64 rfl ?_
          refine Rj_i2l (q := 66) d_M_areSeen_65 rfl ⟨by omega, by omega⟩ ?_
          refine Rj_lc_eq (q := 67) (q2 := 70) (t := 72) d_M_areSeen_66 rfl d_M_areSeen_67 rfl (by decide) (by first | exact ⟨by omega, by omega⟩ | (rw [Int.add_mul_ediv_right _ _ (by omega)]; exact ⟨by omega, by omega⟩)) (by first | exact ⟨by omega, by omega⟩ | (rw [Int.add_mul_ediv_right _ _ (by omega)]; exact ⟨by omega, by omega⟩)) (fun c66 => ?_) (fun c66 => ?_)
          · refine Rj_iinc (q := 75) (ls' := [vA 0, vI x, vI k, vI (d + 1)]) d_M_areSeen_72 rfl rfl (by decide) rfl ?_
            refine Rj_goto (t := 2) d_M_areSeen_75 (by decide) ?_
            refine ih (by omega) h h6 hl hx hk (by omega) (fun y y0 y1 y2 => ?_) h1 h0
            by_cases e : y = d
            · subst e
              first | exact absurd y2 c23 | (rw [Int.add_mul_ediv_right _ _ (by omega)] at c66; split <;> omega)
            · exact hb y y0 (by omega) y2
          · refine Rj_iconst (q := 71) d_M_areSeen_70 rfl ?_
            refine Rj_bret0 d_M_areSeen_71 rfl ?_
            exact h0 (fun q => c66 (by
              have := q d hd.1 (by omega) c23
              rw [Int.add_mul_ediv_right _ _ (by omega)]
              split at this <;> omega))
        · refine Rj_iload_n (q := 38) d_M_areSeen_37 rfl rfl rfl ?_
          refine Rj_i2l (q := 39) d_M_areSeen_38 rfl ⟨by omega, by omega⟩ ?_
          refine Rj_aload_n (q := 40) d_M_areSeen_39 rfl rfl rfl ?_
          refine Rj_gl (q := 43) (ki := 32) (v := pts (μ 11)) gM_M_64_0 rfl rfl hP d_M_areSeen_40 rfl ?_
          refine Rj_lmul (q := 44) d_M_areSeen_43 rfl ?_
          refine Rj_goto (t := 48) d_M_areSeen_44 (by decide) ?_
          refine Rj_ladd (q := 49) d_M_areSeen_48 rfl ?_
          rw [show (μ 12 d) + (k * (pts (μ 11))) = μ 12 d + k * pts (μ 11) from rfl]
          refine Rj_aload_n (q := 50) d_M_areSeen_49 rfl rfl rfl ?_
          refine Rj_gl (q := 53) (ki := 32) (v := pts (μ 11)) gM_M_64_0 rfl rfl hP d_M_areSeen_50 rfl ?_
          refine Rj_cs (q := 56) (z := y_M_floored) (as := [vL (μ 12 d + k * pts (μ 11)), vL (pts (μ 11))]) (rest := []) (la := [vL (μ 12 d + k * pts (μ 11)), vU, vL (pts (μ 11)), vU]) ml_M_343 mw_M_floored ms_M_floored d_M_areSeen_53 rfl rfl rfl rfl rfl ?_
          refine s_M_floored (by omega) (by omega) ?_
          refine Rj_aload_n (q := 57) d_M_areSeen_56 rfl rfl rfl ?_
          refine Rj_gr (q := 60) (zd := 11) gM_M_42_0 rfl rfl d_M_areSeen_57 rfl ?_
          refine Rj_bipush (q := 62) d_M_areSeen_60 rfl (by decide +kernel) ?_
          refine Rj_iload_n (q := 63) d_M_areSeen_62 rfl rfl rfl ?_
          refine Rj_iadd (q := 64) d_M_areSeen_63 rfl ?_
          refine Rj_ia (q := 65) (v := μ 11 (82 + d)) aM_11 rfl (by omega) rfl d_M_areSeen_64 rfl ?_
          refine Rj_i2l (q := 66) d_M_areSeen_65 rfl ⟨by omega, by omega⟩ ?_
          refine Rj_lc_eq (q := 67) (q2 := 70) (t := 72) d_M_areSeen_66 rfl d_M_areSeen_67 rfl (by decide) (by first | exact ⟨by omega, by omega⟩ | (rw [Int.add_mul_ediv_right _ _ (by omega)]; exact ⟨by omega, by omega⟩)) (by first | exact ⟨by omega, by omega⟩ | (rw [Int.add_mul_ediv_right _ _ (by omega)]; exact ⟨by omega, by omega⟩)) (fun c66 => ?_) (fun c66 => ?_)
          · refine Rj_iinc (q := 75) (ls' := [vA 0, vI x, vI k, vI (d + 1)]) d_M_areSeen_72 rfl rfl (by decide) rfl ?_
            refine Rj_goto (t := 2) d_M_areSeen_75 (by decide) ?_
            refine ih (by omega) h h6 hl hx hk (by omega) (fun y y0 y1 y2 => ?_) h1 h0
            by_cases e : y = d
            · subst e
              first | exact absurd y2 c23 | (rw [Int.add_mul_ediv_right _ _ (by omega)] at c66; split <;> omega)
            · exact hb y y0 (by omega) y2
          · refine Rj_iconst (q := 71) d_M_areSeen_70 rfl ?_
            refine Rj_bret0 d_M_areSeen_71 rfl ?_
            exact h0 (fun q => c66 (by
              have := q d hd.1 (by omega) c23
              rw [Int.add_mul_ediv_right _ _ (by omega)]
              split at this <;> omega))
set_option maxHeartbeats 4000000 in
theorem s_M_areSeen {μ : Mem} {Q : PV → Mem → Prop} {x k : Int} (h : MX μ) (h6 : 0 ≤ μ 11 6 ∧ μ 11 6 < 4096) (hl : ∀ d, 0 ≤ d → d < μ 11 0 → zbit (μ 11 6) d = 1 → -9999 ≤ μ 11 (82 + d) ∧ μ 11 (82 + d) ≤ 9999) (hx : -1 ≤ x ∧ x < 12) (hk : -9 ≤ k ∧ k ≤ 9) (h1 : asP (μ 11) (μ 12) x k → Q (vI 1) μ) (h0 : ¬ asP (μ 11) (μ 12) x k → Q (vI 0) μ) : Rj YM y_M_areSeen 0 [vA 0, vI x, vI k] [] μ Q := by
  obtain ⟨z0, z1, z6, z5⟩ := h.z
  refine Rj_iconst (q := 1) d_M_areSeen_0 rfl ?_
  refine Rj_istore_n (q := 2) (ls' := [vA 0, vI x, vI k, vI 0]) d_M_areSeen_1 rfl rfl (by decide) rfl ?_
  exact s_M_areSeen_l _ (Nat.lt_succ_self _) h h6 hl hx hk (by omega) (fun y y0 y1 => by omega) h1 h0
set_option maxHeartbeats 4000000 in
theorem s_M_slipped_58 : ∀ (f : Nat) {μ : Mem} {Q : PV → Mem → Prop} {a m w b d k T V : Int}, ((10 - k).toNat < f) → (MX μ) → (0 ≤ μ 11 6 ∧ μ 11 6 < 4096) → (∀ d, 0 ≤ d → d < μ 11 0 → zbit (μ 11 6) d = 1 → -9999 ≤ μ 11 (82 + d) ∧ μ 11 (82 + d) ≤ 9999) → (0 ≤ T) → ((-9 ≤ V ∧ V ≤ 9) ∧ V ≠ 0) → (∀ x k, 0 ≤ x → x < μ 11 0 → k ≠ 0 → -9 ≤ k → k ≤ 9 → ((asP (μ 11) (μ 12) x k ∧ ¬ asP (μ 11) (μ 12) (-1) 0) ↔ (x = T ∧ k = V))) → (0 ≤ a ∧ a ≤ 2) → (0 ≤ d ∧ d < μ 11 0) → (-9 ≤ k ∧ k ≤ 10) → (¬ asP (μ 11) (μ 12) (-1) 0) → (((T < d ∨ (T = d ∧ V < k)) ∧ m = 1 ∧ w = T ∧ b = V) ∨ (¬ (T < d ∨ (T = d ∧ V < k)) ∧ m = 0 ∧ w = -2 ∧ b = 0)) → (∀ m w b, (((T < d + 1) ∧ m = 1 ∧ w = T ∧ b = V) ∨ (¬ (T < d + 1) ∧ m = 0 ∧ w = -2 ∧ b = 0)) → Rj YM y_M_slipped 117 [vA 0, vI a, vI m, vI w, vI b, vI d] [] μ Q) → Rj YM y_M_slipped 58 [vA 0, vI a, vI m, vI w, vI b, vI d, vI k] [] μ Q := by
  intro f
  induction f with
  | zero => intro μ Q a m w b d k T V hf h h6 hl hT hV hAS ha hd hk hn hi hc; exact absurd hf (by omega)
  | succ f ih =>
    intro μ Q a m w b d k T V hf h h6 hl hT hV hAS ha hd hk hn hi hc
    obtain ⟨z0, z1, z6, z5⟩ := h.z
    refine Rj_iload (q := 60) d_M_slipped_58 rfl rfl ?_
    refine Rj_bipush (q := 62) d_M_slipped_60 rfl (by decide +kernel) ?_
    refine Rj_icmp_gt (q := 65) (t := 117) d_M_slipped_62 rfl (by decide) ⟨by omega, by omega⟩ (by decide) (fun c62 => ?_) (fun c62 => ?_)
    · refine Rj_pre (ls' := [vA 0, vI a, vI m, vI w, vI b, vI d]) (t := [vI k]) rfl ?_
      exact hc m w b (by omega)
    · refine Rj_iload (q := 67) d_M_slipped_65 rfl rfl ?_
      refine Rj_if_eq (q := 70) (t := 111) d_M_slipped_67 rfl (by decide) ⟨by omega, by omega⟩ (fun c67 => ?_) (fun c67 => ?_)
      · refine Rj_iinc (q := 114) (ls' := [vA 0, vI a, vI m, vI w, vI b, vI d, vI (k + 1)]) d_M_slipped_111 rfl rfl (by decide) rfl ?_
        refine Rj_goto (t := 58) d_M_slipped_114 (by decide) ?_
        exact ih (by omega) h h6 hl hT hV hAS ha hd (by omega) hn (by
          first
          | omega
          | (have hh := (hAS d k hd.1 hd.2 (by omega) (by omega) (by omega)).mp ⟨q75, hn⟩; omega)
          | (have hh : ¬ (d = T ∧ k = V) := fun e => q75 ((hAS d k hd.1 hd.2 (by omega) (by omega) (by omega)).mpr e).1; omega)) hc
      · refine Rj_aload_n (q := 71) d_M_slipped_70 rfl rfl rfl ?_
        refine Rj_iload (q := 73) d_M_slipped_71 rfl rfl ?_
        refine Rj_iload (q := 75) d_M_slipped_73 rfl rfl ?_
        refine Rj_vo (q := 78) (z := y_M_areSeen) (as := [vI d, vI k]) (rest := []) (la := [vA 0, vI d, vI k]) oM_0_M_areSeen ml_M_449 mw_M_areSeen mv_M_areSeen rfl d_M_slipped_75 rfl rfl rfl rfl rfl ?_
        refine s_M_areSeen h h6 hl (by omega) (by omega) (fun q75 => ?_) (fun q75 => ?_)
        · have z75 := True.intro
          refine Rj_if_ne (q := 81) (t := 84) d_M_slipped_78 rfl (by decide) (by decide) (fun _ => ?_) (fun c => absurd c (by decide))
          refine Rj_iload_n (q := 85) d_M_slipped_84 rfl rfl rfl ?_
          refine Rj_if_ne (q := 88) (t := 93) d_M_slipped_85 rfl (by decide) ⟨by omega, by omega⟩ (fun c85 => ?_) (fun c85 => ?_)
          · refine Rj_iload_n (q := 94) d_M_slipped_93 rfl rfl rfl ?_
            refine Rj_istore_n (q := 95) (ls' := [vA 0, vI a, vI m, vI w, vI b, vI d, vI k]) d_M_slipped_94 rfl rfl (by decide) rfl ?_
            refine Rj_iload_n (q := 96) d_M_slipped_95 rfl rfl rfl ?_
            refine Rj_if_ne (q := 99) (t := 104) d_M_slipped_96 rfl (by decide) ⟨by omega, by omega⟩ (fun c96 => ?_) (fun c96 => ?_)
            · refine Rj_iload (q := 106) d_M_slipped_104 rfl rfl ?_
              refine Rj_istore (q := 108) (ls' := [vA 0, vI a, vI m, vI w, vI b, vI d, vI k]) d_M_slipped_106 rfl (by decide) rfl ?_
              refine Rj_iinc (q := 111) (ls' := [vA 0, vI a, vI (m + 1), vI w, vI b, vI d, vI k]) d_M_slipped_108 rfl rfl (by decide) rfl ?_
              refine Rj_iinc (q := 114) (ls' := [vA 0, vI a, vI (m + 1), vI w, vI b, vI d, vI (k + 1)]) d_M_slipped_111 rfl rfl (by decide) rfl ?_
              refine Rj_goto (t := 58) d_M_slipped_114 (by decide) ?_
              exact ih (by omega) h h6 hl hT hV hAS ha hd (by omega) hn (by
                first
                | omega
                | (have hh := (hAS d k hd.1 hd.2 (by omega) (by omega) (by omega)).mp ⟨q75, hn⟩; omega)
                | (have hh : ¬ (d = T ∧ k = V) := fun e => q75 ((hAS d k hd.1 hd.2 (by omega) (by omega) (by omega)).mpr e).1; omega)) hc
            · refine Rj_iload (q := 101) d_M_slipped_99 rfl rfl ?_
              refine Rj_goto (t := 106) d_M_slipped_101 (by decide) ?_
              refine Rj_istore (q := 108) (ls' := [vA 0, vI a, vI m, vI w, vI k, vI d, vI k]) d_M_slipped_106 rfl (by decide) rfl ?_
              refine Rj_iinc (q := 111) (ls' := [vA 0, vI a, vI (m + 1), vI w, vI k, vI d, vI k]) d_M_slipped_108 rfl rfl (by decide) rfl ?_
              refine Rj_iinc (q := 114) (ls' := [vA 0, vI a, vI (m + 1), vI w, vI k, vI d, vI (k + 1)]) d_M_slipped_111 rfl rfl (by decide) rfl ?_
              refine Rj_goto (t := 58) d_M_slipped_114 (by decide) ?_
              exact ih (by omega) h h6 hl hT hV hAS ha hd (by omega) hn (by
                first
                | omega
                | (have hh := (hAS d k hd.1 hd.2 (by omega) (by omega) (by omega)).mp ⟨q75, hn⟩; omega)
                | (have hh : ¬ (d = T ∧ k = V) := fun e => q75 ((hAS d k hd.1 hd.2 (by omega) (by omega) (by omega)).mpr e).1; omega)) hc
          · refine Rj_iload (q := 90) d_M_slipped_88 rfl rfl ?_
            refine Rj_goto (t := 94) d_M_slipped_90 (by decide) ?_
            refine Rj_istore_n (q := 95) (ls' := [vA 0, vI a, vI m, vI d, vI b, vI d, vI k]) d_M_slipped_94 rfl rfl (by decide) rfl ?_
            refine Rj_iload_n (q := 96) d_M_slipped_95 rfl rfl rfl ?_
            refine Rj_if_ne (q := 99) (t := 104) d_M_slipped_96 rfl (by decide) ⟨by omega, by omega⟩ (fun c96 => ?_) (fun c96 => ?_)
            · refine Rj_iload (q := 106) d_M_slipped_104 rfl rfl ?_
              refine Rj_istore (q := 108) (ls' := [vA 0, vI a, vI m, vI d, vI b, vI d, vI k]) d_M_slipped_106 rfl (by decide) rfl ?_
              refine Rj_iinc (q := 111) (ls' := [vA 0, vI a, vI (m + 1), vI d, vI b, vI d, vI k]) d_M_slipped_108 rfl rfl (by decide) rfl ?_
              refine Rj_iinc (q := 114) (ls' := [vA 0, vI a, vI (m + 1), vI d, vI b, vI d, vI (k + 1)]) d_M_slipped_111 rfl rfl (by decide) rfl ?_
              refine Rj_goto (t := 58) d_M_slipped_114 (by decide) ?_
              exact ih (by omega) h h6 hl hT hV hAS ha hd (by omega) hn (by
                first
                | omega
                | (have hh := (hAS d k hd.1 hd.2 (by omega) (by omega) (by omega)).mp ⟨q75, hn⟩; omega)
                | (have hh : ¬ (d = T ∧ k = V) := fun e => q75 ((hAS d k hd.1 hd.2 (by omega) (by omega) (by omega)).mpr e).1; omega)) hc
            · refine Rj_iload (q := 101) d_M_slipped_99 rfl rfl ?_
              refine Rj_goto (t := 106) d_M_slipped_101 (by decide) ?_
              refine Rj_istore (q := 108) (ls' := [vA 0, vI a, vI m, vI d, vI k, vI d, vI k]) d_M_slipped_106 rfl (by decide) rfl ?_
              refine Rj_iinc (q := 111) (ls' := [vA 0, vI a, vI (m + 1), vI d, vI k, vI d, vI k]) d_M_slipped_108 rfl rfl (by decide) rfl ?_
              refine Rj_iinc (q := 114) (ls' := [vA 0, vI a, vI (m + 1), vI d, vI k, vI d, vI (k + 1)]) d_M_slipped_111 rfl rfl (by decide) rfl ?_
              refine Rj_goto (t := 58) d_M_slipped_114 (by decide) ?_
              exact ih (by omega) h h6 hl hT hV hAS ha hd (by omega) hn (by
                first
                | omega
                | (have hh := (hAS d k hd.1 hd.2 (by omega) (by omega) (by omega)).mp ⟨q75, hn⟩; omega)
                | (have hh : ¬ (d = T ∧ k = V) := fun e => q75 ((hAS d k hd.1 hd.2 (by omega) (by omega) (by omega)).mpr e).1; omega)) hc
        · have z75 := True.intro
          refine Rj_if_ne (q := 81) (t := 84) d_M_slipped_78 rfl (by decide) (by decide) (fun c => absurd c (by decide)) (fun _ => ?_)
          refine Rj_goto (t := 111) d_M_slipped_81 (by decide) ?_
          refine Rj_iinc (q := 114) (ls' := [vA 0, vI a, vI m, vI w, vI b, vI d, vI (k + 1)]) d_M_slipped_111 rfl rfl (by decide) rfl ?_
          refine Rj_goto (t := 58) d_M_slipped_114 (by decide) ?_
          exact ih (by omega) h h6 hl hT hV hAS ha hd (by omega) hn (by
            first
            | omega
            | (have hh := (hAS d k hd.1 hd.2 (by omega) (by omega) (by omega)).mp ⟨q75, hn⟩; omega)
            | (have hh : ¬ (d = T ∧ k = V) := fun e => q75 ((hAS d k hd.1 hd.2 (by omega) (by omega) (by omega)).mpr e).1; omega)) hc
set_option maxHeartbeats 4000000 in
theorem s_M_slipped_123 {μ : Mem} {Q : PV → Mem → Prop} {a m w b T V : Int} (ha : 0 ≤ a ∧ a ≤ 2) (hfin : ((T < μ 11 0) ∧ m = 1 ∧ w = T ∧ b = V) ∨ (¬ (T < μ 11 0) ∧ m = 0 ∧ w = -2 ∧ b = 0)) (hQ : Q (vI (if a = 0 then (if T < μ 11 0 then 1 else 0) else if a = 1 then (if T < μ 11 0 then T else -2) else (if T < μ 11 0 then V else 0))) μ) : Rj YM y_M_slipped 123 [vA 0, vI a, vI m, vI w, vI b] [] μ Q := by
  refine Rj_iload_n (q := 124) d_M_slipped_123 rfl rfl rfl ?_
  refine Rj_if_ne (q := 127) (t := 131) d_M_slipped_124 rfl (by decide) ⟨by omega, by omega⟩ (fun c124 => ?_) (fun c124 => ?_)
  · rw [if_neg (by omega)] at hQ
    refine Rj_iload_n (q := 132) d_M_slipped_131 rfl rfl rfl ?_
    refine Rj_iconst (q := 133) d_M_slipped_132 rfl ?_
    refine Rj_icmp_ne (q := 136) (t := 140) d_M_slipped_133 rfl (by decide) ⟨by omega, by omega⟩ (by decide) (fun c133 => ?_) (fun c133 => ?_)
    · rw [if_neg (by omega)] at hQ
      refine Rj_iload (q := 142) d_M_slipped_140 rfl rfl ?_
      refine Rj_iret d_M_slipped_142 rfl ?_
      exact fin_I hQ (by split <;> omega)
    · rw [if_pos (by omega)] at hQ
      refine Rj_iload_n (q := 137) d_M_slipped_136 rfl rfl rfl ?_
      refine Rj_goto (t := 142) d_M_slipped_137 (by decide) ?_
      refine Rj_iret d_M_slipped_142 rfl ?_
      exact fin_I hQ (by split <;> omega)
  · rw [if_pos (by omega)] at hQ
    refine Rj_iload_n (q := 128) d_M_slipped_127 rfl rfl rfl ?_
    refine Rj_goto (t := 142) d_M_slipped_128 (by decide) ?_
    refine Rj_iret d_M_slipped_142 rfl ?_
    exact fin_I hQ (by split <;> omega)
set_option maxHeartbeats 4000000 in
theorem s_M_slipped_34 : ∀ (f : Nat) {μ : Mem} {Q : PV → Mem → Prop} {a m w b d T V : Int} {l6 : PV}, ((μ 11 0 - d).toNat < f) → (MX μ) → (0 ≤ μ 11 6 ∧ μ 11 6 < 4096) → (∀ d, 0 ≤ d → d < μ 11 0 → zbit (μ 11 6) d = 1 → -9999 ≤ μ 11 (82 + d) ∧ μ 11 (82 + d) ≤ 9999) → (0 ≤ T) → ((-9 ≤ V ∧ V ≤ 9) ∧ V ≠ 0) → (∀ x k, 0 ≤ x → x < μ 11 0 → k ≠ 0 → -9 ≤ k → k ≤ 9 → ((asP (μ 11) (μ 12) x k ∧ ¬ asP (μ 11) (μ 12) (-1) 0) ↔ (x = T ∧ k = V))) → (0 ≤ a ∧ a ≤ 2) → (asP (μ 11) (μ 12) (-1) 0 → ¬ T < μ 11 0) → (0 ≤ d ∧ d ≤ μ 11 0) → (((T < d) ∧ m = 1 ∧ w = T ∧ b = V) ∨ (¬ (T < d) ∧ m = 0 ∧ w = -2 ∧ b = 0)) → (Q (vI (if a = 0 then (if T < μ 11 0 then 1 else 0) else if a = 1 then (if T < μ 11 0 then T else -2) else (if T < μ 11 0 then V else 0))) μ) → Rj YM y_M_slipped 34 [vA 0, vI a, vI m, vI w, vI b, vI d] [] μ Q := by
  intro f
  induction f with
  | zero => intro μ Q a m w b d T V l6 hf h h6 hl hT hV hAS ha hz hd hi hQ; exact absurd hf (by omega)
  | succ f ih =>
    intro μ Q a m w b d T V l6 hf h h6 hl hT hV hAS ha hz hd hi hQ
    obtain ⟨z0, z1, z6, z5⟩ := h.z
    refine Rj_iload (q := 36) d_M_slipped_34 rfl rfl ?_
    refine Rj_aload_n (q := 37) d_M_slipped_36 rfl rfl rfl ?_
    refine Rj_gr (q := 40) (zd := 11) gM_M_42_0 rfl rfl d_M_slipped_37 rfl ?_
    refine Rj_iconst (q := 41) d_M_slipped_40 rfl ?_
    refine Rj_ia (q := 42) (v := μ 11 0) aM_11 rfl (by decide) rfl d_M_slipped_41 rfl ?_
    refine Rj_icmp_ge (q := 45) (t := 123) d_M_slipped_42 rfl (by decide) ⟨by omega, by omega⟩ ⟨by omega, by omega⟩ (fun c42 => ?_) (fun c42 => ?_)
    · have hfin : ((T < μ 11 0) ∧ m = 1 ∧ w = T ∧ b = V) ∨ (¬ (T < μ 11 0) ∧ m = 0 ∧ w = -2 ∧ b = 0) := by omega
      refine Rj_pre (ls' := [vA 0, vI a, vI m, vI w, vI b]) (t := [vI d]) rfl ?_
      exact s_M_slipped_123 ha (by first | exact hfin | (have := hz q48; omega)) hQ
    · refine Rj_aload_n (q := 46) d_M_slipped_45 rfl rfl rfl ?_
      refine Rj_iconst (q := 47) d_M_slipped_46 rfl ?_
      refine Rj_iconst (q := 48) d_M_slipped_47 rfl ?_
      refine Rj_vo (q := 51) (z := y_M_areSeen) (as := [vI (-1), vI 0]) (rest := []) (la := [vA 0, vI (-1), vI 0]) oM_0_M_areSeen ml_M_449 mw_M_areSeen mv_M_areSeen rfl d_M_slipped_48 rfl rfl rfl rfl rfl ?_
      refine s_M_areSeen h h6 hl (by omega) (by omega) (fun q48 => ?_) (fun q48 => ?_)
      · have z48 := True.intro
        refine Rj_if_ne (q := 54) (t := 123) d_M_slipped_51 rfl (by decide) (by decide) (fun _ => ?_) (fun c => absurd c (by decide))
        refine Rj_pre (ls' := [vA 0, vI a, vI m, vI w, vI b]) (t := [vI d]) rfl ?_
        exact s_M_slipped_123 ha (by first | exact hfin | (have := hz q48; omega)) hQ
      · have z48 := True.intro
        refine Rj_if_ne (q := 54) (t := 123) d_M_slipped_51 rfl (by decide) (by decide) (fun c => absurd c (by decide)) (fun _ => ?_)
        refine Rj_bipush (q := 56) d_M_slipped_54 rfl (by decide +kernel) ?_
        refine Rj_istore (q := 58) (ls' := [vA 0, vI a, vI m, vI w, vI b, vI d, vI (-9)]) d_M_slipped_56 rfl (by decide) rfl ?_
        refine s_M_slipped_58 _ (Nat.lt_succ_self _) h h6 hl hT hV hAS ha (by omega) (by decide) q48 (by omega) (fun m w b hi => ?_)
        refine Rj_iinc (q := 120) (ls' := [vA 0, vI a, vI m, vI w, vI b, vI (d + 1)]) d_M_slipped_117 rfl rfl (by decide) rfl ?_
        refine Rj_goto (t := 34) d_M_slipped_120 (by decide) ?_
        exact ih (l6 := l6) (by omega) h h6 hl hT hV hAS ha hz (by omega) hi hQ
set_option maxHeartbeats 4000000 in
theorem s_M_slipped {μ : Mem} {Q : PV → Mem → Prop} {a T V : Int} (h : MX μ) (h6 : 0 ≤ μ 11 6 ∧ μ 11 6 < 4096) (hl : ∀ d, 0 ≤ d → d < μ 11 0 → zbit (μ 11 6) d = 1 → -9999 ≤ μ 11 (82 + d) ∧ μ 11 (82 + d) ≤ 9999) (ha : i32 a) (h0 : (μ 11 0 = 0 ∨ ¬ (0 ≤ a ∧ a ≤ 2)) → Q (vI (-1)) μ) (hT : 0 ≤ T) (hV : (-9 ≤ V ∧ V ≤ 9) ∧ V ≠ 0) (hAS : ∀ x k, 0 ≤ x → x < μ 11 0 → k ≠ 0 → -9 ≤ k → k ≤ 9 → ((asP (μ 11) (μ 12) x k ∧ ¬ asP (μ 11) (μ 12) (-1) 0) ↔ (x = T ∧ k = V))) (hz : asP (μ 11) (μ 12) (-1) 0 → ¬ T < μ 11 0) (hQ : μ 11 0 ≠ 0 → (0 ≤ a ∧ a ≤ 2) → Q (vI (if a = 0 then (if T < μ 11 0 then 1 else 0) else if a = 1 then (if T < μ 11 0 then T else -2) else (if T < μ 11 0 then V else 0))) μ) : Rj YM y_M_slipped 0 [vA 0, vI a] [] μ Q := by
  obtain ⟨z0, z1, z6, z5⟩ := h.z
  refine Rj_aload_n (q := 1) d_M_slipped_0 rfl rfl rfl ?_
  refine Rj_gr (q := 4) (zd := 11) gM_M_42_0 rfl rfl d_M_slipped_1 rfl ?_
  refine Rj_iconst (q := 5) d_M_slipped_4 rfl ?_
  refine Rj_ia (q := 6) (v := μ 11 0) aM_11 rfl (by decide) rfl d_M_slipped_5 rfl ?_
  refine Rj_if_eq (q := 9) (t := 21) d_M_slipped_6 rfl (by decide) (by first | assumption | exact ⟨by omega, by omega⟩) (fun c6 => ?_) (fun c6 => ?_)
  · refine Rj_iconst (q := 22) d_M_slipped_21 rfl ?_
    refine Rj_iret d_M_slipped_22 rfl ?_
    exact h0 (by omega)
  · refine Rj_iload_n (q := 10) d_M_slipped_9 rfl rfl rfl ?_
    refine Rj_i2l (q := 11) d_M_slipped_10 rfl (by first | assumption | exact ⟨by omega, by omega⟩) ?_
    refine Rj_lconst (q := 12) (z := 0) d_M_slipped_11 rfl rfl ?_
    refine Rj_ldc2 (q := 15) k_M_341 d_M_slipped_12 rfl ?_
    refine Rj_cs (q := 18) (z := y_M_in) (as := [vL a, vL 0, vL 2]) (rest := []) (la := [vL a, vU, vL 0, vU, vL 2, vU]) ml_M_138 mw_M_in ms_M_in d_M_slipped_15 rfl rfl rfl rfl rfl ?_
    refine s_M_in ⟨by omega, by omega⟩ (by decide) (by decide) ?_
    refine Rj_b_ne (q := 21) (t := 23) d_M_slipped_18 rfl (by decide) (fun c18 => ?_) (fun c18 => ?_)
    · have c18 := of_decide_eq_true c18
      refine Rj_iconst (q := 24) d_M_slipped_23 rfl ?_
      refine Rj_istore_n (q := 25) (ls' := [vA 0, vI a, vI 0]) d_M_slipped_24 rfl rfl (by decide) rfl ?_
      refine Rj_bipush (q := 27) d_M_slipped_25 rfl (by decide +kernel) ?_
      refine Rj_istore_n (q := 28) (ls' := [vA 0, vI a, vI 0, vI (-2)]) d_M_slipped_27 rfl rfl (by decide) rfl ?_
      refine Rj_iconst (q := 29) d_M_slipped_28 rfl ?_
      refine Rj_istore (q := 31) (ls' := [vA 0, vI a, vI 0, vI (-2), vI 0]) d_M_slipped_29 rfl (by decide) rfl ?_
      refine Rj_iconst (q := 32) d_M_slipped_31 rfl ?_
      refine Rj_istore (q := 34) (ls' := [vA 0, vI a, vI 0, vI (-2), vI 0, vI 0]) d_M_slipped_32 rfl (by decide) rfl ?_
      exact s_M_slipped_34 (l6 := vU) _ (Nat.lt_succ_self _) h h6 hl hT hV hAS (by omega) hz (by omega) (by omega) (hQ (by omega) (by omega))
    · have c18 := of_decide_eq_false c18
      refine Rj_iconst (q := 22) d_M_slipped_21 rfl ?_
      refine Rj_iret d_M_slipped_22 rfl ?_
      exact h0 (by omega)
theorem sty_bit {S pl : Int → Int} {d : Int} (h : sty S pl d ≠ 0) : zbit (S 6) d = 1 := by
  unfold sty at h
  by_cases e : zbit (S 6) d = 1
  · exact e
  · rw [if_neg e] at h; exact absurd rfl h
theorem asP_z {S pl : Int → Int} (h : asP S pl (-1) 0) : azP S pl := fun d d0 d1 => by
  by_cases e : sty S pl d = 0
  · exact e
  · have := h d d0 d1 (sty_bit e)
    rw [if_neg (by omega)] at this; exact this
theorem C_slipped {n : Nat} {μ ν : Mem} {a : Int} (hC : Cor n μ ν) (ha : i32 a) : Rj YD y_D_slipped 0 [vA 0, vI a] [] μ (fun r μ' => Rj YM y_M_slipped 0 [vA 0, vI a] [] ν (fun r' ν' => Sm 1 r' r ∧ Cor (n + 1) μ' ν' ∧ Kp μ μ' ∧ Kq ν ν')) := by
  obtain ⟨w3, w5, w6, w8⟩ := hC.w
  have hM := hC.2.2.2.2.1
  have hl : ∀ d, 0 ≤ d → d < ν 11 0 → zbit (ν 11 6) d = 1 → -9999 ≤ ν 11 (82 + d) ∧ ν 11 (82 + d) ≤ 9999 := fun d d0 d1 d2 => (w6.2.2 d d0 d1 d2).1
  have hz0 := hM.z.1
  by_cases ex : ∃ t, oneP (ν 11) (ν 12) t
  · obtain ⟨t, t1, t2, t3, t4⟩ := ex
    have hAS : ∀ x k, 0 ≤ x → x < ν 11 0 → k ≠ 0 → -9 ≤ k → k ≤ 9 → ((asP (ν 11) (ν 12) x k ∧ ¬ asP (ν 11) (ν 12) (-1) 0) ↔ (x = t ∧ k = sty (ν 11) (ν 12) t)) := by
      intro x k x0 x1 k0 k1 k2
      constructor
      · rintro ⟨q1, q2⟩
        have e := q1 t t1.1 t1.2 (sty_bit t2)
        by_cases f : t = x
        · rw [if_pos f] at e; exact ⟨f.symm, e.symm⟩
        · rw [if_neg f] at e; exact absurd e t2
      · rintro ⟨rfl, rfl⟩
        refine ⟨fun d d0 d1 d2 => ?_, fun q => t2 (asP_z q x x0 x1)⟩
        by_cases f : d = x
        · rw [if_pos f, f]
        · rw [if_neg f]; exact t3 d d0 d1 f
    have hz : asP (ν 11) (ν 12) (-1) 0 → ¬ t < ν 11 0 := fun q => absurd (asP_z q t t1.1 t1.2) t2
    refine s_slipped hC ha (fun q => ?_) (fun q1 q2 => ⟨fun u hu => ?_, fun q => absurd ⟨t, t1, t2, t3, t4⟩ q⟩)
    · exact s_M_slipped hM w6.1 hl ha (fun _ => ⟨sm_I rfl, hC.next, kp0 _, kq0 _⟩) t1.1 ⟨t4, t2⟩ hAS hz (fun q1 q2 => by omega)
    · have eu : u = t := by
        by_cases f : u = t
        · exact f
        · exact absurd (t3 u hu.1.1 hu.1.2 f) hu.2.1
      subst eu
      refine s_M_slipped hM w6.1 hl ha (fun q => by omega) t1.1 ⟨t4, t2⟩ hAS hz (fun _ _ => ⟨sm_I ?_, hC.next, kp0 _, kq0 _⟩)
      rw [if_pos t1.2, if_pos t1.2, if_pos t1.2]
  · have hAS : ∀ x k, 0 ≤ x → x < ν 11 0 → k ≠ 0 → -9 ≤ k → k ≤ 9 → ((asP (ν 11) (ν 12) x k ∧ ¬ asP (ν 11) (ν 12) (-1) 0) ↔ (x = 100 ∧ k = 1)) := by
      intro x k x0 x1 k0 k1 k2
      constructor
      · rintro ⟨q1, q2⟩
        exfalso
        have hoth : ∀ y, 0 ≤ y → y < ν 11 0 → y ≠ x → sty (ν 11) (ν 12) y = 0 := fun y y0 y1 y2 => by
          by_cases e : sty (ν 11) (ν 12) y = 0
          · exact e
          · have := q1 y y0 y1 (sty_bit e)
            rw [if_neg y2] at this; exact this
        by_cases e : sty (ν 11) (ν 12) x = 0
        · refine q2 (fun d d0 d1 d2 => ?_)
          rw [if_neg (by omega)]
          by_cases f : d = x
          · rw [f]; exact e
          · exact hoth d d0 d1 f
        · have e2 := q1 x x0 x1 (sty_bit e)
          rw [if_pos rfl] at e2
          exact ex ⟨x, ⟨x0, x1⟩, e, hoth, by omega⟩
      · rintro ⟨e, -⟩
        omega
    refine s_slipped hC ha (fun q => ?_) (fun q1 q2 => ⟨fun u hu => absurd ⟨u, hu⟩ ex, fun _ => ?_⟩)
    · exact s_M_slipped hM w6.1 hl ha (fun _ => ⟨sm_I rfl, hC.next, kp0 _, kq0 _⟩) (T := 100) (V := 1) (by decide) (by decide) hAS (fun _ => by omega) (fun q1 q2 => by omega)
    · refine s_M_slipped hM w6.1 hl ha (fun q => by omega) (T := 100) (V := 1) (by decide) (by decide) hAS (fun _ => by omega) (fun _ _ => ⟨sm_I ?_, hC.next, kp0 _, kq0 _⟩)
      simp only [if_neg (show ¬ (100 : Int) < ν 11 0 by omega)]
