theorem gD_Ge_9_59 : GI YD "DoorsOnCogs$Gears" 9 59 1 (some (some 60)) := ⟨by decide, _, _, _, fl_Ge_9, cD_59, by decide, rfl⟩
theorem aD_60 : AI YD 60 (.int) 12 := ⟨by decide, cD_60, by decide⟩
theorem gD_Ge_15_59 : GI YD "DoorsOnCogs$Gears" 15 59 2 (some (some 61)) := ⟨by decide, _, _, _, fl_Ge_15, cD_59, by decide, rfl⟩
theorem aD_61 : AI YD 61 (.long) 12 := ⟨by decide, cD_61, by decide⟩
theorem gD_Ge_19_59 : GI YD "DoorsOnCogs$Gears" 19 59 3 (some (some 62)) := ⟨by decide, _, _, _, fl_Ge_19, cD_59, by decide, rfl⟩
theorem aD_62 : AI YD 62 (.long) 12 := ⟨by decide, cD_62, by decide⟩
theorem gD_Ge_31_59 : GI YD "DoorsOnCogs$Gears" 31 59 0 (some (some 3)) := ⟨by decide, _, _, _, fl_Ge_31, cD_59, by decide, rfl⟩
theorem gD_Ge_95_3 : GI YD "DoorsOnCogs$Gears" 95 3 1 (some (some 4)) := ⟨by decide, _, _, _, fl_Ge_95, cD_3, by decide, rfl⟩
theorem aD_4 : AI YD 4 (.int) 12 := ⟨by decide, cD_4, by decide⟩
theorem gD_Ge_67_3 : GI YD "DoorsOnCogs$Gears" 67 3 4 none := ⟨by decide, _, _, _, fl_Ge_67, cD_3, by decide, rfl⟩
theorem gD_Ge_78_3 : GI YD "DoorsOnCogs$Gears" 78 3 6 (some (some 6)) := ⟨by decide, _, _, _, fl_Ge_78, cD_3, by decide, rfl⟩
theorem aD_6 : AI YD 6 (.int) 16 := ⟨by decide, cD_6, by decide⟩
theorem gD_Ge_85_3 : GI YD "DoorsOnCogs$Gears" 85 3 7 (some (some 7)) := ⟨by decide, _, _, _, fl_Ge_85, cD_3, by decide, rfl⟩
theorem aD_7 : AI YD 7 (.int) 16 := ⟨by decide, cD_7, by decide⟩
theorem gD_Ge_88_3 : GI YD "DoorsOnCogs$Gears" 88 3 8 (some (some 8)) := ⟨by decide, _, _, _, fl_Ge_88, cD_3, by decide, rfl⟩
theorem aD_8 : AI YD 8 (.int) 16 := ⟨by decide, cD_8, by decide⟩
theorem oD_59_Ge_hangOn : OI YD 59 y_Ge_hangOn := ⟨by decide, _, _, _, cD_59, rfl⟩
theorem gD_Ge_58_3 : GI YD "DoorsOnCogs$Gears" 58 3 0 none := ⟨by decide, _, _, _, fl_Ge_58, cD_3, by decide, rfl⟩
theorem gD_Ge_9_67 : GI YD "DoorsOnCogs$Gears" 9 67 1 (some (some 68)) := ⟨by decide, _, _, _, fl_Ge_9, cD_67, by decide, rfl⟩
theorem aD_68 : AI YD 68 (.int) 12 := ⟨by decide, cD_68, by decide⟩
theorem gD_Ge_15_67 : GI YD "DoorsOnCogs$Gears" 15 67 2 (some (some 69)) := ⟨by decide, _, _, _, fl_Ge_15, cD_67, by decide, rfl⟩
theorem aD_69 : AI YD 69 (.long) 12 := ⟨by decide, cD_69, by decide⟩
theorem gD_Ge_19_67 : GI YD "DoorsOnCogs$Gears" 19 67 3 (some (some 70)) := ⟨by decide, _, _, _, fl_Ge_19, cD_67, by decide, rfl⟩
theorem aD_70 : AI YD 70 (.long) 12 := ⟨by decide, cD_70, by decide⟩
theorem gD_Ge_31_67 : GI YD "DoorsOnCogs$Gears" 31 67 0 (some (some 3)) := ⟨by decide, _, _, _, fl_Ge_31, cD_67, by decide, rfl⟩
theorem oD_67_Ge_hangOn : OI YD 67 y_Ge_hangOn := ⟨by decide, _, _, _, cD_67, rfl⟩
/-! the class hangs its doors (gears: cell 59, and the cutter's own: cell 67) -/
set_option maxHeartbeats 4000000 in
theorem s_Jarr_fill_aII {μ : Mem} {Q : PV → Mem → Prop} {c n : Nat} {z x : Int} (g : AI YD c (.int) n) (hz : z.toNat = c) (hQ : ∀ μ', Fr (fun d _ => d = c) μ μ' → (∀ j, 0 ≤ j → j < (n : Int) → μ' c j = x) → Q vU μ') : Rj YD y_Jarr_fill_aII 0 [vA z, vI x] [] μ Q := by
  refine Rj_iconst (q := 1) d_Jarr_fill_aII_0 rfl ?_
  refine Rj_istore_n (q := 2) (ls' := [vA z, vI x, vI 0]) d_Jarr_fill_aII_1 rfl rfl (by decide) rfl ?_
  refine Rj_aload_n (q := 3) d_Jarr_fill_aII_2 rfl rfl rfl ?_
  refine Rj_al (q := 4) (zn := (n : Int)) g hz rfl d_Jarr_fill_aII_3 rfl ?_
  refine Rj_istore_n (q := 5) (ls' := [vA z, vI x, vI 0, vI ((n : Int))]) d_Jarr_fill_aII_4 rfl rfl (by decide) rfl ?_
  exact s_Jarr_fill_aII_l _ (Nat.lt_succ_self _) g hz ⟨by decide, by omega⟩ (fun j q1 q2 => by omega) hQ
set_option maxHeartbeats 4000000 in
theorem s_Jarr_fill_aJJ {μ : Mem} {Q : PV → Mem → Prop} {c n : Nat} {z x : Int} (g : AI YD c (.long) n) (hz : z.toNat = c) (hQ : ∀ μ', Fr (fun d _ => d = c) μ μ' → (∀ j, 0 ≤ j → j < (n : Int) → μ' c j = x) → Q vU μ') : Rj YD y_Jarr_fill_aJJ 0 [vA z, vL x] [] μ Q := by
  refine Rj_iconst (q := 1) d_Jarr_fill_aJJ_0 rfl ?_
  refine Rj_istore_n (q := 2) (ls' := [vA z, vL x, vU, vI 0]) d_Jarr_fill_aJJ_1 rfl rfl (by decide) rfl ?_
  refine Rj_aload_n (q := 3) d_Jarr_fill_aJJ_2 rfl rfl rfl ?_
  refine Rj_al (q := 4) (zn := (n : Int)) g hz rfl d_Jarr_fill_aJJ_3 rfl ?_
  refine Rj_istore (q := 6) (ls' := [vA z, vL x, vU, vI 0, vI ((n : Int))]) d_Jarr_fill_aJJ_4 rfl (by decide) rfl ?_
  exact s_Jarr_fill_aJJ_l _ (Nat.lt_succ_self _) g hz ⟨by decide, by omega⟩ (fun j q1 q2 => by omega) hQ
theorem cntB_max (p : Nat → Bool) : ∀ n : Nat, cntB p n ≤ n
  | 0 => Nat.le_refl _
  | n + 1 => by
    have ih := cntB_max p n
    unfold cntB
    split <;> omega
/-- the class's street (its scene: cell 3) is the street S -/
def GS (μ : Mem) (S : Int → Int) : Prop := μ 3 0 = S 0 ∧ μ 3 4 = S 1 ∧ (∀ d, 0 ≤ d → d < S 0 → μ 4 d = tee S d) ∧ ∀ j, 0 ≤ j → j < S 1 → μ 6 j = jn S j 0 ∧ μ 7 j = jn S j 1 ∧ μ 8 j = jn S j 2
theorem GS.keep {Wp : Nat → Int → Prop} {μ ν : Mem} {S : Int → Int} (h : GS μ S) (f : Fr Wp μ ν) (h3 : ∀ i, ¬ Wp 3 i) (h4 : ∀ i, ¬ Wp 4 i) (h6 : ∀ i, ¬ Wp 6 i) (h7 : ∀ i, ¬ Wp 7 i) (h8 : ∀ i, ¬ Wp 8 i) : GS ν S := by
  unfold GS
  rw [f.row h3, f.row h4, f.row h6, f.row h7, f.row h8]
  exact h
theorem lw_abv {S : Int → Int} {j f t u n : Int} {part : Int} : lw (u * abv S j t) (n * blw S j f) part = (if jn S j 2 = 2 then lw (u * tee S t) (n * tee S f) part else if jn S j 2 = 0 then lw (-u) n part else lw u n part) := by
  unfold abv blw
  split
  · rfl
  · split
    · rw [Int.mul_one, show u * -1 = -u by omega]
    · rw [Int.mul_one, Int.mul_one]
theorem lw_0 (a b : Int) : lw a b 0 = a.tdiv ((Int.gcd a b : Nat) : Int) := by unfold lw; rw [if_pos rfl]
theorem lw_1 (a b : Int) : lw a b 1 = b.tdiv ((Int.gcd a b : Nat) : Int) := by unfold lw; rw [if_neg (by decide)]
theorem gcd_rng {a b : Int} (ha : -9223372036854775807 ≤ a ∧ a ≤ 9223372036854775807) (hb : b ≠ 0) (hb2 : -9223372036854775807 ≤ b ∧ b ≤ 9223372036854775807) : 1 ≤ ((Int.gcd a b : Nat) : Int) ∧ ((Int.gcd a b : Nat) : Int) ≤ 9223372036854775807 := by
  have h1 : 0 < Int.gcd a b := Int.gcd_pos_of_ne_zero_right _ hb
  have h2 := Int.gcd_le_natAbs_right a hb
  omega
abbrev Wg59 (c : Nat) (_ : Int) : Prop := c = 60 ∨ c = 61 ∨ c = 62
theorem GS.g59 {μ ν : Mem} {S : Int → Int} (h : GS μ S) (f : Fr Wg59 μ ν) : GS ν S := h.keep f (fun i q => by unfold Wg59 at q; omega) (fun i q => by unfold Wg59 at q; omega) (fun i q => by unfold Wg59 at q; omega) (fun i q => by unfold Wg59 at q; omega) (fun i q => by unfold Wg59 at q; omega)
set_option maxHeartbeats 4000000 in
theorem s_hangOn_59 {μ : Mem} {Q : PV → Mem → Prop} {S : Int → Int} {w j r x t : Int} (hS : StrOK S) (hG : GS μ S) (hH : HI S w (r + 1) (r) (μ 60) (μ 61) (μ 62)) (hr : 0 ≤ r ∧ r < S 0) (hj : act S w j) (hft : (x = jn S j 0 ∧ t = jn S j 1) ∨ (x = jn S j 1 ∧ t = jn S j 0)) (h1 : ∀ μ', Fr Wg59 μ μ' → μ 60 x = r → μ 60 t = -1 → HI S w (r + 1) (r) (μ' 60) (μ' 61) (μ' 62) → una (μ' 60) < una (μ 60) → (∀ y, 0 ≤ μ 60 y → μ' 60 y = μ 60 y) → Q (vI 1) μ') (h2 : ¬ (μ 60 x = r ∧ μ 60 t = -1) → Q (vI 0) μ) : Rj YD y_Ge_hangOn 0 [vA 59, vI r, vI x, vI t, vI (jn S j 2)] [] μ Q := by
  obtain ⟨hS0, hS1, hS2, hS3, hS4⟩ := id hS
  obtain ⟨a1, -⟩ := id hH
  obtain ⟨G0, G1, G4, G6⟩ := id hG
  have rf : 0 ≤ x ∧ x < S 0 := by obtain ⟨ra, rb, -⟩ := act_rng hS hj; rcases hft with ⟨rfl, rfl⟩ | ⟨rfl, rfl⟩ <;> assumption
  have rt : 0 ≤ t ∧ t < S 0 := by obtain ⟨ra, rb, -⟩ := act_rng hS hj; rcases hft with ⟨rfl, rfl⟩ | ⟨rfl, rfl⟩ <;> assumption
  have rne : x ≠ t := by obtain ⟨ra, rb, rn, -⟩ := act_rng hS hj; rcases hft with ⟨rfl, rfl⟩ | ⟨rfl, rfl⟩ <;> omega
  have rk := (act_rng hS hj).2.2.2
  have xf := a1 x rf.1 rf.2
  have xt := a1 t rt.1 rt.2
  have kf := hS2 x rf.1 rf.2
  have kt := hS2 t rt.1 rt.2
  have ef := G4 x rf.1 rf.2
  have et := G4 t rt.1 rt.2
  refine Rj_aload_n (q := 1) d_Ge_hangOn_0 rfl rfl rfl ?_
  refine Rj_gr (q := 4) (zd := 60) gD_Ge_9_59 rfl rfl d_Ge_hangOn_1 rfl ?_
  refine Rj_iload_n (q := 5) d_Ge_hangOn_4 rfl rfl rfl ?_
  refine Rj_ia (q := 6) (v := μ 60 x) aD_60 rfl (by omega) rfl d_Ge_hangOn_5 rfl ?_
  refine Rj_iload_n (q := 7) d_Ge_hangOn_6 rfl rfl rfl ?_
  refine Rj_icmp_ne (q := 10) (t := 20) d_Ge_hangOn_7 rfl (by decide) ⟨by omega, by omega⟩ ⟨by omega, by omega⟩ (fun c7 => ?_) (fun c7 => ?_)
  · refine Rj_iconst (q := 21) d_Ge_hangOn_20 rfl ?_
    refine Rj_bret0 d_Ge_hangOn_21 rfl ?_
    exact h2 (fun h => by omega)
  · refine Rj_aload_n (q := 11) d_Ge_hangOn_10 rfl rfl rfl ?_
    refine Rj_gr (q := 14) (zd := 60) gD_Ge_9_59 rfl rfl d_Ge_hangOn_11 rfl ?_
    refine Rj_iload_n (q := 15) d_Ge_hangOn_14 rfl rfl rfl ?_
    refine Rj_ia (q := 16) (v := μ 60 t) aD_60 rfl (by omega) rfl d_Ge_hangOn_15 rfl ?_
    refine Rj_iconst (q := 17) d_Ge_hangOn_16 rfl ?_
    refine Rj_icmp_eq (q := 20) (t := 22) d_Ge_hangOn_17 rfl (by decide) ⟨by omega, by omega⟩ (by decide) (fun c17 => ?_) (fun c17 => ?_)
    · obtain ⟨hu, hd⟩ := HI_bd hS hH x rf.1 rf.2 (by omega)
      have m1 := mul_bd hu (show -60 ≤ μ 4 t ∧ μ 4 t ≤ 60 by omega)
      have m2 := mul_bd (show -216000 ≤ μ 62 x ∧ μ 62 x ≤ 216000 by omega) (show -60 ≤ μ 4 x ∧ μ 4 x ≤ 60 by omega)
      have m3 : μ 62 x * μ 4 x ≠ 0 := mul_nn (by omega) (by omega)
      refine Rj_aload_n (q := 23) d_Ge_hangOn_22 rfl rfl rfl ?_
      refine Rj_gr (q := 26) (zd := 60) gD_Ge_9_59 rfl rfl d_Ge_hangOn_23 rfl ?_
      refine Rj_iload_n (q := 27) d_Ge_hangOn_26 rfl rfl rfl ?_
      refine Rj_iload_n (q := 28) d_Ge_hangOn_27 rfl rfl rfl ?_
      refine Rj_is (q := 29) aD_60 rfl (by omega) d_Ge_hangOn_28 rfl ?_
      refine Rj_aload_n (q := 30) d_Ge_hangOn_29 rfl rfl rfl ?_
      refine Rj_gr (q := 33) (zd := 61) gD_Ge_15_59 rfl rfl d_Ge_hangOn_30 rfl ?_
      refine Rj_iload_n (q := 34) d_Ge_hangOn_33 rfl rfl rfl ?_
      refine Rj_la (q := 35) (v := μ 61 x) aD_61 rfl (by omega) rfl d_Ge_hangOn_34 rfl ?_
      refine Rj_lstore (q := 37) (ls' := [vA 59, vI r, vI x, vI t, vI (jn S j 2), vL (μ 61 x), vU]) d_Ge_hangOn_35 rfl (by decide) rfl ?_
      refine Rj_aload_n (q := 38) d_Ge_hangOn_37 rfl rfl rfl ?_
      refine Rj_gr (q := 41) (zd := 62) gD_Ge_19_59 rfl rfl d_Ge_hangOn_38 rfl ?_
      refine Rj_iload_n (q := 42) d_Ge_hangOn_41 rfl rfl rfl ?_
      refine Rj_la (q := 43) (v := μ 62 x) aD_62 rfl (by omega) rfl d_Ge_hangOn_42 rfl ?_
      refine Rj_lstore (q := 45) (ls' := [vA 59, vI r, vI x, vI t, vI (jn S j 2), vL (μ 61 x), vU, vL (μ 62 x), vU]) d_Ge_hangOn_43 rfl (by decide) rfl ?_
      refine Rj_iload (q := 47) d_Ge_hangOn_45 rfl rfl ?_
      refine Rj_if_ne (q := 50) (t := 58) d_Ge_hangOn_47 rfl (by decide) ⟨by omega, by omega⟩ (fun c47 => ?_) (fun c47 => ?_)
      · refine Rj_iload (q := 60) d_Ge_hangOn_58 rfl rfl ?_
        refine Rj_iconst (q := 61) d_Ge_hangOn_60 rfl ?_
        refine Rj_icmp_ne (q := 64) (t := 94) d_Ge_hangOn_61 rfl (by decide) ⟨by omega, by omega⟩ (by decide) (fun c61 => ?_) (fun c61 => ?_)
        · refine Rj_lload (q := 96) d_Ge_hangOn_94 rfl rfl ?_
          refine Rj_lload (q := 98) d_Ge_hangOn_96 rfl rfl ?_
          refine Rj_cs (q := 101) (z := y_D_divisorOf) (as := [vL (μ 61 x), vL (μ 62 x)]) (rest := []) (la := [vL (μ 61 x), vU, vL (μ 62 x), vU]) ml_Ge_98 mw_D_divisorOf ms_D_divisorOf d_Ge_hangOn_98 rfl rfl rfl rfl rfl ?_
          refine s_D_divisorOf (by omega) (by omega) (by omega) ?_
          have gr98 := gcd_rng (a := (μ 61 x)) (b := (μ 62 x)) (by omega) (by omega) (by omega)
          refine Rj_lstore (q := 103) (ls' := [vA 59, vI r, vI x, vI t, vI (jn S j 2), vL (μ 61 x), vU, vL (μ 62 x), vU, vL (((Int.gcd (μ 61 x) (μ 62 x) : Nat) : Int)), vU]) d_Ge_hangOn_101 rfl (by decide) rfl ?_
          refine Rj_aload_n (q := 104) d_Ge_hangOn_103 rfl rfl rfl ?_
          refine Rj_gr (q := 107) (zd := 61) gD_Ge_15_59 rfl rfl d_Ge_hangOn_104 rfl ?_
          refine Rj_iload_n (q := 108) d_Ge_hangOn_107 rfl rfl rfl ?_
          refine Rj_lload (q := 110) d_Ge_hangOn_108 rfl rfl ?_
          refine Rj_lload (q := 112) d_Ge_hangOn_110 rfl rfl ?_
          refine Rj_ldiv (q := 113) d_Ge_hangOn_112 rfl ⟨by omega, by omega⟩ ⟨by omega, by omega⟩ (by omega) ?_
          refine Rj_lst (q := 114) aD_61 rfl (by omega) d_Ge_hangOn_113 rfl ?_
          refine Rj_aload_n (q := 115) d_Ge_hangOn_114 rfl rfl rfl ?_
          refine Rj_gr (q := 118) (zd := 62) gD_Ge_19_59 rfl rfl d_Ge_hangOn_115 rfl ?_
          refine Rj_iload_n (q := 119) d_Ge_hangOn_118 rfl rfl rfl ?_
          refine Rj_lload (q := 121) d_Ge_hangOn_119 rfl rfl ?_
          refine Rj_lload (q := 123) d_Ge_hangOn_121 rfl rfl ?_
          refine Rj_ldiv (q := 124) d_Ge_hangOn_123 rfl ⟨by omega, by omega⟩ ⟨by omega, by omega⟩ (by omega) ?_
          refine Rj_lst (q := 125) aD_62 rfl (by omega) d_Ge_hangOn_124 rfl ?_
          refine Rj_iconst (q := 126) d_Ge_hangOn_125 rfl ?_
          refine Rj_bret1 d_Ge_hangOn_126 rfl ?_
          have hh := (HI_hang hS hH hj hft (by omega) (by omega)).2
          rw [lw_abv, lw_abv] at hh
          simp only [if_neg c47, if_neg c61] at hh
          refine h1 _ (Fr.put (Fr.put (Fr.put (Fr.refl _ _) (by simp [Wg59])) (by simp [Wg59])) (by simp [Wg59])) c7 c17 ?_ ?_ ?_
          · simpa [mset_fs, mset_nc, lw_0, lw_1, ef, et] using hh
          · have := una_lt (lo := μ 60) (t := t) (r := r) (by omega) (by omega) hr.1
            simpa [mset_fs, mset_nc] using this
          · intro y hy
            by_cases e : y = t
            · subst e; omega
            · simp [mset_fs, mset_nc, fset, e]
        · refine Rj_lload (q := 66) d_Ge_hangOn_64 rfl rfl ?_
          refine Rj_aload_n (q := 67) d_Ge_hangOn_66 rfl rfl rfl ?_
          refine Rj_gr (q := 70) (zd := 3) gD_Ge_31_59 rfl rfl d_Ge_hangOn_67 rfl ?_
          refine Rj_gr (q := 73) (zd := 4) gD_Ge_95_3 rfl rfl d_Ge_hangOn_70 rfl ?_
          refine Rj_iload_n (q := 74) d_Ge_hangOn_73 rfl rfl rfl ?_
          refine Rj_ia (q := 75) (v := μ 4 t) aD_4 rfl (by omega) rfl d_Ge_hangOn_74 rfl ?_
          refine Rj_i2l (q := 76) d_Ge_hangOn_75 rfl ⟨by omega, by omega⟩ ?_
          refine Rj_lmul (q := 77) d_Ge_hangOn_76 rfl ?_
          refine Rj_lstore (q := 79) (ls' := [vA 59, vI r, vI x, vI t, vI (jn S j 2), vL ((μ 61 x) * (μ 4 t)), vU, vL (μ 62 x), vU]) d_Ge_hangOn_77 rfl (by decide) rfl ?_
          refine Rj_lload (q := 81) d_Ge_hangOn_79 rfl rfl ?_
          refine Rj_aload_n (q := 82) d_Ge_hangOn_81 rfl rfl rfl ?_
          refine Rj_gr (q := 85) (zd := 3) gD_Ge_31_59 rfl rfl d_Ge_hangOn_82 rfl ?_
          refine Rj_gr (q := 88) (zd := 4) gD_Ge_95_3 rfl rfl d_Ge_hangOn_85 rfl ?_
          refine Rj_iload_n (q := 89) d_Ge_hangOn_88 rfl rfl rfl ?_
          refine Rj_ia (q := 90) (v := μ 4 x) aD_4 rfl (by omega) rfl d_Ge_hangOn_89 rfl ?_
          refine Rj_i2l (q := 91) d_Ge_hangOn_90 rfl ⟨by omega, by omega⟩ ?_
          refine Rj_lmul (q := 92) d_Ge_hangOn_91 rfl ?_
          refine Rj_lstore (q := 94) (ls' := [vA 59, vI r, vI x, vI t, vI (jn S j 2), vL ((μ 61 x) * (μ 4 t)), vU, vL ((μ 62 x) * (μ 4 x)), vU]) d_Ge_hangOn_92 rfl (by decide) rfl ?_
          refine Rj_lload (q := 96) d_Ge_hangOn_94 rfl rfl ?_
          refine Rj_lload (q := 98) d_Ge_hangOn_96 rfl rfl ?_
          refine Rj_cs (q := 101) (z := y_D_divisorOf) (as := [vL ((μ 61 x) * (μ 4 t)), vL ((μ 62 x) * (μ 4 x))]) (rest := []) (la := [vL ((μ 61 x) * (μ 4 t)), vU, vL ((μ 62 x) * (μ 4 x)), vU]) ml_Ge_98 mw_D_divisorOf ms_D_divisorOf d_Ge_hangOn_98 rfl rfl rfl rfl rfl ?_
          refine s_D_divisorOf (by omega) (by omega) (by omega) ?_
          have gr98 := gcd_rng (a := ((μ 61 x) * (μ 4 t))) (b := ((μ 62 x) * (μ 4 x))) (by omega) (by omega) (by omega)
          refine Rj_lstore (q := 103) (ls' := [vA 59, vI r, vI x, vI t, vI (jn S j 2), vL ((μ 61 x) * (μ 4 t)), vU, vL ((μ 62 x) * (μ 4 x)), vU, vL (((Int.gcd ((μ 61 x) * (μ 4 t)) ((μ 62 x) * (μ 4 x)) : Nat) : Int)), vU]) d_Ge_hangOn_101 rfl (by decide) rfl ?_
          refine Rj_aload_n (q := 104) d_Ge_hangOn_103 rfl rfl rfl ?_
          refine Rj_gr (q := 107) (zd := 61) gD_Ge_15_59 rfl rfl d_Ge_hangOn_104 rfl ?_
          refine Rj_iload_n (q := 108) d_Ge_hangOn_107 rfl rfl rfl ?_
          refine Rj_lload (q := 110) d_Ge_hangOn_108 rfl rfl ?_
          refine Rj_lload (q := 112) d_Ge_hangOn_110 rfl rfl ?_
          refine Rj_ldiv (q := 113) d_Ge_hangOn_112 rfl ⟨by omega, by omega⟩ ⟨by omega, by omega⟩ (by omega) ?_
          refine Rj_lst (q := 114) aD_61 rfl (by omega) d_Ge_hangOn_113 rfl ?_
          refine Rj_aload_n (q := 115) d_Ge_hangOn_114 rfl rfl rfl ?_
          refine Rj_gr (q := 118) (zd := 62) gD_Ge_19_59 rfl rfl d_Ge_hangOn_115 rfl ?_
          refine Rj_iload_n (q := 119) d_Ge_hangOn_118 rfl rfl rfl ?_
          refine Rj_lload (q := 121) d_Ge_hangOn_119 rfl rfl ?_
          refine Rj_lload (q := 123) d_Ge_hangOn_121 rfl rfl ?_
          refine Rj_ldiv (q := 124) d_Ge_hangOn_123 rfl ⟨by omega, by omega⟩ ⟨by omega, by omega⟩ (by omega) ?_
          refine Rj_lst (q := 125) aD_62 rfl (by omega) d_Ge_hangOn_124 rfl ?_
          refine Rj_iconst (q := 126) d_Ge_hangOn_125 rfl ?_
          refine Rj_bret1 d_Ge_hangOn_126 rfl ?_
          have hh := (HI_hang hS hH hj hft (by omega) (by omega)).2
          rw [lw_abv, lw_abv] at hh
          have c2 : jn S j 2 = 2 := c61
          simp only [if_pos c2] at hh
          refine h1 _ (Fr.put (Fr.put (Fr.put (Fr.refl _ _) (by simp [Wg59])) (by simp [Wg59])) (by simp [Wg59])) c7 c17 ?_ ?_ ?_
          · simpa [mset_fs, mset_nc, lw_0, lw_1, ef, et] using hh
          · have := una_lt (lo := μ 60) (t := t) (r := r) (by omega) (by omega) hr.1
            simpa [mset_fs, mset_nc] using this
          · intro y hy
            by_cases e : y = t
            · subst e; omega
            · simp [mset_fs, mset_nc, fset, e]
      · refine Rj_lload (q := 52) d_Ge_hangOn_50 rfl rfl ?_
        refine Rj_lneg (q := 53) d_Ge_hangOn_52 rfl ?_
        refine Rj_lstore (q := 55) (ls' := [vA 59, vI r, vI x, vI t, vI (jn S j 2), vL (-(μ 61 x)), vU, vL (μ 62 x), vU]) d_Ge_hangOn_53 rfl (by decide) rfl ?_
        refine Rj_goto (t := 94) d_Ge_hangOn_55 (by decide) ?_
        refine Rj_lload (q := 96) d_Ge_hangOn_94 rfl rfl ?_
        refine Rj_lload (q := 98) d_Ge_hangOn_96 rfl rfl ?_
        refine Rj_cs (q := 101) (z := y_D_divisorOf) (as := [vL (-(μ 61 x)), vL (μ 62 x)]) (rest := []) (la := [vL (-(μ 61 x)), vU, vL (μ 62 x), vU]) ml_Ge_98 mw_D_divisorOf ms_D_divisorOf d_Ge_hangOn_98 rfl rfl rfl rfl rfl ?_
        refine s_D_divisorOf (by omega) (by omega) (by omega) ?_
        have gr98 := gcd_rng (a := (-(μ 61 x))) (b := (μ 62 x)) (by omega) (by omega) (by omega)
        refine Rj_lstore (q := 103) (ls' := [vA 59, vI r, vI x, vI t, vI (jn S j 2), vL (-(μ 61 x)), vU, vL (μ 62 x), vU, vL (((Int.gcd (-(μ 61 x)) (μ 62 x) : Nat) : Int)), vU]) d_Ge_hangOn_101 rfl (by decide) rfl ?_
        refine Rj_aload_n (q := 104) d_Ge_hangOn_103 rfl rfl rfl ?_
        refine Rj_gr (q := 107) (zd := 61) gD_Ge_15_59 rfl rfl d_Ge_hangOn_104 rfl ?_
        refine Rj_iload_n (q := 108) d_Ge_hangOn_107 rfl rfl rfl ?_
        refine Rj_lload (q := 110) d_Ge_hangOn_108 rfl rfl ?_
        refine Rj_lload (q := 112) d_Ge_hangOn_110 rfl rfl ?_
        refine Rj_ldiv (q := 113) d_Ge_hangOn_112 rfl ⟨by omega, by omega⟩ ⟨by omega, by omega⟩ (by omega) ?_
        refine Rj_lst (q := 114) aD_61 rfl (by omega) d_Ge_hangOn_113 rfl ?_
        refine Rj_aload_n (q := 115) d_Ge_hangOn_114 rfl rfl rfl ?_
        refine Rj_gr (q := 118) (zd := 62) gD_Ge_19_59 rfl rfl d_Ge_hangOn_115 rfl ?_
        refine Rj_iload_n (q := 119) d_Ge_hangOn_118 rfl rfl rfl ?_
        refine Rj_lload (q := 121) d_Ge_hangOn_119 rfl rfl ?_
        refine Rj_lload (q := 123) d_Ge_hangOn_121 rfl rfl ?_
        refine Rj_ldiv (q := 124) d_Ge_hangOn_123 rfl ⟨by omega, by omega⟩ ⟨by omega, by omega⟩ (by omega) ?_
        refine Rj_lst (q := 125) aD_62 rfl (by omega) d_Ge_hangOn_124 rfl ?_
        refine Rj_iconst (q := 126) d_Ge_hangOn_125 rfl ?_
        refine Rj_bret1 d_Ge_hangOn_126 rfl ?_
        have hh := (HI_hang hS hH hj hft (by omega) (by omega)).2
        rw [lw_abv, lw_abv] at hh
        have c0 : jn S j 2 = 0 := c47
        simp only [c0, if_neg (show ¬ ((0 : Int) = 2) by decide), if_true] at hh
        refine h1 _ (Fr.put (Fr.put (Fr.put (Fr.refl _ _) (by simp [Wg59])) (by simp [Wg59])) (by simp [Wg59])) c7 c17 ?_ ?_ ?_
        · simpa [mset_fs, mset_nc, lw_0, lw_1, ef, et] using hh
        · have := una_lt (lo := μ 60) (t := t) (r := r) (by omega) (by omega) hr.1
          simpa [mset_fs, mset_nc] using this
        · intro y hy
          by_cases e : y = t
          · subst e; omega
          · simp [mset_fs, mset_nc, fset, e]
    · refine Rj_iconst (q := 21) d_Ge_hangOn_20 rfl ?_
      refine Rj_bret0 d_Ge_hangOn_21 rfl ?_
      exact h2 (fun h => by omega)
set_option maxHeartbeats 4000000 in
theorem s_gather_59_42 : ∀ (f : Nat) {μ : Mem} {Q : PV → Mem → Prop} {S : Int → Int} {w r j m k : Int} {u0 : Nat}, ((S 1 - j).toNat < f) → (StrOK S) → (GS μ S) → (HI S w (r + 1) (r) (μ 60) (μ 61) (μ 62)) → (0 ≤ r ∧ r < S 0) → (0 ≤ w ∧ w ≤ 65535) → (0 ≤ j ∧ j ≤ S 1) → ((m = 0 ∧ una (μ 60) = u0 ∧ (∀ i, 0 ≤ i → i < j → act S w i → ¬ (μ 60 (jn S i 0) = r ∧ μ 60 (jn S i 1) = -1) ∧ ¬ (μ 60 (jn S i 1) = r ∧ μ 60 (jn S i 0) = -1))) ∨ (m = 1 ∧ una (μ 60) < u0)) → (∀ μ' m', Fr Wg59 μ μ' → HI S w (r + 1) (r) (μ' 60) (μ' 61) (μ' 62) → ((m' = 0 ∧ una (μ' 60) = u0 ∧ (∀ i, act S w i → ¬ (μ' 60 (jn S i 0) = r ∧ μ' 60 (jn S i 1) = -1) ∧ ¬ (μ' 60 (jn S i 1) = r ∧ μ' 60 (jn S i 0) = -1))) ∨ (m' = 1 ∧ una (μ' 60) < u0)) → (∀ y, 0 ≤ μ 60 y → μ' 60 y = μ 60 y) → Rj YD y_Ge_gather 137 [vA 59, vI r, vI w, vI m', vI k] [] μ' Q) → Rj YD y_Ge_gather 42 [vA 59, vI r, vI w, vI m, vI k, vI j] [] μ Q := by
  intro f
  induction f with
  | zero => intro μ Q S w r j m k u0 hf hS hG hH hr hw hj hm hk; exact absurd hf (by omega)
  | succ f ih =>
    intro μ Q S w r j m k u0 hf hS hG hH hr hw hj hm hk
    have hm01 : m = 0 ∨ m = 1 := by rcases hm with q | q <;> omega
    have hun : una (μ 60) ≤ u0 := by rcases hm with q | q <;> omega
    obtain ⟨hS0, hS1, hS2, hS3, hS4⟩ := id hS
    obtain ⟨G0, G1, G4, G6⟩ := id hG
    refine Rj_iload (q := 44) d_Ge_gather_42 rfl rfl ?_
    refine Rj_aload_n (q := 45) d_Ge_gather_44 rfl rfl rfl ?_
    refine Rj_gr (q := 48) (zd := 3) gD_Ge_31_59 rfl rfl d_Ge_gather_45 rfl ?_
    refine Rj_gi (q := 51) (ki := 4) (v := μ 3 4) gD_Ge_67_3 rfl rfl rfl d_Ge_gather_48 rfl ?_
    refine Rj_icmp_ge (q := 54) (t := 137) d_Ge_gather_51 rfl (by decide) (by first | exact ⟨by omega, by omega⟩ | (have := zbit_01 w j; constructor <;> omega)) (by first | exact ⟨by omega, by omega⟩ | (have := zbit_01 w j; constructor <;> omega)) (fun c51 => ?_) (fun c51 => ?_)
    · have ej : j = S 1 := by omega
      refine Rj_pre (ls' := [vA 59, vI r, vI w, vI m, vI k]) (t := [vI j]) rfl ?_
      exact (hk μ m (Fr.refl _ _) hH (by
        rcases hm with ⟨h1, h2, h3⟩ | h1
        · exact Or.inl ⟨h1, h2, fun i hi => h3 i hi.1 (by have := hi.2.1; omega) hi⟩
        · exact Or.inr h1) (fun _ _ => rfl))
    · have hlt : j < S 1 := by omega
      obtain ⟨e6, e7, e8⟩ := G6 j hj.1 hlt
      refine Rj_iload_n (q := 55) d_Ge_gather_54 rfl rfl rfl ?_
      refine Rj_iload (q := 57) d_Ge_gather_55 rfl rfl ?_
      refine Rj_cs (q := 60) (z := y_D_bitOf) (as := [vI w, vI j]) (rest := []) (la := [vI w, vI j]) ml_Ge_70 mw_D_bitOf ms_D_bitOf d_Ge_gather_57 rfl rfl rfl rfl rfl ?_
      refine s_D_bitOf (by omega) (by omega) ?_
      refine Rj_if_ne (q := 63) (t := 131) d_Ge_gather_60 rfl (by decide) (by first | exact ⟨by omega, by omega⟩ | (have := zbit_01 w j; constructor <;> omega)) (fun c60 => ?_) (fun c60 => ?_)
      · refine Rj_iinc (q := 134) (ls' := [vA 59, vI r, vI w, vI m, vI k, vI (j + 1)]) d_Ge_gather_131 rfl rfl (by decide) rfl ?_
        refine Rj_goto (t := 42) d_Ge_gather_134 (by decide) ?_
        refine Rj_pre (ls' := [vA 59, vI r, vI w, vI m, vI k, vI (j + 1)]) (t := []) rfl ?_
        exact ih (by omega) hS hG hH hr hw (by omega) (by
            rcases hm with ⟨h1, h2, h3⟩ | h1
            · refine Or.inl ⟨h1, h2, fun i i1 i2 i3 => ?_⟩
              by_cases e : i = j
              · subst e
                first | exact ⟨n104, n126⟩ | exact absurd i3.2.2 (by have := zbit_01 w i; omega)
              · exact h3 i i1 (by omega) i3
            · exact Or.inr h1) hk
      · have hact : act S w j := ⟨hj.1, hlt, by omega⟩
        refine Rj_aload_n (q := 64) d_Ge_gather_63 rfl rfl rfl ?_
        refine Rj_gr (q := 67) (zd := 3) gD_Ge_31_59 rfl rfl d_Ge_gather_64 rfl ?_
        refine Rj_gr (q := 70) (zd := 6) gD_Ge_78_3 rfl rfl d_Ge_gather_67 rfl ?_
        refine Rj_iload (q := 72) d_Ge_gather_70 rfl rfl ?_
        refine Rj_ia (q := 73) (v := jn S j 0) aD_6 rfl (by omega) e6 d_Ge_gather_72 rfl ?_
        refine Rj_istore (q := 75) (ls' := [vA 59, vI r, vI w, vI m, vI k, vI j, vI (jn S j 0)]) d_Ge_gather_73 rfl (by decide) rfl ?_
        refine Rj_aload_n (q := 76) d_Ge_gather_75 rfl rfl rfl ?_
        refine Rj_gr (q := 79) (zd := 3) gD_Ge_31_59 rfl rfl d_Ge_gather_76 rfl ?_
        refine Rj_gr (q := 82) (zd := 7) gD_Ge_85_3 rfl rfl d_Ge_gather_79 rfl ?_
        refine Rj_iload (q := 84) d_Ge_gather_82 rfl rfl ?_
        refine Rj_ia (q := 85) (v := jn S j 1) aD_7 rfl (by omega) e7 d_Ge_gather_84 rfl ?_
        refine Rj_istore (q := 87) (ls' := [vA 59, vI r, vI w, vI m, vI k, vI j, vI (jn S j 0), vI (jn S j 1)]) d_Ge_gather_85 rfl (by decide) rfl ?_
        refine Rj_iload_n (q := 88) d_Ge_gather_87 rfl rfl rfl ?_
        refine Rj_aload_n (q := 89) d_Ge_gather_88 rfl rfl rfl ?_
        refine Rj_iload_n (q := 90) d_Ge_gather_89 rfl rfl rfl ?_
        refine Rj_iload (q := 92) d_Ge_gather_90 rfl rfl ?_
        refine Rj_iload (q := 94) d_Ge_gather_92 rfl rfl ?_
        refine Rj_aload_n (q := 95) d_Ge_gather_94 rfl rfl rfl ?_
        refine Rj_gr (q := 98) (zd := 3) gD_Ge_31_59 rfl rfl d_Ge_gather_95 rfl ?_
        refine Rj_gr (q := 101) (zd := 8) gD_Ge_88_3 rfl rfl d_Ge_gather_98 rfl ?_
        refine Rj_iload (q := 103) d_Ge_gather_101 rfl rfl ?_
        refine Rj_ia (q := 104) (v := jn S j 2) aD_8 rfl (by omega) e8 d_Ge_gather_103 rfl ?_
        refine Rj_vo (q := 107) (z := y_Ge_hangOn) (as := [vI r, vI (jn S j 0), vI (jn S j 1), vI (jn S j 2)]) (rest := [vI m]) (la := [vA 59, vI r, vI (jn S j 0), vI (jn S j 1), vI (jn S j 2)]) oD_59_Ge_hangOn ml_Ge_91 mw_Ge_hangOn mv_Ge_hangOn rfl d_Ge_gather_104 rfl rfl rfl rfl rfl ?_
        refine s_hangOn_59 (μ := μ) (j := j) hS hG hH hr hact (Or.inl ⟨rfl, rfl⟩) (fun m104 f104 a104 b104 q104 u104 k104 => ?_) (fun n104 => ?_)
        · have z104 := True.intro
          refine Rj_ior (q := 108) (z := 1) d_Ge_gather_107 rfl (by rcases hm01 with q | q <;> rw [q] <;> decide) ?_
          refine Rj_istore_n (q := 109) (ls' := [vA 59, vI r, vI w, vI 1, vI k, vI j, vI (jn S j 0), vI (jn S j 1)]) d_Ge_gather_108 rfl rfl (by decide) rfl ?_
          refine Rj_iload_n (q := 110) d_Ge_gather_109 rfl rfl rfl ?_
          refine Rj_aload_n (q := 111) d_Ge_gather_110 rfl rfl rfl ?_
          refine Rj_iload_n (q := 112) d_Ge_gather_111 rfl rfl rfl ?_
          refine Rj_iload (q := 114) d_Ge_gather_112 rfl rfl ?_
          refine Rj_iload (q := 116) d_Ge_gather_114 rfl rfl ?_
          refine Rj_aload_n (q := 117) d_Ge_gather_116 rfl rfl rfl ?_
          refine Rj_gr (q := 120) (zd := 3) gD_Ge_31_59 rfl rfl d_Ge_gather_117 rfl ?_
          refine Rj_gr (q := 123) (zd := 8) gD_Ge_88_3 rfl rfl d_Ge_gather_120 rfl ?_
          refine Rj_iload (q := 125) d_Ge_gather_123 rfl rfl ?_
          refine Rj_ia (q := 126) (v := jn S j 2) aD_8 rfl (by omega) ((hG.g59 f104).2.2.2 j hj.1 hlt).2.2 d_Ge_gather_125 rfl ?_
          refine Rj_vo (q := 129) (z := y_Ge_hangOn) (as := [vI r, vI (jn S j 1), vI (jn S j 0), vI (jn S j 2)]) (rest := [vI 1]) (la := [vA 59, vI r, vI (jn S j 1), vI (jn S j 0), vI (jn S j 2)]) oD_59_Ge_hangOn ml_Ge_91 mw_Ge_hangOn mv_Ge_hangOn rfl d_Ge_gather_126 rfl rfl rfl rfl rfl ?_
          refine s_hangOn_59 (μ := m104) (j := j) hS (hG.g59 f104) q104 hr hact (Or.inr ⟨rfl, rfl⟩) (fun m126 f126 a126 b126 q126 u126 k126 => ?_) (fun n126 => ?_)
          · have z126 := True.intro
            refine Rj_ior (q := 130) (z := 1) d_Ge_gather_129 rfl (by decide) ?_
            refine Rj_istore_n (q := 131) (ls' := [vA 59, vI r, vI w, vI 1, vI k, vI j, vI (jn S j 0), vI (jn S j 1)]) d_Ge_gather_130 rfl rfl (by decide) rfl ?_
            refine Rj_iinc (q := 134) (ls' := [vA 59, vI r, vI w, vI 1, vI k, vI (j + 1), vI (jn S j 0), vI (jn S j 1)]) d_Ge_gather_131 rfl rfl (by decide) rfl ?_
            refine Rj_goto (t := 42) d_Ge_gather_134 (by decide) ?_
            refine Rj_pre (ls' := [vA 59, vI r, vI w, vI 1, vI k, vI (j + 1)]) (t := [vI (jn S j 0), vI (jn S j 1)]) rfl ?_
            exact ih (μ := m126) (by omega) hS (hG.g59 (Fr.trans f104 f126)) q126 hr hw (by omega) (Or.inr ⟨rfl, by omega⟩) (fun m' v' f' h' c' k' => hk m' v' (Fr.trans (Fr.trans f104 f126) f') h' c' (fun y hy => (k' y (by rw [(fun y hy => (k126 y (by rw [k104 y hy]; exact hy)).trans (k104 y hy)) y hy]; exact hy)).trans ((fun y hy => (k126 y (by rw [k104 y hy]; exact hy)).trans (k104 y hy)) y hy)))
          · have z126 := True.intro
            refine Rj_ior (q := 130) (z := 1) d_Ge_gather_129 rfl (by decide) ?_
            refine Rj_istore_n (q := 131) (ls' := [vA 59, vI r, vI w, vI 1, vI k, vI j, vI (jn S j 0), vI (jn S j 1)]) d_Ge_gather_130 rfl rfl (by decide) rfl ?_
            refine Rj_iinc (q := 134) (ls' := [vA 59, vI r, vI w, vI 1, vI k, vI (j + 1), vI (jn S j 0), vI (jn S j 1)]) d_Ge_gather_131 rfl rfl (by decide) rfl ?_
            refine Rj_goto (t := 42) d_Ge_gather_134 (by decide) ?_
            refine Rj_pre (ls' := [vA 59, vI r, vI w, vI 1, vI k, vI (j + 1)]) (t := [vI (jn S j 0), vI (jn S j 1)]) rfl ?_
            exact ih (μ := m104) (by omega) hS (hG.g59 f104) q104 hr hw (by omega) (Or.inr ⟨rfl, by omega⟩) (fun m' v' f' h' c' k' => hk m' v' (Fr.trans f104 f') h' c' (fun y hy => (k' y (by rw [k104 y hy]; exact hy)).trans (k104 y hy)))
        · have z104 := True.intro
          refine Rj_ior (q := 108) (z := m) d_Ge_gather_107 rfl (by rcases hm01 with q | q <;> rw [q] <;> decide) ?_
          refine Rj_istore_n (q := 109) (ls' := [vA 59, vI r, vI w, vI m, vI k, vI j, vI (jn S j 0), vI (jn S j 1)]) d_Ge_gather_108 rfl rfl (by decide) rfl ?_
          refine Rj_iload_n (q := 110) d_Ge_gather_109 rfl rfl rfl ?_
          refine Rj_aload_n (q := 111) d_Ge_gather_110 rfl rfl rfl ?_
          refine Rj_iload_n (q := 112) d_Ge_gather_111 rfl rfl rfl ?_
          refine Rj_iload (q := 114) d_Ge_gather_112 rfl rfl ?_
          refine Rj_iload (q := 116) d_Ge_gather_114 rfl rfl ?_
          refine Rj_aload_n (q := 117) d_Ge_gather_116 rfl rfl rfl ?_
          refine Rj_gr (q := 120) (zd := 3) gD_Ge_31_59 rfl rfl d_Ge_gather_117 rfl ?_
          refine Rj_gr (q := 123) (zd := 8) gD_Ge_88_3 rfl rfl d_Ge_gather_120 rfl ?_
          refine Rj_iload (q := 125) d_Ge_gather_123 rfl rfl ?_
          refine Rj_ia (q := 126) (v := jn S j 2) aD_8 rfl (by omega) (hG.2.2.2 j hj.1 hlt).2.2 d_Ge_gather_125 rfl ?_
          refine Rj_vo (q := 129) (z := y_Ge_hangOn) (as := [vI r, vI (jn S j 1), vI (jn S j 0), vI (jn S j 2)]) (rest := [vI m]) (la := [vA 59, vI r, vI (jn S j 1), vI (jn S j 0), vI (jn S j 2)]) oD_59_Ge_hangOn ml_Ge_91 mw_Ge_hangOn mv_Ge_hangOn rfl d_Ge_gather_126 rfl rfl rfl rfl rfl ?_
          refine s_hangOn_59 (μ := μ) (j := j) hS hG hH hr hact (Or.inr ⟨rfl, rfl⟩) (fun m126 f126 a126 b126 q126 u126 k126 => ?_) (fun n126 => ?_)
          · have z126 := True.intro
            refine Rj_ior (q := 130) (z := 1) d_Ge_gather_129 rfl (by rcases hm01 with q | q <;> rw [q] <;> decide) ?_
            refine Rj_istore_n (q := 131) (ls' := [vA 59, vI r, vI w, vI 1, vI k, vI j, vI (jn S j 0), vI (jn S j 1)]) d_Ge_gather_130 rfl rfl (by decide) rfl ?_
            refine Rj_iinc (q := 134) (ls' := [vA 59, vI r, vI w, vI 1, vI k, vI (j + 1), vI (jn S j 0), vI (jn S j 1)]) d_Ge_gather_131 rfl rfl (by decide) rfl ?_
            refine Rj_goto (t := 42) d_Ge_gather_134 (by decide) ?_
            refine Rj_pre (ls' := [vA 59, vI r, vI w, vI 1, vI k, vI (j + 1)]) (t := [vI (jn S j 0), vI (jn S j 1)]) rfl ?_
            exact ih (μ := m126) (by omega) hS (hG.g59 f126) q126 hr hw (by omega) (Or.inr ⟨rfl, by omega⟩) (fun m' v' f' h' c' k' => hk m' v' (Fr.trans f126 f') h' c' (fun y hy => (k' y (by rw [k126 y hy]; exact hy)).trans (k126 y hy)))
          · have z126 := True.intro
            refine Rj_ior (q := 130) (z := m) d_Ge_gather_129 rfl (by rcases hm01 with q | q <;> rw [q] <;> decide) ?_
            refine Rj_istore_n (q := 131) (ls' := [vA 59, vI r, vI w, vI m, vI k, vI j, vI (jn S j 0), vI (jn S j 1)]) d_Ge_gather_130 rfl rfl (by decide) rfl ?_
            refine Rj_iinc (q := 134) (ls' := [vA 59, vI r, vI w, vI m, vI k, vI (j + 1), vI (jn S j 0), vI (jn S j 1)]) d_Ge_gather_131 rfl rfl (by decide) rfl ?_
            refine Rj_goto (t := 42) d_Ge_gather_134 (by decide) ?_
            refine Rj_pre (ls' := [vA 59, vI r, vI w, vI m, vI k, vI (j + 1)]) (t := [vI (jn S j 0), vI (jn S j 1)]) rfl ?_
            exact ih (by omega) hS hG hH hr hw (by omega) (by
                rcases hm with ⟨h1, h2, h3⟩ | h1
                · refine Or.inl ⟨h1, h2, fun i i1 i2 i3 => ?_⟩
                  by_cases e : i = j
                  · subst e
                    first | exact ⟨n104, n126⟩ | exact absurd i3.2.2 (by have := zbit_01 w i; omega)
                  · exact h3 i i1 (by omega) i3
                · exact Or.inr h1) hk
set_option maxHeartbeats 4000000 in
theorem s_gather_59_26 : ∀ (f : Nat) {μ : Mem} {Q : PV → Mem → Prop} {S : Int → Int} {w r m k : Int}, ((12 - k).toNat < f) → (StrOK S) → (GS μ S) → (HI S w (r + 1) (r) (μ 60) (μ 61) (μ 62)) → (0 ≤ r ∧ r < S 0) → (0 ≤ w ∧ w ≤ 65535) → (0 ≤ k ∧ k ≤ 12) → ((m = 1 ∧ (una (μ 60) : Int) + k ≤ 11) ∨ (m = 0 ∧ (∀ i, act S w i → ¬ (μ 60 (jn S i 0) = r ∧ μ 60 (jn S i 1) = -1) ∧ ¬ (μ 60 (jn S i 1) = r ∧ μ 60 (jn S i 0) = -1)))) → (∀ μ', Fr Wg59 μ μ' → HI S w (r + 1) (r + 1) (μ' 60) (μ' 61) (μ' 62) → (∀ y, 0 ≤ μ 60 y → μ' 60 y = μ 60 y) → Q vU μ') → Rj YD y_Ge_gather 26 [vA 59, vI r, vI w, vI m, vI k] [] μ Q := by
  intro f
  induction f with
  | zero => intro μ Q S w r m k hf hS hG hH hr hw hk0 hm hk; exact absurd hf (by omega)
  | succ f ih =>
    intro μ Q S w r m k hf hS hG hH hr hw hk0 hm hk
    obtain ⟨a1, a2, a3, a4, -⟩ := id hH
    refine Rj_iload (q := 28) d_Ge_gather_26 rfl rfl ?_
    refine Rj_bipush (q := 30) d_Ge_gather_28 rfl (by decide +kernel) ?_
    refine Rj_icmp_ge (q := 33) (t := 143) d_Ge_gather_30 rfl (by decide) ⟨by omega, by omega⟩ (by decide) (fun c30 => ?_) (fun c30 => ?_)
    · have hcl : (∀ i, act S w i → ¬ (μ 60 (jn S i 0) = r ∧ μ 60 (jn S i 1) = -1) ∧ ¬ (μ 60 (jn S i 1) = r ∧ μ 60 (jn S i 0) = -1)) := by
        rcases hm with q | q
        · omega
        · exact q.2
      refine Rj_vret d_Ge_gather_143 rfl ?_
      exact hk μ (Fr.refl _ _) (HI_close hS hH (fun j hj => by
        obtain ⟨ra, rb, -, -⟩ := act_rng hS hj
        have x1 := a1 _ ra.1 ra.2
        have x2 := a1 _ rb.1 rb.2
        have x3 := a4 j hj
        have x4 := hcl j hj
        constructor
        · intro q; by_cases e : μ 60 (jn S j 0) < r
          · have := x3.1 q e; omega
          · omega
        · intro q; by_cases e : μ 60 (jn S j 1) < r
          · have := x3.2 q e; omega
          · omega)) (fun _ _ => rfl)
    · refine Rj_iload_n (q := 34) d_Ge_gather_33 rfl rfl rfl ?_
      refine Rj_if_eq (q := 37) (t := 143) d_Ge_gather_34 rfl (by decide) ⟨by omega, by omega⟩ (fun c34 => ?_) (fun c34 => ?_)
      · have hcl : (∀ i, act S w i → ¬ (μ 60 (jn S i 0) = r ∧ μ 60 (jn S i 1) = -1) ∧ ¬ (μ 60 (jn S i 1) = r ∧ μ 60 (jn S i 0) = -1)) := by
          rcases hm with q | q
          · omega
          · exact q.2
        refine Rj_vret d_Ge_gather_143 rfl ?_
        exact hk μ (Fr.refl _ _) (HI_close hS hH (fun j hj => by
          obtain ⟨ra, rb, -, -⟩ := act_rng hS hj
          have x1 := a1 _ ra.1 ra.2
          have x2 := a1 _ rb.1 rb.2
          have x3 := a4 j hj
          have x4 := hcl j hj
          constructor
          · intro q; by_cases e : μ 60 (jn S j 0) < r
            · have := x3.1 q e; omega
            · omega
          · intro q; by_cases e : μ 60 (jn S j 1) < r
            · have := x3.2 q e; omega
            · omega)) (fun _ _ => rfl)
      · have hm1 : m = 1 ∧ (una (μ 60) : Int) + k ≤ 11 := by
          rcases hm with q | q
          · exact q
          · omega
        refine Rj_iconst (q := 38) d_Ge_gather_37 rfl ?_
        refine Rj_istore_n (q := 39) (ls' := [vA 59, vI r, vI w, vI 0, vI k]) d_Ge_gather_38 rfl rfl (by decide) rfl ?_
        refine Rj_iconst (q := 40) d_Ge_gather_39 rfl ?_
        refine Rj_istore (q := 42) (ls' := [vA 59, vI r, vI w, vI 0, vI k, vI 0]) d_Ge_gather_40 rfl (by decide) rfl ?_
        refine s_gather_59_42 (u0 := una (μ 60)) _ (Nat.lt_succ_self _) hS hG hH hr hw (show 0 ≤ (0 : Int) ∧ (0 : Int) ≤ S 1 from ⟨by decide, hS.2.1.1⟩) (Or.inl ⟨rfl, rfl, fun i i1 i2 => by omega⟩) (fun μ2 m2 f2 h2 c2 k2 => ?_)
        refine Rj_iinc (q := 140) (ls' := [vA 59, vI r, vI w, vI m2, vI (k + 1)]) d_Ge_gather_137 rfl rfl (by decide) rfl ?_
        refine Rj_goto (t := 26) d_Ge_gather_140 (by decide) ?_
        exact ih (by omega) hS (hG.g59 f2) h2 hr hw (by omega) (by
          rcases c2 with ⟨q1, q2, q3⟩ | ⟨q1, q2⟩
          · exact Or.inr ⟨q1, q3⟩
          · exact Or.inl ⟨q1, by omega⟩) (fun μ3 f3 h3 k3 => hk μ3 (f2.trans f3) h3 (fun y hy => (k3 y (by rw [k2 y hy]; exact hy)).trans (k2 y hy)))
set_option maxHeartbeats 4000000 in
theorem s_agrees_59 {μ : Mem} {Q : PV → Mem → Prop} {S : Int → Int} {w j : Int} (hS : StrOK S) (hG : GS μ S) (hj : 0 ≤ j ∧ j < S 1) (hb : ∀ d, 0 ≤ d → d < S 0 → (-216000 ≤ μ 61 d ∧ μ 61 d ≤ 216000) ∧ (0 < μ 62 d ∧ μ 62 d ≤ 216000)) (h1 : compat S (μ 61) (μ 62) j → Q (vI 1) μ) (h2 : ¬ compat S (μ 61) (μ 62) j → Q (vI 0) μ) : Rj YD y_Ge_agrees 0 [vA 59, vI j] [] μ Q := by
  obtain ⟨hS0, hS1, hS2, hS3, hS4⟩ := id hS
  obtain ⟨G0, G1, G4, G6⟩ := id hG
  obtain ⟨e6, e7, e8⟩ := G6 j hj.1 hj.2
  obtain ⟨ka, kb, kne, kk⟩ := hS3 j hj.1 hj.2
  have ta := hS2 _ ka.1 ka.2
  have tb := hS2 _ kb.1 kb.2
  have ea := G4 _ ka.1 ka.2
  have eb := G4 _ kb.1 kb.2
  have ba := hb _ ka.1 ka.2
  have bb := hb _ kb.1 kb.2
  have m1 := mul_bd ba.1 (show -216000 ≤ μ 62 (jn S j 1) ∧ μ 62 (jn S j 1) ≤ 216000 by omega)
  have m2 := mul_bd bb.1 (show -216000 ≤ μ 62 (jn S j 0) ∧ μ 62 (jn S j 0) ≤ 216000 by omega)
  have m3 := mul_bd m1 (show -60 ≤ tee S (jn S j 1) ∧ tee S (jn S j 1) ≤ 60 by omega)
  have m4 := mul_bd m2 (show -60 ≤ tee S (jn S j 0) ∧ tee S (jn S j 0) ≤ 60 by omega)
  have hc0 : compat S (μ 61) (μ 62) j ↔ (if jn S j 2 = 2 then μ 61 (jn S j 0) * μ 62 (jn S j 1) * tee S (jn S j 1) = μ 61 (jn S j 1) * μ 62 (jn S j 0) * tee S (jn S j 0) else if jn S j 2 = 0 then -(μ 61 (jn S j 0) * μ 62 (jn S j 1)) = μ 61 (jn S j 1) * μ 62 (jn S j 0) else μ 61 (jn S j 0) * μ 62 (jn S j 1) = μ 61 (jn S j 1) * μ 62 (jn S j 0)) := by
    unfold compat abv blw
    by_cases h2 : jn S j 2 = 2
    · simp only [if_pos h2]; exact ⟨fun h => h.symm, fun h => h.symm⟩
    · by_cases h0 : jn S j 2 = 0
      · simp only [if_neg h2, if_pos h0]; constructor <;> intro h <;> grind
      · simp only [if_neg h2, if_neg h0]; constructor <;> intro h <;> grind
  refine Rj_aload_n (q := 1) d_Ge_agrees_0 rfl rfl rfl ?_
  refine Rj_gr (q := 4) (zd := 3) gD_Ge_31_59 rfl rfl d_Ge_agrees_1 rfl ?_
  refine Rj_gr (q := 7) (zd := 6) gD_Ge_78_3 rfl rfl d_Ge_agrees_4 rfl ?_
  refine Rj_iload_n (q := 8) d_Ge_agrees_7 rfl rfl rfl ?_
  refine Rj_ia (q := 9) (v := jn S j 0) aD_6 rfl (by omega) e6 d_Ge_agrees_8 rfl ?_
  refine Rj_istore_n (q := 10) (ls' := [vA 59, vI j, vI (jn S j 0)]) d_Ge_agrees_9 rfl rfl (by decide) rfl ?_
  refine Rj_aload_n (q := 11) d_Ge_agrees_10 rfl rfl rfl ?_
  refine Rj_gr (q := 14) (zd := 3) gD_Ge_31_59 rfl rfl d_Ge_agrees_11 rfl ?_
  refine Rj_gr (q := 17) (zd := 7) gD_Ge_85_3 rfl rfl d_Ge_agrees_14 rfl ?_
  refine Rj_iload_n (q := 18) d_Ge_agrees_17 rfl rfl rfl ?_
  refine Rj_ia (q := 19) (v := jn S j 1) aD_7 rfl (by omega) e7 d_Ge_agrees_18 rfl ?_
  refine Rj_istore_n (q := 20) (ls' := [vA 59, vI j, vI (jn S j 0), vI (jn S j 1)]) d_Ge_agrees_19 rfl rfl (by decide) rfl ?_
  refine Rj_aload_n (q := 21) d_Ge_agrees_20 rfl rfl rfl ?_
  refine Rj_gr (q := 24) (zd := 3) gD_Ge_31_59 rfl rfl d_Ge_agrees_21 rfl ?_
  refine Rj_gr (q := 27) (zd := 8) gD_Ge_88_3 rfl rfl d_Ge_agrees_24 rfl ?_
  refine Rj_iload_n (q := 28) d_Ge_agrees_27 rfl rfl rfl ?_
  refine Rj_ia (q := 29) (v := jn S j 2) aD_8 rfl (by omega) e8 d_Ge_agrees_28 rfl ?_
  refine Rj_istore (q := 31) (ls' := [vA 59, vI j, vI (jn S j 0), vI (jn S j 1), vI (jn S j 2)]) d_Ge_agrees_29 rfl (by decide) rfl ?_
  refine Rj_aload_n (q := 32) d_Ge_agrees_31 rfl rfl rfl ?_
  refine Rj_gr (q := 35) (zd := 61) gD_Ge_15_59 rfl rfl d_Ge_agrees_32 rfl ?_
  refine Rj_iload_n (q := 36) d_Ge_agrees_35 rfl rfl rfl ?_
  refine Rj_la (q := 37) (v := μ 61 (jn S j 0)) aD_61 rfl (by omega) rfl d_Ge_agrees_36 rfl ?_
  refine Rj_aload_n (q := 38) d_Ge_agrees_37 rfl rfl rfl ?_
  refine Rj_gr (q := 41) (zd := 62) gD_Ge_19_59 rfl rfl d_Ge_agrees_38 rfl ?_
  refine Rj_iload_n (q := 42) d_Ge_agrees_41 rfl rfl rfl ?_
  refine Rj_la (q := 43) (v := μ 62 (jn S j 1)) aD_62 rfl (by omega) rfl d_Ge_agrees_42 rfl ?_
  refine Rj_lmul (q := 44) d_Ge_agrees_43 rfl ?_
  refine Rj_lstore (q := 46) (ls' := [vA 59, vI j, vI (jn S j 0), vI (jn S j 1), vI (jn S j 2), vL ((μ 61 (jn S j 0)) * (μ 62 (jn S j 1))), vU]) d_Ge_agrees_44 rfl (by decide) rfl ?_
  refine Rj_aload_n (q := 47) d_Ge_agrees_46 rfl rfl rfl ?_
  refine Rj_gr (q := 50) (zd := 61) gD_Ge_15_59 rfl rfl d_Ge_agrees_47 rfl ?_
  refine Rj_iload_n (q := 51) d_Ge_agrees_50 rfl rfl rfl ?_
  refine Rj_la (q := 52) (v := μ 61 (jn S j 1)) aD_61 rfl (by omega) rfl d_Ge_agrees_51 rfl ?_
  refine Rj_aload_n (q := 53) d_Ge_agrees_52 rfl rfl rfl ?_
  refine Rj_gr (q := 56) (zd := 62) gD_Ge_19_59 rfl rfl d_Ge_agrees_53 rfl ?_
  refine Rj_iload_n (q := 57) d_Ge_agrees_56 rfl rfl rfl ?_
  refine Rj_la (q := 58) (v := μ 62 (jn S j 0)) aD_62 rfl (by omega) rfl d_Ge_agrees_57 rfl ?_
  refine Rj_lmul (q := 59) d_Ge_agrees_58 rfl ?_
  refine Rj_lstore (q := 61) (ls' := [vA 59, vI j, vI (jn S j 0), vI (jn S j 1), vI (jn S j 2), vL ((μ 61 (jn S j 0)) * (μ 62 (jn S j 1))), vU, vL ((μ 61 (jn S j 1)) * (μ 62 (jn S j 0))), vU]) d_Ge_agrees_59 rfl (by decide) rfl ?_
  refine Rj_iload (q := 63) d_Ge_agrees_61 rfl rfl ?_
  refine Rj_if_ne (q := 66) (t := 74) d_Ge_agrees_63 rfl (by decide) ⟨by omega, by omega⟩ (fun c63 => ?_) (fun c63 => ?_)
  · refine Rj_iload (q := 76) d_Ge_agrees_74 rfl rfl ?_
    refine Rj_iconst (q := 77) d_Ge_agrees_76 rfl ?_
    refine Rj_icmp_ne (q := 80) (t := 110) d_Ge_agrees_77 rfl (by decide) ⟨by omega, by omega⟩ (by decide) (fun c77 => ?_) (fun c77 => ?_)
    · rw [if_neg c77, if_neg c63] at hc0
      refine Rj_lload (q := 112) d_Ge_agrees_110 rfl rfl ?_
      refine Rj_lload (q := 114) d_Ge_agrees_112 rfl rfl ?_
      refine Rj_lc_ne (q := 115) (q2 := 118) (t := 122) d_Ge_agrees_114 rfl d_Ge_agrees_115 rfl (by decide) ⟨by omega, by omega⟩ ⟨by omega, by omega⟩ (fun c114 => ?_) (fun c114 => ?_)
      · refine Rj_iconst (q := 123) d_Ge_agrees_122 rfl ?_
        refine Rj_bret0 d_Ge_agrees_123 rfl ?_
        exact h2 (fun h => c114 (hc0.mp h))
      · refine Rj_iconst (q := 119) d_Ge_agrees_118 rfl ?_
        refine Rj_goto (t := 123) d_Ge_agrees_119 (by decide) ?_
        refine Rj_bret1 d_Ge_agrees_123 rfl ?_
        exact h1 (hc0.mpr c114)
    · have hk2 : jn S j 2 = 2 := c77
      rw [if_pos hk2] at hc0
      refine Rj_lload (q := 82) d_Ge_agrees_80 rfl rfl ?_
      refine Rj_aload_n (q := 83) d_Ge_agrees_82 rfl rfl rfl ?_
      refine Rj_gr (q := 86) (zd := 3) gD_Ge_31_59 rfl rfl d_Ge_agrees_83 rfl ?_
      refine Rj_gr (q := 89) (zd := 4) gD_Ge_95_3 rfl rfl d_Ge_agrees_86 rfl ?_
      refine Rj_iload_n (q := 90) d_Ge_agrees_89 rfl rfl rfl ?_
      refine Rj_ia (q := 91) (v := tee S (jn S j 1)) aD_4 rfl (by omega) eb d_Ge_agrees_90 rfl ?_
      refine Rj_i2l (q := 92) d_Ge_agrees_91 rfl ⟨by omega, by omega⟩ ?_
      refine Rj_lmul (q := 93) d_Ge_agrees_92 rfl ?_
      refine Rj_lstore (q := 95) (ls' := [vA 59, vI j, vI (jn S j 0), vI (jn S j 1), vI (jn S j 2), vL (((μ 61 (jn S j 0)) * (μ 62 (jn S j 1))) * (tee S (jn S j 1))), vU, vL ((μ 61 (jn S j 1)) * (μ 62 (jn S j 0))), vU]) d_Ge_agrees_93 rfl (by decide) rfl ?_
      refine Rj_lload (q := 97) d_Ge_agrees_95 rfl rfl ?_
      refine Rj_aload_n (q := 98) d_Ge_agrees_97 rfl rfl rfl ?_
      refine Rj_gr (q := 101) (zd := 3) gD_Ge_31_59 rfl rfl d_Ge_agrees_98 rfl ?_
      refine Rj_gr (q := 104) (zd := 4) gD_Ge_95_3 rfl rfl d_Ge_agrees_101 rfl ?_
      refine Rj_iload_n (q := 105) d_Ge_agrees_104 rfl rfl rfl ?_
      refine Rj_ia (q := 106) (v := tee S (jn S j 0)) aD_4 rfl (by omega) ea d_Ge_agrees_105 rfl ?_
      refine Rj_i2l (q := 107) d_Ge_agrees_106 rfl ⟨by omega, by omega⟩ ?_
      refine Rj_lmul (q := 108) d_Ge_agrees_107 rfl ?_
      refine Rj_lstore (q := 110) (ls' := [vA 59, vI j, vI (jn S j 0), vI (jn S j 1), vI (jn S j 2), vL (((μ 61 (jn S j 0)) * (μ 62 (jn S j 1))) * (tee S (jn S j 1))), vU, vL (((μ 61 (jn S j 1)) * (μ 62 (jn S j 0))) * (tee S (jn S j 0))), vU]) d_Ge_agrees_108 rfl (by decide) rfl ?_
      refine Rj_lload (q := 112) d_Ge_agrees_110 rfl rfl ?_
      refine Rj_lload (q := 114) d_Ge_agrees_112 rfl rfl ?_
      refine Rj_lc_ne (q := 115) (q2 := 118) (t := 122) d_Ge_agrees_114 rfl d_Ge_agrees_115 rfl (by decide) ⟨by omega, by omega⟩ ⟨by omega, by omega⟩ (fun c114 => ?_) (fun c114 => ?_)
      · refine Rj_iconst (q := 123) d_Ge_agrees_122 rfl ?_
        refine Rj_bret0 d_Ge_agrees_123 rfl ?_
        exact h2 (fun h => c114 (hc0.mp h))
      · refine Rj_iconst (q := 119) d_Ge_agrees_118 rfl ?_
        refine Rj_goto (t := 123) d_Ge_agrees_119 (by decide) ?_
        refine Rj_bret1 d_Ge_agrees_123 rfl ?_
        exact h1 (hc0.mpr c114)
  · have hk0 : jn S j 2 = 0 := c63
    rw [if_neg (show ¬ jn S j 2 = 2 by omega), if_pos hk0] at hc0
    refine Rj_lload (q := 68) d_Ge_agrees_66 rfl rfl ?_
    refine Rj_lneg (q := 69) d_Ge_agrees_68 rfl ?_
    refine Rj_lstore (q := 71) (ls' := [vA 59, vI j, vI (jn S j 0), vI (jn S j 1), vI (jn S j 2), vL (-((μ 61 (jn S j 0)) * (μ 62 (jn S j 1)))), vU, vL ((μ 61 (jn S j 1)) * (μ 62 (jn S j 0))), vU]) d_Ge_agrees_69 rfl (by decide) rfl ?_
    refine Rj_goto (t := 110) d_Ge_agrees_71 (by decide) ?_
    refine Rj_lload (q := 112) d_Ge_agrees_110 rfl rfl ?_
    refine Rj_lload (q := 114) d_Ge_agrees_112 rfl rfl ?_
    refine Rj_lc_ne (q := 115) (q2 := 118) (t := 122) d_Ge_agrees_114 rfl d_Ge_agrees_115 rfl (by decide) ⟨by omega, by omega⟩ ⟨by omega, by omega⟩ (fun c114 => ?_) (fun c114 => ?_)
    · refine Rj_iconst (q := 123) d_Ge_agrees_122 rfl ?_
      refine Rj_bret0 d_Ge_agrees_123 rfl ?_
      exact h2 (fun h => c114 (hc0.mp h))
    · refine Rj_iconst (q := 119) d_Ge_agrees_118 rfl ?_
      refine Rj_goto (t := 123) d_Ge_agrees_119 (by decide) ?_
      refine Rj_bret1 d_Ge_agrees_123 rfl ?_
      exact h1 (hc0.mpr c114)
set_option maxHeartbeats 4000000 in
theorem s_setOf_59_l : ∀ (f : Nat) {μ : Mem} {Q : PV → Mem → Prop} {S : Int → Int} {x s d : Int}, ((S 0 - d).toNat < f) → (StrOK S) → (GS μ S) → (0 ≤ x ∧ x < S 0) → (∀ y, 0 ≤ y → y < S 0 → -1 ≤ μ 60 y ∧ μ 60 y < 12) → (0 ≤ d ∧ d ≤ S 0) → ((0 ≤ s ∧ s < 4096) ∧ ∀ k, 0 ≤ k → (zbit s k = 1 ↔ k < d ∧ μ 60 k = μ 60 x)) → (∀ s, (0 ≤ s ∧ s < 4096) → (∀ k, 0 ≤ k → (zbit s k = 1 ↔ k < S 0 ∧ μ 60 k = μ 60 x)) → Q (vI s) μ) → Rj YD y_Ge_setOf 4 [vA 59, vI x, vI s, vI d] [] μ Q := by
  intro f
  induction f with
  | zero => intro μ Q S x s d hf hS hG hx hlo hd hs hQ; exact absurd hf (by omega)
  | succ f ih =>
    intro μ Q S x s d hf hS hG hx hlo hd hs hQ
    obtain ⟨hS0, hS1, hS2, hS3, hS4⟩ := id hS
    obtain ⟨G0, G1, G4, G6⟩ := id hG
    have lx := hlo x hx.1 hx.2
    refine Rj_iload_n (q := 5) d_Ge_setOf_4 rfl rfl rfl ?_
    refine Rj_aload_n (q := 6) d_Ge_setOf_5 rfl rfl rfl ?_
    refine Rj_gr (q := 9) (zd := 3) gD_Ge_31_59 rfl rfl d_Ge_setOf_6 rfl ?_
    refine Rj_gi (q := 12) (ki := 0) (v := μ 3 0) gD_Ge_58_3 rfl rfl rfl d_Ge_setOf_9 rfl ?_
    refine Rj_icmp_ge (q := 15) (t := 42) d_Ge_setOf_12 rfl (by decide) ⟨by omega, by omega⟩ ⟨by omega, by omega⟩ (fun c12 => ?_) (fun c12 => ?_)
    · refine Rj_iload_n (q := 43) d_Ge_setOf_42 rfl rfl rfl ?_
      refine Rj_iret d_Ge_setOf_43 rfl ?_
      exact hQ s hs.1 (fun k hk => (hs.2 k hk).trans ⟨fun q => ⟨by omega, q.2⟩, fun q => ⟨by omega, q.2⟩⟩)
    · have hlt : d < S 0 := by omega
      have ld := hlo d hd.1 hlt
      have pr := pow_rng (d := d) (n := 12) (by omega) (by decide)
      have orr := z_or_rng (a := s) (b := z_shl 1 d) (n := 12) (by decide) hs.1 pr
      refine Rj_aload_n (q := 16) d_Ge_setOf_15 rfl rfl rfl ?_
      refine Rj_gr (q := 19) (zd := 60) gD_Ge_9_59 rfl rfl d_Ge_setOf_16 rfl ?_
      refine Rj_iload_n (q := 20) d_Ge_setOf_19 rfl rfl rfl ?_
      refine Rj_ia (q := 21) (v := μ 60 d) aD_60 rfl (by omega) rfl d_Ge_setOf_20 rfl ?_
      refine Rj_aload_n (q := 22) d_Ge_setOf_21 rfl rfl rfl ?_
      refine Rj_gr (q := 25) (zd := 60) gD_Ge_9_59 rfl rfl d_Ge_setOf_22 rfl ?_
      refine Rj_iload_n (q := 26) d_Ge_setOf_25 rfl rfl rfl ?_
      refine Rj_ia (q := 27) (v := μ 60 x) aD_60 rfl (by omega) rfl d_Ge_setOf_26 rfl ?_
      refine Rj_icmp_ne (q := 30) (t := 36) d_Ge_setOf_27 rfl (by decide) ⟨by omega, by omega⟩ ⟨by omega, by omega⟩ (fun c27 => ?_) (fun c27 => ?_)
      · refine Rj_iinc (q := 39) (ls' := [vA 59, vI x, vI s, vI (d + 1)]) d_Ge_setOf_36 rfl rfl (by decide) rfl ?_
        refine Rj_goto (t := 4) d_Ge_setOf_39 (by decide) ?_
        exact ih (by omega) hS hG hx hlo (by omega) ⟨hs.1, fun k hk => (hs.2 k hk).trans ⟨fun q => ⟨by omega, q.2⟩, fun q => ⟨by
          by_cases e : k = d
          · subst e; exact absurd q.2 c27
          · omega, q.2⟩⟩⟩ hQ
      · refine Rj_iload_n (q := 31) d_Ge_setOf_30 rfl rfl rfl ?_
        refine Rj_iconst (q := 32) d_Ge_setOf_31 rfl ?_
        refine Rj_iload_n (q := 33) d_Ge_setOf_32 rfl rfl rfl ?_
        refine Rj_ishl (q := 34) (z := z_shl 1 d) d_Ge_setOf_33 rfl rfl ?_
        refine Rj_ior (q := 35) (z := z_or s (z_shl 1 d)) d_Ge_setOf_34 rfl rfl ?_
        refine Rj_istore_n (q := 36) (ls' := [vA 59, vI x, vI (z_or s (z_shl 1 d)), vI d]) d_Ge_setOf_35 rfl rfl (by decide) rfl ?_
        refine Rj_iinc (q := 39) (ls' := [vA 59, vI x, vI (z_or s (z_shl 1 d)), vI (d + 1)]) d_Ge_setOf_36 rfl rfl (by decide) rfl ?_
        refine Rj_goto (t := 4) d_Ge_setOf_39 (by decide) ?_
        exact ih (by omega) hS hG hx hlo (by omega) ⟨orr, fun k hk => by
          rw [zbit_or (by omega) (by omega) hk, hs.2 k hk, zbit_pow (by omega) hk]
          constructor
          · rintro (⟨q1, q2⟩ | q)
            · exact ⟨by omega, q2⟩
            · subst q; exact ⟨by omega, c27⟩
          · rintro ⟨q1, q2⟩
            by_cases e : k = d
            · exact Or.inr e
            · exact Or.inl ⟨by omega, q2⟩⟩ hQ
set_option maxHeartbeats 4000000 in
theorem s_gather_59 {μ : Mem} {Q : PV → Mem → Prop} {S : Int → Int} {w r : Int} (hS : StrOK S) (hG : GS μ S) (hH : HI S w (r) (r) (μ 60) (μ 61) (μ 62)) (hr : 0 ≤ r ∧ r < S 0) (hw : 0 ≤ w ∧ w ≤ 65535) (hlr : μ 60 r = -1) (hk : ∀ μ', Fr Wg59 μ μ' → HI S w (r + 1) (r + 1) (μ' 60) (μ' 61) (μ' 62) → (∀ y, 0 ≤ μ 60 y → μ' 60 y = μ 60 y) → μ' 60 r = r → Q vU μ') : Rj YD y_Ge_gather 0 [vA 59, vI r, vI w] [] μ Q := by
  have hS0 := hS.1
  refine Rj_aload_n (q := 1) d_Ge_gather_0 rfl rfl rfl ?_
  refine Rj_gr (q := 4) (zd := 60) gD_Ge_9_59 rfl rfl d_Ge_gather_1 rfl ?_
  refine Rj_iload_n (q := 5) d_Ge_gather_4 rfl rfl rfl ?_
  refine Rj_iload_n (q := 6) d_Ge_gather_5 rfl rfl rfl ?_
  refine Rj_is (q := 7) aD_60 rfl (by omega) d_Ge_gather_6 rfl ?_
  refine Rj_aload_n (q := 8) d_Ge_gather_7 rfl rfl rfl ?_
  refine Rj_gr (q := 11) (zd := 61) gD_Ge_15_59 rfl rfl d_Ge_gather_8 rfl ?_
  refine Rj_iload_n (q := 12) d_Ge_gather_11 rfl rfl rfl ?_
  refine Rj_lconst (q := 13) (z := 1) d_Ge_gather_12 rfl rfl ?_
  refine Rj_lst (q := 14) aD_61 rfl (by omega) d_Ge_gather_13 rfl ?_
  refine Rj_aload_n (q := 15) d_Ge_gather_14 rfl rfl rfl ?_
  refine Rj_gr (q := 18) (zd := 62) gD_Ge_19_59 rfl rfl d_Ge_gather_15 rfl ?_
  refine Rj_iload_n (q := 19) d_Ge_gather_18 rfl rfl rfl ?_
  refine Rj_lconst (q := 20) (z := 1) d_Ge_gather_19 rfl rfl ?_
  refine Rj_lst (q := 21) aD_62 rfl (by omega) d_Ge_gather_20 rfl ?_
  refine Rj_iconst (q := 22) d_Ge_gather_21 rfl ?_
  refine Rj_istore_n (q := 23) (ls' := [vA 59, vI r, vI w, vI 1]) d_Ge_gather_22 rfl rfl (by decide) rfl ?_
  refine Rj_iconst (q := 24) d_Ge_gather_23 rfl ?_
  refine Rj_istore (q := 26) (ls' := [vA 59, vI r, vI w, vI 1, vI 0]) d_Ge_gather_24 rfl (by decide) rfl ?_
  have hR := HI_root hS hH hr.1 hr.2 hlr
  have hl1 : ((mset (mset (mset μ 60 r r) 61 r 1) 62 r 1)) 60 = fset (μ 60) r r := by simp [mset_fs, mset_nc]
  refine s_gather_59_26 (μ := (mset (mset (mset μ 60 r r) 61 r 1) 62 r 1)) _ (Nat.lt_succ_self _) hS (hG.g59 (Fr.put (Fr.put (Fr.put (Fr.refl _ _) (by simp [Wg59])) (by simp [Wg59])) (by simp [Wg59]))) (by simpa [mset_fs, mset_nc] using hR) hr hw ⟨by decide, by decide⟩ (Or.inl ⟨rfl, ?_⟩) (fun m f h k => ?_)
  · rw [hl1]
    have h1 := una_lt (lo := μ 60) (t := r) (r := r) (by omega) (by omega) hr.1
    have h2 : una (μ 60) ≤ 12 := cntB_max _ 12
    omega
  · rw [hl1] at k
    refine hk m (Fr.trans (Fr.put (Fr.put (Fr.put (Fr.refl _ _) (by simp [Wg59])) (by simp [Wg59])) (by simp [Wg59])) f) h (fun y hy => ?_) ?_
    · have e : y ≠ r := fun q => by rw [q] at hy; omega
      have := k y (by rw [fset_ne _ e]; exact hy)
      rw [fset_ne _ e] at this; exact this
    · have := k r (by rw [fset_same]; exact hr.1)
      rw [fset_same] at this; exact this
set_option maxHeartbeats 4000000 in
theorem s_setOf_59 {μ : Mem} {Q : PV → Mem → Prop} {S : Int → Int} {x : Int} (hS : StrOK S) (hG : GS μ S) (hx : 0 ≤ x ∧ x < S 0) (hlo : ∀ y, 0 ≤ y → y < S 0 → -1 ≤ μ 60 y ∧ μ 60 y < 12) (hQ : ∀ s, (0 ≤ s ∧ s < 4096) → (∀ k, 0 ≤ k → (zbit s k = 1 ↔ k < S 0 ∧ μ 60 k = μ 60 x)) → Q (vI s) μ) : Rj YD y_Ge_setOf 0 [vA 59, vI x] [] μ Q := by
  refine Rj_iconst (q := 1) d_Ge_setOf_0 rfl ?_
  refine Rj_istore_n (q := 2) (ls' := [vA 59, vI x, vI 0]) d_Ge_setOf_1 rfl rfl (by decide) rfl ?_
  refine Rj_iconst (q := 3) d_Ge_setOf_2 rfl ?_
  refine Rj_istore_n (q := 4) (ls' := [vA 59, vI x, vI 0, vI 0]) d_Ge_setOf_3 rfl rfl (by decide) rfl ?_
  exact s_setOf_59_l _ (Nat.lt_succ_self _) hS hG hx hlo (show 0 ≤ (0 : Int) ∧ (0 : Int) ≤ S 0 from ⟨by decide, hS.1.1⟩) ⟨by decide, fun k hk => by rw [zbit_0]; exact ⟨fun q => absurd q (by decide), fun q => by omega⟩⟩ hQ
abbrev Wg67 (c : Nat) (_ : Int) : Prop := c = 68 ∨ c = 69 ∨ c = 70
theorem GS.g67 {μ ν : Mem} {S : Int → Int} (h : GS μ S) (f : Fr Wg67 μ ν) : GS ν S := h.keep f (fun i q => by unfold Wg67 at q; omega) (fun i q => by unfold Wg67 at q; omega) (fun i q => by unfold Wg67 at q; omega) (fun i q => by unfold Wg67 at q; omega) (fun i q => by unfold Wg67 at q; omega)
set_option maxHeartbeats 4000000 in
theorem s_hangOn_67 {μ : Mem} {Q : PV → Mem → Prop} {S : Int → Int} {w j r x t : Int} (hS : StrOK S) (hG : GS μ S) (hH : HI S w (r + 1) (r) (μ 68) (μ 69) (μ 70)) (hr : 0 ≤ r ∧ r < S 0) (hj : act S w j) (hft : (x = jn S j 0 ∧ t = jn S j 1) ∨ (x = jn S j 1 ∧ t = jn S j 0)) (h1 : ∀ μ', Fr Wg67 μ μ' → μ 68 x = r → μ 68 t = -1 → HI S w (r + 1) (r) (μ' 68) (μ' 69) (μ' 70) → una (μ' 68) < una (μ 68) → (∀ y, 0 ≤ μ 68 y → μ' 68 y = μ 68 y) → Q (vI 1) μ') (h2 : ¬ (μ 68 x = r ∧ μ 68 t = -1) → Q (vI 0) μ) : Rj YD y_Ge_hangOn 0 [vA 67, vI r, vI x, vI t, vI (jn S j 2)] [] μ Q := by
  obtain ⟨hS0, hS1, hS2, hS3, hS4⟩ := id hS
  obtain ⟨a1, -⟩ := id hH
  obtain ⟨G0, G1, G4, G6⟩ := id hG
  have rf : 0 ≤ x ∧ x < S 0 := by obtain ⟨ra, rb, -⟩ := act_rng hS hj; rcases hft with ⟨rfl, rfl⟩ | ⟨rfl, rfl⟩ <;> assumption
  have rt : 0 ≤ t ∧ t < S 0 := by obtain ⟨ra, rb, -⟩ := act_rng hS hj; rcases hft with ⟨rfl, rfl⟩ | ⟨rfl, rfl⟩ <;> assumption
  have rne : x ≠ t := by obtain ⟨ra, rb, rn, -⟩ := act_rng hS hj; rcases hft with ⟨rfl, rfl⟩ | ⟨rfl, rfl⟩ <;> omega
  have rk := (act_rng hS hj).2.2.2
  have xf := a1 x rf.1 rf.2
  have xt := a1 t rt.1 rt.2
  have kf := hS2 x rf.1 rf.2
  have kt := hS2 t rt.1 rt.2
  have ef := G4 x rf.1 rf.2
  have et := G4 t rt.1 rt.2
  refine Rj_aload_n (q := 1) d_Ge_hangOn_0 rfl rfl rfl ?_
  refine Rj_gr (q := 4) (zd := 68) gD_Ge_9_67 rfl rfl d_Ge_hangOn_1 rfl ?_
  refine Rj_iload_n (q := 5) d_Ge_hangOn_4 rfl rfl rfl ?_
  refine Rj_ia (q := 6) (v := μ 68 x) aD_68 rfl (by omega) rfl d_Ge_hangOn_5 rfl ?_
  refine Rj_iload_n (q := 7) d_Ge_hangOn_6 rfl rfl rfl ?_
  refine Rj_icmp_ne (q := 10) (t := 20) d_Ge_hangOn_7 rfl (by decide) ⟨by omega, by omega⟩ ⟨by omega, by omega⟩ (fun c7 => ?_) (fun c7 => ?_)
  · refine Rj_iconst (q := 21) d_Ge_hangOn_20 rfl ?_
    refine Rj_bret0 d_Ge_hangOn_21 rfl ?_
    exact h2 (fun h => by omega)
  · refine Rj_aload_n (q := 11) d_Ge_hangOn_10 rfl rfl rfl ?_
    refine Rj_gr (q := 14) (zd := 68) gD_Ge_9_67 rfl rfl d_Ge_hangOn_11 rfl ?_
    refine Rj_iload_n (q := 15) d_Ge_hangOn_14 rfl rfl rfl ?_
    refine Rj_ia (q := 16) (v := μ 68 t) aD_68 rfl (by omega) rfl d_Ge_hangOn_15 rfl ?_
    refine Rj_iconst (q := 17) d_Ge_hangOn_16 rfl ?_
    refine Rj_icmp_eq (q := 20) (t := 22) d_Ge_hangOn_17 rfl (by decide) ⟨by omega, by omega⟩ (by decide) (fun c17 => ?_) (fun c17 => ?_)
    · obtain ⟨hu, hd⟩ := HI_bd hS hH x rf.1 rf.2 (by omega)
      have m1 := mul_bd hu (show -60 ≤ μ 4 t ∧ μ 4 t ≤ 60 by omega)
      have m2 := mul_bd (show -216000 ≤ μ 70 x ∧ μ 70 x ≤ 216000 by omega) (show -60 ≤ μ 4 x ∧ μ 4 x ≤ 60 by omega)
      have m3 : μ 70 x * μ 4 x ≠ 0 := mul_nn (by omega) (by omega)
      refine Rj_aload_n (q := 23) d_Ge_hangOn_22 rfl rfl rfl ?_
      refine Rj_gr (q := 26) (zd := 68) gD_Ge_9_67 rfl rfl d_Ge_hangOn_23 rfl ?_
      refine Rj_iload_n (q := 27) d_Ge_hangOn_26 rfl rfl rfl ?_
      refine Rj_iload_n (q := 28) d_Ge_hangOn_27 rfl rfl rfl ?_
      refine Rj_is (q := 29) aD_68 rfl (by omega) d_Ge_hangOn_28 rfl ?_
      refine Rj_aload_n (q := 30) d_Ge_hangOn_29 rfl rfl rfl ?_
      refine Rj_gr (q := 33) (zd := 69) gD_Ge_15_67 rfl rfl d_Ge_hangOn_30 rfl ?_
      refine Rj_iload_n (q := 34) d_Ge_hangOn_33 rfl rfl rfl ?_
      refine Rj_la (q := 35) (v := μ 69 x) aD_69 rfl (by omega) rfl d_Ge_hangOn_34 rfl ?_
      refine Rj_lstore (q := 37) (ls' := [vA 67, vI r, vI x, vI t, vI (jn S j 2), vL (μ 69 x), vU]) d_Ge_hangOn_35 rfl (by decide) rfl ?_
      refine Rj_aload_n (q := 38) d_Ge_hangOn_37 rfl rfl rfl ?_
      refine Rj_gr (q := 41) (zd := 70) gD_Ge_19_67 rfl rfl d_Ge_hangOn_38 rfl ?_
      refine Rj_iload_n (q := 42) d_Ge_hangOn_41 rfl rfl rfl ?_
      refine Rj_la (q := 43) (v := μ 70 x) aD_70 rfl (by omega) rfl d_Ge_hangOn_42 rfl ?_
      refine Rj_lstore (q := 45) (ls' := [vA 67, vI r, vI x, vI t, vI (jn S j 2), vL (μ 69 x), vU, vL (μ 70 x), vU]) d_Ge_hangOn_43 rfl (by decide) rfl ?_
      refine Rj_iload (q := 47) d_Ge_hangOn_45 rfl rfl ?_
      refine Rj_if_ne (q := 50) (t := 58) d_Ge_hangOn_47 rfl (by decide) ⟨by omega, by omega⟩ (fun c47 => ?_) (fun c47 => ?_)
      · refine Rj_iload (q := 60) d_Ge_hangOn_58 rfl rfl ?_
        refine Rj_iconst (q := 61) d_Ge_hangOn_60 rfl ?_
        refine Rj_icmp_ne (q := 64) (t := 94) d_Ge_hangOn_61 rfl (by decide) ⟨by omega, by omega⟩ (by decide) (fun c61 => ?_) (fun c61 => ?_)
        · refine Rj_lload (q := 96) d_Ge_hangOn_94 rfl rfl ?_
          refine Rj_lload (q := 98) d_Ge_hangOn_96 rfl rfl ?_
          refine Rj_cs (q := 101) (z := y_D_divisorOf) (as := [vL (μ 69 x), vL (μ 70 x)]) (rest := []) (la := [vL (μ 69 x), vU, vL (μ 70 x), vU]) ml_Ge_98 mw_D_divisorOf ms_D_divisorOf d_Ge_hangOn_98 rfl rfl rfl rfl rfl ?_
          refine s_D_divisorOf (by omega) (by omega) (by omega) ?_
          have gr98 := gcd_rng (a := (μ 69 x)) (b := (μ 70 x)) (by omega) (by omega) (by omega)
          refine Rj_lstore (q := 103) (ls' := [vA 67, vI r, vI x, vI t, vI (jn S j 2), vL (μ 69 x), vU, vL (μ 70 x), vU, vL (((Int.gcd (μ 69 x) (μ 70 x) : Nat) : Int)), vU]) d_Ge_hangOn_101 rfl (by decide) rfl ?_
          refine Rj_aload_n (q := 104) d_Ge_hangOn_103 rfl rfl rfl ?_
          refine Rj_gr (q := 107) (zd := 69) gD_Ge_15_67 rfl rfl d_Ge_hangOn_104 rfl ?_
          refine Rj_iload_n (q := 108) d_Ge_hangOn_107 rfl rfl rfl ?_
          refine Rj_lload (q := 110) d_Ge_hangOn_108 rfl rfl ?_
          refine Rj_lload (q := 112) d_Ge_hangOn_110 rfl rfl ?_
          refine Rj_ldiv (q := 113) d_Ge_hangOn_112 rfl ⟨by omega, by omega⟩ ⟨by omega, by omega⟩ (by omega) ?_
          refine Rj_lst (q := 114) aD_69 rfl (by omega) d_Ge_hangOn_113 rfl ?_
          refine Rj_aload_n (q := 115) d_Ge_hangOn_114 rfl rfl rfl ?_
          refine Rj_gr (q := 118) (zd := 70) gD_Ge_19_67 rfl rfl d_Ge_hangOn_115 rfl ?_
          refine Rj_iload_n (q := 119) d_Ge_hangOn_118 rfl rfl rfl ?_
          refine Rj_lload (q := 121) d_Ge_hangOn_119 rfl rfl ?_
          refine Rj_lload (q := 123) d_Ge_hangOn_121 rfl rfl ?_
          refine Rj_ldiv (q := 124) d_Ge_hangOn_123 rfl ⟨by omega, by omega⟩ ⟨by omega, by omega⟩ (by omega) ?_
          refine Rj_lst (q := 125) aD_70 rfl (by omega) d_Ge_hangOn_124 rfl ?_
          refine Rj_iconst (q := 126) d_Ge_hangOn_125 rfl ?_
          refine Rj_bret1 d_Ge_hangOn_126 rfl ?_
          have hh := (HI_hang hS hH hj hft (by omega) (by omega)).2
          rw [lw_abv, lw_abv] at hh
          simp only [if_neg c47, if_neg c61] at hh
          refine h1 _ (Fr.put (Fr.put (Fr.put (Fr.refl _ _) (by simp [Wg67])) (by simp [Wg67])) (by simp [Wg67])) c7 c17 ?_ ?_ ?_
          · simpa [mset_fs, mset_nc, lw_0, lw_1, ef, et] using hh
          · have := una_lt (lo := μ 68) (t := t) (r := r) (by omega) (by omega) hr.1
            simpa [mset_fs, mset_nc] using this
          · intro y hy
            by_cases e : y = t
            · subst e; omega
            · simp [mset_fs, mset_nc, fset, e]
        · refine Rj_lload (q := 66) d_Ge_hangOn_64 rfl rfl ?_
          refine Rj_aload_n (q := 67) d_Ge_hangOn_66 rfl rfl rfl ?_
          refine Rj_gr (q := 70) (zd := 3) gD_Ge_31_67 rfl rfl d_Ge_hangOn_67 rfl ?_
          refine Rj_gr (q := 73) (zd := 4) gD_Ge_95_3 rfl rfl d_Ge_hangOn_70 rfl ?_
          refine Rj_iload_n (q := 74) d_Ge_hangOn_73 rfl rfl rfl ?_
          refine Rj_ia (q := 75) (v := μ 4 t) aD_4 rfl (by omega) rfl d_Ge_hangOn_74 rfl ?_
          refine Rj_i2l (q := 76) d_Ge_hangOn_75 rfl ⟨by omega, by omega⟩ ?_
          refine Rj_lmul (q := 77) d_Ge_hangOn_76 rfl ?_
          refine Rj_lstore (q := 79) (ls' := [vA 67, vI r, vI x, vI t, vI (jn S j 2), vL ((μ 69 x) * (μ 4 t)), vU, vL (μ 70 x), vU]) d_Ge_hangOn_77 rfl (by decide) rfl ?_
          refine Rj_lload (q := 81) d_Ge_hangOn_79 rfl rfl ?_
          refine Rj_aload_n (q := 82) d_Ge_hangOn_81 rfl rfl rfl ?_
          refine Rj_gr (q := 85) (zd := 3) gD_Ge_31_67 rfl rfl d_Ge_hangOn_82 rfl ?_
          refine Rj_gr (q := 88) (zd := 4) gD_Ge_95_3 rfl rfl d_Ge_hangOn_85 rfl ?_
          refine Rj_iload_n (q := 89) d_Ge_hangOn_88 rfl rfl rfl ?_
          refine Rj_ia (q := 90) (v := μ 4 x) aD_4 rfl (by omega) rfl d_Ge_hangOn_89 rfl ?_
          refine Rj_i2l (q := 91) d_Ge_hangOn_90 rfl ⟨by omega, by omega⟩ ?_
          refine Rj_lmul (q := 92) d_Ge_hangOn_91 rfl ?_
          refine Rj_lstore (q := 94) (ls' := [vA 67, vI r, vI x, vI t, vI (jn S j 2), vL ((μ 69 x) * (μ 4 t)), vU, vL ((μ 70 x) * (μ 4 x)), vU]) d_Ge_hangOn_92 rfl (by decide) rfl ?_
          refine Rj_lload (q := 96) d_Ge_hangOn_94 rfl rfl ?_
          refine Rj_lload (q := 98) d_Ge_hangOn_96 rfl rfl ?_
          refine Rj_cs (q := 101) (z := y_D_divisorOf) (as := [vL ((μ 69 x) * (μ 4 t)), vL ((μ 70 x) * (μ 4 x))]) (rest := []) (la := [vL ((μ 69 x) * (μ 4 t)), vU, vL ((μ 70 x) * (μ 4 x)), vU]) ml_Ge_98 mw_D_divisorOf ms_D_divisorOf d_Ge_hangOn_98 rfl rfl rfl rfl rfl ?_
          refine s_D_divisorOf (by omega) (by omega) (by omega) ?_
          have gr98 := gcd_rng (a := ((μ 69 x) * (μ 4 t))) (b := ((μ 70 x) * (μ 4 x))) (by omega) (by omega) (by omega)
          refine Rj_lstore (q := 103) (ls' := [vA 67, vI r, vI x, vI t, vI (jn S j 2), vL ((μ 69 x) * (μ 4 t)), vU, vL ((μ 70 x) * (μ 4 x)), vU, vL (((Int.gcd ((μ 69 x) * (μ 4 t)) ((μ 70 x) * (μ 4 x)) : Nat) : Int)), vU]) d_Ge_hangOn_101 rfl (by decide) rfl ?_
          refine Rj_aload_n (q := 104) d_Ge_hangOn_103 rfl rfl rfl ?_
          refine Rj_gr (q := 107) (zd := 69) gD_Ge_15_67 rfl rfl d_Ge_hangOn_104 rfl ?_
          refine Rj_iload_n (q := 108) d_Ge_hangOn_107 rfl rfl rfl ?_
          refine Rj_lload (q := 110) d_Ge_hangOn_108 rfl rfl ?_
          refine Rj_lload (q := 112) d_Ge_hangOn_110 rfl rfl ?_
          refine Rj_ldiv (q := 113) d_Ge_hangOn_112 rfl ⟨by omega, by omega⟩ ⟨by omega, by omega⟩ (by omega) ?_
          refine Rj_lst (q := 114) aD_69 rfl (by omega) d_Ge_hangOn_113 rfl ?_
          refine Rj_aload_n (q := 115) d_Ge_hangOn_114 rfl rfl rfl ?_
          refine Rj_gr (q := 118) (zd := 70) gD_Ge_19_67 rfl rfl d_Ge_hangOn_115 rfl ?_
          refine Rj_iload_n (q := 119) d_Ge_hangOn_118 rfl rfl rfl ?_
          refine Rj_lload (q := 121) d_Ge_hangOn_119 rfl rfl ?_
          refine Rj_lload (q := 123) d_Ge_hangOn_121 rfl rfl ?_
          refine Rj_ldiv (q := 124) d_Ge_hangOn_123 rfl ⟨by omega, by omega⟩ ⟨by omega, by omega⟩ (by omega) ?_
          refine Rj_lst (q := 125) aD_70 rfl (by omega) d_Ge_hangOn_124 rfl ?_
          refine Rj_iconst (q := 126) d_Ge_hangOn_125 rfl ?_
          refine Rj_bret1 d_Ge_hangOn_126 rfl ?_
          have hh := (HI_hang hS hH hj hft (by omega) (by omega)).2
          rw [lw_abv, lw_abv] at hh
          have c2 : jn S j 2 = 2 := c61
          simp only [if_pos c2] at hh
          refine h1 _ (Fr.put (Fr.put (Fr.put (Fr.refl _ _) (by simp [Wg67])) (by simp [Wg67])) (by simp [Wg67])) c7 c17 ?_ ?_ ?_
          · simpa [mset_fs, mset_nc, lw_0, lw_1, ef, et] using hh
          · have := una_lt (lo := μ 68) (t := t) (r := r) (by omega) (by omega) hr.1
            simpa [mset_fs, mset_nc] using this
          · intro y hy
            by_cases e : y = t
            · subst e; omega
            · simp [mset_fs, mset_nc, fset, e]
      · refine Rj_lload (q := 52) d_Ge_hangOn_50 rfl rfl ?_
        refine Rj_lneg (q := 53) d_Ge_hangOn_52 rfl ?_
        refine Rj_lstore (q := 55) (ls' := [vA 67, vI r, vI x, vI t, vI (jn S j 2), vL (-(μ 69 x)), vU, vL (μ 70 x), vU]) d_Ge_hangOn_53 rfl (by decide) rfl ?_
        refine Rj_goto (t := 94) d_Ge_hangOn_55 (by decide) ?_
        refine Rj_lload (q := 96) d_Ge_hangOn_94 rfl rfl ?_
        refine Rj_lload (q := 98) d_Ge_hangOn_96 rfl rfl ?_
        refine Rj_cs (q := 101) (z := y_D_divisorOf) (as := [vL (-(μ 69 x)), vL (μ 70 x)]) (rest := []) (la := [vL (-(μ 69 x)), vU, vL (μ 70 x), vU]) ml_Ge_98 mw_D_divisorOf ms_D_divisorOf d_Ge_hangOn_98 rfl rfl rfl rfl rfl ?_
        refine s_D_divisorOf (by omega) (by omega) (by omega) ?_
        have gr98 := gcd_rng (a := (-(μ 69 x))) (b := (μ 70 x)) (by omega) (by omega) (by omega)
        refine Rj_lstore (q := 103) (ls' := [vA 67, vI r, vI x, vI t, vI (jn S j 2), vL (-(μ 69 x)), vU, vL (μ 70 x), vU, vL (((Int.gcd (-(μ 69 x)) (μ 70 x) : Nat) : Int)), vU]) d_Ge_hangOn_101 rfl (by decide) rfl ?_
        refine Rj_aload_n (q := 104) d_Ge_hangOn_103 rfl rfl rfl ?_
        refine Rj_gr (q := 107) (zd := 69) gD_Ge_15_67 rfl rfl d_Ge_hangOn_104 rfl ?_
        refine Rj_iload_n (q := 108) d_Ge_hangOn_107 rfl rfl rfl ?_
        refine Rj_lload (q := 110) d_Ge_hangOn_108 rfl rfl ?_
        refine Rj_lload (q := 112) d_Ge_hangOn_110 rfl rfl ?_
        refine Rj_ldiv (q := 113) d_Ge_hangOn_112 rfl ⟨by omega, by omega⟩ ⟨by omega, by omega⟩ (by omega) ?_
        refine Rj_lst (q := 114) aD_69 rfl (by omega) d_Ge_hangOn_113 rfl ?_
        refine Rj_aload_n (q := 115) d_Ge_hangOn_114 rfl rfl rfl ?_
        refine Rj_gr (q := 118) (zd := 70) gD_Ge_19_67 rfl rfl d_Ge_hangOn_115 rfl ?_
        refine Rj_iload_n (q := 119) d_Ge_hangOn_118 rfl rfl rfl ?_
        refine Rj_lload (q := 121) d_Ge_hangOn_119 rfl rfl ?_
        refine Rj_lload (q := 123) d_Ge_hangOn_121 rfl rfl ?_
        refine Rj_ldiv (q := 124) d_Ge_hangOn_123 rfl ⟨by omega, by omega⟩ ⟨by omega, by omega⟩ (by omega) ?_
        refine Rj_lst (q := 125) aD_70 rfl (by omega) d_Ge_hangOn_124 rfl ?_
        refine Rj_iconst (q := 126) d_Ge_hangOn_125 rfl ?_
        refine Rj_bret1 d_Ge_hangOn_126 rfl ?_
        have hh := (HI_hang hS hH hj hft (by omega) (by omega)).2
        rw [lw_abv, lw_abv] at hh
        have c0 : jn S j 2 = 0 := c47
        simp only [c0, if_neg (show ¬ ((0 : Int) = 2) by decide), if_true] at hh
        refine h1 _ (Fr.put (Fr.put (Fr.put (Fr.refl _ _) (by simp [Wg67])) (by simp [Wg67])) (by simp [Wg67])) c7 c17 ?_ ?_ ?_
        · simpa [mset_fs, mset_nc, lw_0, lw_1, ef, et] using hh
        · have := una_lt (lo := μ 68) (t := t) (r := r) (by omega) (by omega) hr.1
          simpa [mset_fs, mset_nc] using this
        · intro y hy
          by_cases e : y = t
          · subst e; omega
          · simp [mset_fs, mset_nc, fset, e]
    · refine Rj_iconst (q := 21) d_Ge_hangOn_20 rfl ?_
      refine Rj_bret0 d_Ge_hangOn_21 rfl ?_
      exact h2 (fun h => by omega)
set_option maxHeartbeats 4000000 in
theorem s_gather_67_42 : ∀ (f : Nat) {μ : Mem} {Q : PV → Mem → Prop} {S : Int → Int} {w r j m k : Int} {u0 : Nat}, ((S 1 - j).toNat < f) → (StrOK S) → (GS μ S) → (HI S w (r + 1) (r) (μ 68) (μ 69) (μ 70)) → (0 ≤ r ∧ r < S 0) → (0 ≤ w ∧ w ≤ 65535) → (0 ≤ j ∧ j ≤ S 1) → ((m = 0 ∧ una (μ 68) = u0 ∧ (∀ i, 0 ≤ i → i < j → act S w i → ¬ (μ 68 (jn S i 0) = r ∧ μ 68 (jn S i 1) = -1) ∧ ¬ (μ 68 (jn S i 1) = r ∧ μ 68 (jn S i 0) = -1))) ∨ (m = 1 ∧ una (μ 68) < u0)) → (∀ μ' m', Fr Wg67 μ μ' → HI S w (r + 1) (r) (μ' 68) (μ' 69) (μ' 70) → ((m' = 0 ∧ una (μ' 68) = u0 ∧ (∀ i, act S w i → ¬ (μ' 68 (jn S i 0) = r ∧ μ' 68 (jn S i 1) = -1) ∧ ¬ (μ' 68 (jn S i 1) = r ∧ μ' 68 (jn S i 0) = -1))) ∨ (m' = 1 ∧ una (μ' 68) < u0)) → (∀ y, 0 ≤ μ 68 y → μ' 68 y = μ 68 y) → Rj YD y_Ge_gather 137 [vA 67, vI r, vI w, vI m', vI k] [] μ' Q) → Rj YD y_Ge_gather 42 [vA 67, vI r, vI w, vI m, vI k, vI j] [] μ Q := by
  intro f
  induction f with
  | zero => intro μ Q S w r j m k u0 hf hS hG hH hr hw hj hm hk; exact absurd hf (by omega)
  | succ f ih =>
    intro μ Q S w r j m k u0 hf hS hG hH hr hw hj hm hk
    have hm01 : m = 0 ∨ m = 1 := by rcases hm with q | q <;> omega
    have hun : una (μ 68) ≤ u0 := by rcases hm with q | q <;> omega
    obtain ⟨hS0, hS1, hS2, hS3, hS4⟩ := id hS
    obtain ⟨G0, G1, G4, G6⟩ := id hG
    refine Rj_iload (q := 44) d_Ge_gather_42 rfl rfl ?_
    refine Rj_aload_n (q := 45) d_Ge_gather_44 rfl rfl rfl ?_
    refine Rj_gr (q := 48) (zd := 3) gD_Ge_31_67 rfl rfl d_Ge_gather_45 rfl ?_
    refine Rj_gi (q := 51) (ki := 4) (v := μ 3 4) gD_Ge_67_3 rfl rfl rfl d_Ge_gather_48 rfl ?_
    refine Rj_icmp_ge (q := 54) (t := 137) d_Ge_gather_51 rfl (by decide) (by first | exact ⟨by omega, by omega⟩ | (have := zbit_01 w j; constructor <;> omega)) (by first | exact ⟨by omega, by omega⟩ | (have := zbit_01 w j; constructor <;> omega)) (fun c51 => ?_) (fun c51 => ?_)
    · have ej : j = S 1 := by omega
      refine Rj_pre (ls' := [vA 67, vI r, vI w, vI m, vI k]) (t := [vI j]) rfl ?_
      exact (hk μ m (Fr.refl _ _) hH (by
        rcases hm with ⟨h1, h2, h3⟩ | h1
        · exact Or.inl ⟨h1, h2, fun i hi => h3 i hi.1 (by have := hi.2.1; omega) hi⟩
        · exact Or.inr h1) (fun _ _ => rfl))
    · have hlt : j < S 1 := by omega
      obtain ⟨e6, e7, e8⟩ := G6 j hj.1 hlt
      refine Rj_iload_n (q := 55) d_Ge_gather_54 rfl rfl rfl ?_
      refine Rj_iload (q := 57) d_Ge_gather_55 rfl rfl ?_
      refine Rj_cs (q := 60) (z := y_D_bitOf) (as := [vI w, vI j]) (rest := []) (la := [vI w, vI j]) ml_Ge_70 mw_D_bitOf ms_D_bitOf d_Ge_gather_57 rfl rfl rfl rfl rfl ?_
      refine s_D_bitOf (by omega) (by omega) ?_
      refine Rj_if_ne (q := 63) (t := 131) d_Ge_gather_60 rfl (by decide) (by first | exact ⟨by omega, by omega⟩ | (have := zbit_01 w j; constructor <;> omega)) (fun c60 => ?_) (fun c60 => ?_)
      · refine Rj_iinc (q := 134) (ls' := [vA 67, vI r, vI w, vI m, vI k, vI (j + 1)]) d_Ge_gather_131 rfl rfl (by decide) rfl ?_
        refine Rj_goto (t := 42) d_Ge_gather_134 (by decide) ?_
        refine Rj_pre (ls' := [vA 67, vI r, vI w, vI m, vI k, vI (j + 1)]) (t := []) rfl ?_
        exact ih (by omega) hS hG hH hr hw (by omega) (by
            rcases hm with ⟨h1, h2, h3⟩ | h1
            · refine Or.inl ⟨h1, h2, fun i i1 i2 i3 => ?_⟩
              by_cases e : i = j
              · subst e
                first | exact ⟨n104, n126⟩ | exact absurd i3.2.2 (by have := zbit_01 w i; omega)
              · exact h3 i i1 (by omega) i3
            · exact Or.inr h1) hk
      · have hact : act S w j := ⟨hj.1, hlt, by omega⟩
        refine Rj_aload_n (q := 64) d_Ge_gather_63 rfl rfl rfl ?_
        refine Rj_gr (q := 67) (zd := 3) gD_Ge_31_67 rfl rfl d_Ge_gather_64 rfl ?_
        refine Rj_gr (q := 70) (zd := 6) gD_Ge_78_3 rfl rfl d_Ge_gather_67 rfl ?_
        refine Rj_iload (q := 72) d_Ge_gather_70 rfl rfl ?_
        refine Rj_ia (q := 73) (v := jn S j 0) aD_6 rfl (by omega) e6 d_Ge_gather_72 rfl ?_
        refine Rj_istore (q := 75) (ls' := [vA 67, vI r, vI w, vI m, vI k, vI j, vI (jn S j 0)]) d_Ge_gather_73 rfl (by decide) rfl ?_
        refine Rj_aload_n (q := 76) d_Ge_gather_75 rfl rfl rfl ?_
        refine Rj_gr (q := 79) (zd := 3) gD_Ge_31_67 rfl rfl d_Ge_gather_76 rfl ?_
        refine Rj_gr (q := 82) (zd := 7) gD_Ge_85_3 rfl rfl d_Ge_gather_79 rfl ?_
        refine Rj_iload (q := 84) d_Ge_gather_82 rfl rfl ?_
        refine Rj_ia (q := 85) (v := jn S j 1) aD_7 rfl (by omega) e7 d_Ge_gather_84 rfl ?_
        refine Rj_istore (q := 87) (ls' := [vA 67, vI r, vI w, vI m, vI k, vI j, vI (jn S j 0), vI (jn S j 1)]) d_Ge_gather_85 rfl (by decide) rfl ?_
        refine Rj_iload_n (q := 88) d_Ge_gather_87 rfl rfl rfl ?_
        refine Rj_aload_n (q := 89) d_Ge_gather_88 rfl rfl rfl ?_
        refine Rj_iload_n (q := 90) d_Ge_gather_89 rfl rfl rfl ?_
        refine Rj_iload (q := 92) d_Ge_gather_90 rfl rfl ?_
        refine Rj_iload (q := 94) d_Ge_gather_92 rfl rfl ?_
        refine Rj_aload_n (q := 95) d_Ge_gather_94 rfl rfl rfl ?_
        refine Rj_gr (q := 98) (zd := 3) gD_Ge_31_67 rfl rfl d_Ge_gather_95 rfl ?_
        refine Rj_gr (q := 101) (zd := 8) gD_Ge_88_3 rfl rfl d_Ge_gather_98 rfl ?_
        refine Rj_iload (q := 103) d_Ge_gather_101 rfl rfl ?_
        refine Rj_ia (q := 104) (v := jn S j 2) aD_8 rfl (by omega) e8 d_Ge_gather_103 rfl ?_
        refine Rj_vo (q := 107) (z := y_Ge_hangOn) (as := [vI r, vI (jn S j 0), vI (jn S j 1), vI (jn S j 2)]) (rest := [vI m]) (la := [vA 67, vI r, vI (jn S j 0), vI (jn S j 1), vI (jn S j 2)]) oD_67_Ge_hangOn ml_Ge_91 mw_Ge_hangOn mv_Ge_hangOn rfl d_Ge_gather_104 rfl rfl rfl rfl rfl ?_
        refine s_hangOn_67 (μ := μ) (j := j) hS hG hH hr hact (Or.inl ⟨rfl, rfl⟩) (fun m104 f104 a104 b104 q104 u104 k104 => ?_) (fun n104 => ?_)
        · have z104 := True.intro
          refine Rj_ior (q := 108) (z := 1) d_Ge_gather_107 rfl (by rcases hm01 with q | q <;> rw [q] <;> decide) ?_
          refine Rj_istore_n (q := 109) (ls' := [vA 67, vI r, vI w, vI 1, vI k, vI j, vI (jn S j 0), vI (jn S j 1)]) d_Ge_gather_108 rfl rfl (by decide) rfl ?_
          refine Rj_iload_n (q := 110) d_Ge_gather_109 rfl rfl rfl ?_
          refine Rj_aload_n (q := 111) d_Ge_gather_110 rfl rfl rfl ?_
          refine Rj_iload_n (q := 112) d_Ge_gather_111 rfl rfl rfl ?_
          refine Rj_iload (q := 114) d_Ge_gather_112 rfl rfl ?_
          refine Rj_iload (q := 116) d_Ge_gather_114 rfl rfl ?_
          refine Rj_aload_n (q := 117) d_Ge_gather_116 rfl rfl rfl ?_
          refine Rj_gr (q := 120) (zd := 3) gD_Ge_31_67 rfl rfl d_Ge_gather_117 rfl ?_
          refine Rj_gr (q := 123) (zd := 8) gD_Ge_88_3 rfl rfl d_Ge_gather_120 rfl ?_
          refine Rj_iload (q := 125) d_Ge_gather_123 rfl rfl ?_
          refine Rj_ia (q := 126) (v := jn S j 2) aD_8 rfl (by omega) ((hG.g67 f104).2.2.2 j hj.1 hlt).2.2 d_Ge_gather_125 rfl ?_
          refine Rj_vo (q := 129) (z := y_Ge_hangOn) (as := [vI r, vI (jn S j 1), vI (jn S j 0), vI (jn S j 2)]) (rest := [vI 1]) (la := [vA 67, vI r, vI (jn S j 1), vI (jn S j 0), vI (jn S j 2)]) oD_67_Ge_hangOn ml_Ge_91 mw_Ge_hangOn mv_Ge_hangOn rfl d_Ge_gather_126 rfl rfl rfl rfl rfl ?_
          refine s_hangOn_67 (μ := m104) (j := j) hS (hG.g67 f104) q104 hr hact (Or.inr ⟨rfl, rfl⟩) (fun m126 f126 a126 b126 q126 u126 k126 => ?_) (fun n126 => ?_)
          · have z126 := True.intro
            refine Rj_ior (q := 130) (z := 1) d_Ge_gather_129 rfl (by decide) ?_
            refine Rj_istore_n (q := 131) (ls' := [vA 67, vI r, vI w, vI 1, vI k, vI j, vI (jn S j 0), vI (jn S j 1)]) d_Ge_gather_130 rfl rfl (by decide) rfl ?_
            refine Rj_iinc (q := 134) (ls' := [vA 67, vI r, vI w, vI 1, vI k, vI (j + 1), vI (jn S j 0), vI (jn S j 1)]) d_Ge_gather_131 rfl rfl (by decide) rfl ?_
            refine Rj_goto (t := 42) d_Ge_gather_134 (by decide) ?_
            refine Rj_pre (ls' := [vA 67, vI r, vI w, vI 1, vI k, vI (j + 1)]) (t := [vI (jn S j 0), vI (jn S j 1)]) rfl ?_
            exact ih (μ := m126) (by omega) hS (hG.g67 (Fr.trans f104 f126)) q126 hr hw (by omega) (Or.inr ⟨rfl, by omega⟩) (fun m' v' f' h' c' k' => hk m' v' (Fr.trans (Fr.trans f104 f126) f') h' c' (fun y hy => (k' y (by rw [(fun y hy => (k126 y (by rw [k104 y hy]; exact hy)).trans (k104 y hy)) y hy]; exact hy)).trans ((fun y hy => (k126 y (by rw [k104 y hy]; exact hy)).trans (k104 y hy)) y hy)))
          · have z126 := True.intro
            refine Rj_ior (q := 130) (z := 1) d_Ge_gather_129 rfl (by decide) ?_
            refine Rj_istore_n (q := 131) (ls' := [vA 67, vI r, vI w, vI 1, vI k, vI j, vI (jn S j 0), vI (jn S j 1)]) d_Ge_gather_130 rfl rfl (by decide) rfl ?_
            refine Rj_iinc (q := 134) (ls' := [vA 67, vI r, vI w, vI 1, vI k, vI (j + 1), vI (jn S j 0), vI (jn S j 1)]) d_Ge_gather_131 rfl rfl (by decide) rfl ?_
            refine Rj_goto (t := 42) d_Ge_gather_134 (by decide) ?_
            refine Rj_pre (ls' := [vA 67, vI r, vI w, vI 1, vI k, vI (j + 1)]) (t := [vI (jn S j 0), vI (jn S j 1)]) rfl ?_
            exact ih (μ := m104) (by omega) hS (hG.g67 f104) q104 hr hw (by omega) (Or.inr ⟨rfl, by omega⟩) (fun m' v' f' h' c' k' => hk m' v' (Fr.trans f104 f') h' c' (fun y hy => (k' y (by rw [k104 y hy]; exact hy)).trans (k104 y hy)))
        · have z104 := True.intro
          refine Rj_ior (q := 108) (z := m) d_Ge_gather_107 rfl (by rcases hm01 with q | q <;> rw [q] <;> decide) ?_
          refine Rj_istore_n (q := 109) (ls' := [vA 67, vI r, vI w, vI m, vI k, vI j, vI (jn S j 0), vI (jn S j 1)]) d_Ge_gather_108 rfl rfl (by decide) rfl ?_
          refine Rj_iload_n (q := 110) d_Ge_gather_109 rfl rfl rfl ?_
          refine Rj_aload_n (q := 111) d_Ge_gather_110 rfl rfl rfl ?_
          refine Rj_iload_n (q := 112) d_Ge_gather_111 rfl rfl rfl ?_
          refine Rj_iload (q := 114) d_Ge_gather_112 rfl rfl ?_
          refine Rj_iload (q := 116) d_Ge_gather_114 rfl rfl ?_
          refine Rj_aload_n (q := 117) d_Ge_gather_116 rfl rfl rfl ?_
          refine Rj_gr (q := 120) (zd := 3) gD_Ge_31_67 rfl rfl d_Ge_gather_117 rfl ?_
          refine Rj_gr (q := 123) (zd := 8) gD_Ge_88_3 rfl rfl d_Ge_gather_120 rfl ?_
          refine Rj_iload (q := 125) d_Ge_gather_123 rfl rfl ?_
          refine Rj_ia (q := 126) (v := jn S j 2) aD_8 rfl (by omega) (hG.2.2.2 j hj.1 hlt).2.2 d_Ge_gather_125 rfl ?_
          refine Rj_vo (q := 129) (z := y_Ge_hangOn) (as := [vI r, vI (jn S j 1), vI (jn S j 0), vI (jn S j 2)]) (rest := [vI m]) (la := [vA 67, vI r, vI (jn S j 1), vI (jn S j 0), vI (jn S j 2)]) oD_67_Ge_hangOn ml_Ge_91 mw_Ge_hangOn mv_Ge_hangOn rfl d_Ge_gather_126 rfl rfl rfl rfl rfl ?_
          refine s_hangOn_67 (μ := μ) (j := j) hS hG hH hr hact (Or.inr ⟨rfl, rfl⟩) (fun m126 f126 a126 b126 q126 u126 k126 => ?_) (fun n126 => ?_)
          · have z126 := True.intro
            refine Rj_ior (q := 130) (z := 1) d_Ge_gather_129 rfl (by rcases hm01 with q | q <;> rw [q] <;> decide) ?_
            refine Rj_istore_n (q := 131) (ls' := [vA 67, vI r, vI w, vI 1, vI k, vI j, vI (jn S j 0), vI (jn S j 1)]) d_Ge_gather_130 rfl rfl (by decide) rfl ?_
            refine Rj_iinc (q := 134) (ls' := [vA 67, vI r, vI w, vI 1, vI k, vI (j + 1), vI (jn S j 0), vI (jn S j 1)]) d_Ge_gather_131 rfl rfl (by decide) rfl ?_
            refine Rj_goto (t := 42) d_Ge_gather_134 (by decide) ?_
            refine Rj_pre (ls' := [vA 67, vI r, vI w, vI 1, vI k, vI (j + 1)]) (t := [vI (jn S j 0), vI (jn S j 1)]) rfl ?_
            exact ih (μ := m126) (by omega) hS (hG.g67 f126) q126 hr hw (by omega) (Or.inr ⟨rfl, by omega⟩) (fun m' v' f' h' c' k' => hk m' v' (Fr.trans f126 f') h' c' (fun y hy => (k' y (by rw [k126 y hy]; exact hy)).trans (k126 y hy)))
          · have z126 := True.intro
            refine Rj_ior (q := 130) (z := m) d_Ge_gather_129 rfl (by rcases hm01 with q | q <;> rw [q] <;> decide) ?_
            refine Rj_istore_n (q := 131) (ls' := [vA 67, vI r, vI w, vI m, vI k, vI j, vI (jn S j 0), vI (jn S j 1)]) d_Ge_gather_130 rfl rfl (by decide) rfl ?_
            refine Rj_iinc (q := 134) (ls' := [vA 67, vI r, vI w, vI m, vI k, vI (j + 1), vI (jn S j 0), vI (jn S j 1)]) d_Ge_gather_131 rfl rfl (by decide) rfl ?_
            refine Rj_goto (t := 42) d_Ge_gather_134 (by decide) ?_
            refine Rj_pre (ls' := [vA 67, vI r, vI w, vI m, vI k, vI (j + 1)]) (t := [vI (jn S j 0), vI (jn S j 1)]) rfl ?_
            exact ih (by omega) hS hG hH hr hw (by omega) (by
                rcases hm with ⟨h1, h2, h3⟩ | h1
                · refine Or.inl ⟨h1, h2, fun i i1 i2 i3 => ?_⟩
                  by_cases e : i = j
                  · subst e
                    first | exact ⟨n104, n126⟩ | exact absurd i3.2.2 (by have := zbit_01 w i; omega)
                  · exact h3 i i1 (by omega) i3
                · exact Or.inr h1) hk
set_option maxHeartbeats 4000000 in
theorem s_gather_67_26 : ∀ (f : Nat) {μ : Mem} {Q : PV → Mem → Prop} {S : Int → Int} {w r m k : Int}, ((12 - k).toNat < f) → (StrOK S) → (GS μ S) → (HI S w (r + 1) (r) (μ 68) (μ 69) (μ 70)) → (0 ≤ r ∧ r < S 0) → (0 ≤ w ∧ w ≤ 65535) → (0 ≤ k ∧ k ≤ 12) → ((m = 1 ∧ (una (μ 68) : Int) + k ≤ 11) ∨ (m = 0 ∧ (∀ i, act S w i → ¬ (μ 68 (jn S i 0) = r ∧ μ 68 (jn S i 1) = -1) ∧ ¬ (μ 68 (jn S i 1) = r ∧ μ 68 (jn S i 0) = -1)))) → (∀ μ', Fr Wg67 μ μ' → HI S w (r + 1) (r + 1) (μ' 68) (μ' 69) (μ' 70) → (∀ y, 0 ≤ μ 68 y → μ' 68 y = μ 68 y) → Q vU μ') → Rj YD y_Ge_gather 26 [vA 67, vI r, vI w, vI m, vI k] [] μ Q := by
  intro f
  induction f with
  | zero => intro μ Q S w r m k hf hS hG hH hr hw hk0 hm hk; exact absurd hf (by omega)
  | succ f ih =>
    intro μ Q S w r m k hf hS hG hH hr hw hk0 hm hk
    obtain ⟨a1, a2, a3, a4, -⟩ := id hH
    refine Rj_iload (q := 28) d_Ge_gather_26 rfl rfl ?_
    refine Rj_bipush (q := 30) d_Ge_gather_28 rfl (by decide +kernel) ?_
    refine Rj_icmp_ge (q := 33) (t := 143) d_Ge_gather_30 rfl (by decide) ⟨by omega, by omega⟩ (by decide) (fun c30 => ?_) (fun c30 => ?_)
    · have hcl : (∀ i, act S w i → ¬ (μ 68 (jn S i 0) = r ∧ μ 68 (jn S i 1) = -1) ∧ ¬ (μ 68 (jn S i 1) = r ∧ μ 68 (jn S i 0) = -1)) := by
        rcases hm with q | q
        · omega
        · exact q.2
      refine Rj_vret d_Ge_gather_143 rfl ?_
      exact hk μ (Fr.refl _ _) (HI_close hS hH (fun j hj => by
        obtain ⟨ra, rb, -, -⟩ := act_rng hS hj
        have x1 := a1 _ ra.1 ra.2
        have x2 := a1 _ rb.1 rb.2
        have x3 := a4 j hj
        have x4 := hcl j hj
        constructor
        · intro q; by_cases e : μ 68 (jn S j 0) < r
          · have := x3.1 q e; omega
          · omega
        · intro q; by_cases e : μ 68 (jn S j 1) < r
          · have := x3.2 q e; omega
          · omega)) (fun _ _ => rfl)
    · refine Rj_iload_n (q := 34) d_Ge_gather_33 rfl rfl rfl ?_
      refine Rj_if_eq (q := 37) (t := 143) d_Ge_gather_34 rfl (by decide) ⟨by omega, by omega⟩ (fun c34 => ?_) (fun c34 => ?_)
      · have hcl : (∀ i, act S w i → ¬ (μ 68 (jn S i 0) = r ∧ μ 68 (jn S i 1) = -1) ∧ ¬ (μ 68 (jn S i 1) = r ∧ μ 68 (jn S i 0) = -1)) := by
          rcases hm with q | q
          · omega
          · exact q.2
        refine Rj_vret d_Ge_gather_143 rfl ?_
        exact hk μ (Fr.refl _ _) (HI_close hS hH (fun j hj => by
          obtain ⟨ra, rb, -, -⟩ := act_rng hS hj
          have x1 := a1 _ ra.1 ra.2
          have x2 := a1 _ rb.1 rb.2
          have x3 := a4 j hj
          have x4 := hcl j hj
          constructor
          · intro q; by_cases e : μ 68 (jn S j 0) < r
            · have := x3.1 q e; omega
            · omega
          · intro q; by_cases e : μ 68 (jn S j 1) < r
            · have := x3.2 q e; omega
            · omega)) (fun _ _ => rfl)
      · have hm1 : m = 1 ∧ (una (μ 68) : Int) + k ≤ 11 := by
          rcases hm with q | q
          · exact q
          · omega
        refine Rj_iconst (q := 38) d_Ge_gather_37 rfl ?_
        refine Rj_istore_n (q := 39) (ls' := [vA 67, vI r, vI w, vI 0, vI k]) d_Ge_gather_38 rfl rfl (by decide) rfl ?_
        refine Rj_iconst (q := 40) d_Ge_gather_39 rfl ?_
        refine Rj_istore (q := 42) (ls' := [vA 67, vI r, vI w, vI 0, vI k, vI 0]) d_Ge_gather_40 rfl (by decide) rfl ?_
        refine s_gather_67_42 (u0 := una (μ 68)) _ (Nat.lt_succ_self _) hS hG hH hr hw (show 0 ≤ (0 : Int) ∧ (0 : Int) ≤ S 1 from ⟨by decide, hS.2.1.1⟩) (Or.inl ⟨rfl, rfl, fun i i1 i2 => by omega⟩) (fun μ2 m2 f2 h2 c2 k2 => ?_)
        refine Rj_iinc (q := 140) (ls' := [vA 67, vI r, vI w, vI m2, vI (k + 1)]) d_Ge_gather_137 rfl rfl (by decide) rfl ?_
        refine Rj_goto (t := 26) d_Ge_gather_140 (by decide) ?_
        exact ih (by omega) hS (hG.g67 f2) h2 hr hw (by omega) (by
          rcases c2 with ⟨q1, q2, q3⟩ | ⟨q1, q2⟩
          · exact Or.inr ⟨q1, q3⟩
          · exact Or.inl ⟨q1, by omega⟩) (fun μ3 f3 h3 k3 => hk μ3 (f2.trans f3) h3 (fun y hy => (k3 y (by rw [k2 y hy]; exact hy)).trans (k2 y hy)))
set_option maxHeartbeats 4000000 in
theorem s_agrees_67 {μ : Mem} {Q : PV → Mem → Prop} {S : Int → Int} {w j : Int} (hS : StrOK S) (hG : GS μ S) (hj : 0 ≤ j ∧ j < S 1) (hb : ∀ d, 0 ≤ d → d < S 0 → (-216000 ≤ μ 69 d ∧ μ 69 d ≤ 216000) ∧ (0 < μ 70 d ∧ μ 70 d ≤ 216000)) (h1 : compat S (μ 69) (μ 70) j → Q (vI 1) μ) (h2 : ¬ compat S (μ 69) (μ 70) j → Q (vI 0) μ) : Rj YD y_Ge_agrees 0 [vA 67, vI j] [] μ Q := by
  obtain ⟨hS0, hS1, hS2, hS3, hS4⟩ := id hS
  obtain ⟨G0, G1, G4, G6⟩ := id hG
  obtain ⟨e6, e7, e8⟩ := G6 j hj.1 hj.2
  obtain ⟨ka, kb, kne, kk⟩ := hS3 j hj.1 hj.2
  have ta := hS2 _ ka.1 ka.2
  have tb := hS2 _ kb.1 kb.2
  have ea := G4 _ ka.1 ka.2
  have eb := G4 _ kb.1 kb.2
  have ba := hb _ ka.1 ka.2
  have bb := hb _ kb.1 kb.2
  have m1 := mul_bd ba.1 (show -216000 ≤ μ 70 (jn S j 1) ∧ μ 70 (jn S j 1) ≤ 216000 by omega)
  have m2 := mul_bd bb.1 (show -216000 ≤ μ 70 (jn S j 0) ∧ μ 70 (jn S j 0) ≤ 216000 by omega)
  have m3 := mul_bd m1 (show -60 ≤ tee S (jn S j 1) ∧ tee S (jn S j 1) ≤ 60 by omega)
  have m4 := mul_bd m2 (show -60 ≤ tee S (jn S j 0) ∧ tee S (jn S j 0) ≤ 60 by omega)
  have hc0 : compat S (μ 69) (μ 70) j ↔ (if jn S j 2 = 2 then μ 69 (jn S j 0) * μ 70 (jn S j 1) * tee S (jn S j 1) = μ 69 (jn S j 1) * μ 70 (jn S j 0) * tee S (jn S j 0) else if jn S j 2 = 0 then -(μ 69 (jn S j 0) * μ 70 (jn S j 1)) = μ 69 (jn S j 1) * μ 70 (jn S j 0) else μ 69 (jn S j 0) * μ 70 (jn S j 1) = μ 69 (jn S j 1) * μ 70 (jn S j 0)) := by
    unfold compat abv blw
    by_cases h2 : jn S j 2 = 2
    · simp only [if_pos h2]; exact ⟨fun h => h.symm, fun h => h.symm⟩
    · by_cases h0 : jn S j 2 = 0
      · simp only [if_neg h2, if_pos h0]; constructor <;> intro h <;> grind
      · simp only [if_neg h2, if_neg h0]; constructor <;> intro h <;> grind
  refine Rj_aload_n (q := 1) d_Ge_agrees_0 rfl rfl rfl ?_
  refine Rj_gr (q := 4) (zd := 3) gD_Ge_31_67 rfl rfl d_Ge_agrees_1 rfl ?_
  refine Rj_gr (q := 7) (zd := 6) gD_Ge_78_3 rfl rfl d_Ge_agrees_4 rfl ?_
  refine Rj_iload_n (q := 8) d_Ge_agrees_7 rfl rfl rfl ?_
  refine Rj_ia (q := 9) (v := jn S j 0) aD_6 rfl (by omega) e6 d_Ge_agrees_8 rfl ?_
  refine Rj_istore_n (q := 10) (ls' := [vA 67, vI j, vI (jn S j 0)]) d_Ge_agrees_9 rfl rfl (by decide) rfl ?_
  refine Rj_aload_n (q := 11) d_Ge_agrees_10 rfl rfl rfl ?_
  refine Rj_gr (q := 14) (zd := 3) gD_Ge_31_67 rfl rfl d_Ge_agrees_11 rfl ?_
  refine Rj_gr (q := 17) (zd := 7) gD_Ge_85_3 rfl rfl d_Ge_agrees_14 rfl ?_
  refine Rj_iload_n (q := 18) d_Ge_agrees_17 rfl rfl rfl ?_
  refine Rj_ia (q := 19) (v := jn S j 1) aD_7 rfl (by omega) e7 d_Ge_agrees_18 rfl ?_
  refine Rj_istore_n (q := 20) (ls' := [vA 67, vI j, vI (jn S j 0), vI (jn S j 1)]) d_Ge_agrees_19 rfl rfl (by decide) rfl ?_
  refine Rj_aload_n (q := 21) d_Ge_agrees_20 rfl rfl rfl ?_
  refine Rj_gr (q := 24) (zd := 3) gD_Ge_31_67 rfl rfl d_Ge_agrees_21 rfl ?_
  refine Rj_gr (q := 27) (zd := 8) gD_Ge_88_3 rfl rfl d_Ge_agrees_24 rfl ?_
  refine Rj_iload_n (q := 28) d_Ge_agrees_27 rfl rfl rfl ?_
  refine Rj_ia (q := 29) (v := jn S j 2) aD_8 rfl (by omega) e8 d_Ge_agrees_28 rfl ?_
  refine Rj_istore (q := 31) (ls' := [vA 67, vI j, vI (jn S j 0), vI (jn S j 1), vI (jn S j 2)]) d_Ge_agrees_29 rfl (by decide) rfl ?_
  refine Rj_aload_n (q := 32) d_Ge_agrees_31 rfl rfl rfl ?_
  refine Rj_gr (q := 35) (zd := 69) gD_Ge_15_67 rfl rfl d_Ge_agrees_32 rfl ?_
  refine Rj_iload_n (q := 36) d_Ge_agrees_35 rfl rfl rfl ?_
  refine Rj_la (q := 37) (v := μ 69 (jn S j 0)) aD_69 rfl (by omega) rfl d_Ge_agrees_36 rfl ?_
  refine Rj_aload_n (q := 38) d_Ge_agrees_37 rfl rfl rfl ?_
  refine Rj_gr (q := 41) (zd := 70) gD_Ge_19_67 rfl rfl d_Ge_agrees_38 rfl ?_
  refine Rj_iload_n (q := 42) d_Ge_agrees_41 rfl rfl rfl ?_
  refine Rj_la (q := 43) (v := μ 70 (jn S j 1)) aD_70 rfl (by omega) rfl d_Ge_agrees_42 rfl ?_
  refine Rj_lmul (q := 44) d_Ge_agrees_43 rfl ?_
  refine Rj_lstore (q := 46) (ls' := [vA 67, vI j, vI (jn S j 0), vI (jn S j 1), vI (jn S j 2), vL ((μ 69 (jn S j 0)) * (μ 70 (jn S j 1))), vU]) d_Ge_agrees_44 rfl (by decide) rfl ?_
  refine Rj_aload_n (q := 47) d_Ge_agrees_46 rfl rfl rfl ?_
  refine Rj_gr (q := 50) (zd := 69) gD_Ge_15_67 rfl rfl d_Ge_agrees_47 rfl ?_
  refine Rj_iload_n (q := 51) d_Ge_agrees_50 rfl rfl rfl ?_
  refine Rj_la (q := 52) (v := μ 69 (jn S j 1)) aD_69 rfl (by omega) rfl d_Ge_agrees_51 rfl ?_
  refine Rj_aload_n (q := 53) d_Ge_agrees_52 rfl rfl rfl ?_
  refine Rj_gr (q := 56) (zd := 70) gD_Ge_19_67 rfl rfl d_Ge_agrees_53 rfl ?_
  refine Rj_iload_n (q := 57) d_Ge_agrees_56 rfl rfl rfl ?_
  refine Rj_la (q := 58) (v := μ 70 (jn S j 0)) aD_70 rfl (by omega) rfl d_Ge_agrees_57 rfl ?_
  refine Rj_lmul (q := 59) d_Ge_agrees_58 rfl ?_
  refine Rj_lstore (q := 61) (ls' := [vA 67, vI j, vI (jn S j 0), vI (jn S j 1), vI (jn S j 2), vL ((μ 69 (jn S j 0)) * (μ 70 (jn S j 1))), vU, vL ((μ 69 (jn S j 1)) * (μ 70 (jn S j 0))), vU]) d_Ge_agrees_59 rfl (by decide) rfl ?_
  refine Rj_iload (q := 63) d_Ge_agrees_61 rfl rfl ?_
  refine Rj_if_ne (q := 66) (t := 74) d_Ge_agrees_63 rfl (by decide) ⟨by omega, by omega⟩ (fun c63 => ?_) (fun c63 => ?_)
  · refine Rj_iload (q := 76) d_Ge_agrees_74 rfl rfl ?_
    refine Rj_iconst (q := 77) d_Ge_agrees_76 rfl ?_
    refine Rj_icmp_ne (q := 80) (t := 110) d_Ge_agrees_77 rfl (by decide) ⟨by omega, by omega⟩ (by decide) (fun c77 => ?_) (fun c77 => ?_)
    · rw [if_neg c77, if_neg c63] at hc0
      refine Rj_lload (q := 112) d_Ge_agrees_110 rfl rfl ?_
      refine Rj_lload (q := 114) d_Ge_agrees_112 rfl rfl ?_
      refine Rj_lc_ne (q := 115) (q2 := 118) (t := 122) d_Ge_agrees_114 rfl d_Ge_agrees_115 rfl (by decide) ⟨by omega, by omega⟩ ⟨by omega, by omega⟩ (fun c114 => ?_) (fun c114 => ?_)
      · refine Rj_iconst (q := 123) d_Ge_agrees_122 rfl ?_
        refine Rj_bret0 d_Ge_agrees_123 rfl ?_
        exact h2 (fun h => c114 (hc0.mp h))
      · refine Rj_iconst (q := 119) d_Ge_agrees_118 rfl ?_
        refine Rj_goto (t := 123) d_Ge_agrees_119 (by decide) ?_
        refine Rj_bret1 d_Ge_agrees_123 rfl ?_
        exact h1 (hc0.mpr c114)
    · have hk2 : jn S j 2 = 2 := c77
      rw [if_pos hk2] at hc0
      refine Rj_lload (q := 82) d_Ge_agrees_80 rfl rfl ?_
      refine Rj_aload_n (q := 83) d_Ge_agrees_82 rfl rfl rfl ?_
      refine Rj_gr (q := 86) (zd := 3) gD_Ge_31_67 rfl rfl d_Ge_agrees_83 rfl ?_
      refine Rj_gr (q := 89) (zd := 4) gD_Ge_95_3 rfl rfl d_Ge_agrees_86 rfl ?_
      refine Rj_iload_n (q := 90) d_Ge_agrees_89 rfl rfl rfl ?_
      refine Rj_ia (q := 91) (v := tee S (jn S j 1)) aD_4 rfl (by omega) eb d_Ge_agrees_90 rfl ?_
      refine Rj_i2l (q := 92) d_Ge_agrees_91 rfl ⟨by omega, by omega⟩ ?_
      refine Rj_lmul (q := 93) d_Ge_agrees_92 rfl ?_
      refine Rj_lstore (q := 95) (ls' := [vA 67, vI j, vI (jn S j 0), vI (jn S j 1), vI (jn S j 2), vL (((μ 69 (jn S j 0)) * (μ 70 (jn S j 1))) * (tee S (jn S j 1))), vU, vL ((μ 69 (jn S j 1)) * (μ 70 (jn S j 0))), vU]) d_Ge_agrees_93 rfl (by decide) rfl ?_
      refine Rj_lload (q := 97) d_Ge_agrees_95 rfl rfl ?_
      refine Rj_aload_n (q := 98) d_Ge_agrees_97 rfl rfl rfl ?_
      refine Rj_gr (q := 101) (zd := 3) gD_Ge_31_67 rfl rfl d_Ge_agrees_98 rfl ?_
      refine Rj_gr (q := 104) (zd := 4) gD_Ge_95_3 rfl rfl d_Ge_agrees_101 rfl ?_
      refine Rj_iload_n (q := 105) d_Ge_agrees_104 rfl rfl rfl ?_
      refine Rj_ia (q := 106) (v := tee S (jn S j 0)) aD_4 rfl (by omega) ea d_Ge_agrees_105 rfl ?_
      refine Rj_i2l (q := 107) d_Ge_agrees_106 rfl ⟨by omega, by omega⟩ ?_
      refine Rj_lmul (q := 108) d_Ge_agrees_107 rfl ?_
      refine Rj_lstore (q := 110) (ls' := [vA 67, vI j, vI (jn S j 0), vI (jn S j 1), vI (jn S j 2), vL (((μ 69 (jn S j 0)) * (μ 70 (jn S j 1))) * (tee S (jn S j 1))), vU, vL (((μ 69 (jn S j 1)) * (μ 70 (jn S j 0))) * (tee S (jn S j 0))), vU]) d_Ge_agrees_108 rfl (by decide) rfl ?_
      refine Rj_lload (q := 112) d_Ge_agrees_110 rfl rfl ?_
      refine Rj_lload (q := 114) d_Ge_agrees_112 rfl rfl ?_
      refine Rj_lc_ne (q := 115) (q2 := 118) (t := 122) d_Ge_agrees_114 rfl d_Ge_agrees_115 rfl (by decide) ⟨by omega, by omega⟩ ⟨by omega, by omega⟩ (fun c114 => ?_) (fun c114 => ?_)
      · refine Rj_iconst (q := 123) d_Ge_agrees_122 rfl ?_
        refine Rj_bret0 d_Ge_agrees_123 rfl ?_
        exact h2 (fun h => c114 (hc0.mp h))
      · refine Rj_iconst (q := 119) d_Ge_agrees_118 rfl ?_
        refine Rj_goto (t := 123) d_Ge_agrees_119 (by decide) ?_
        refine Rj_bret1 d_Ge_agrees_123 rfl ?_
        exact h1 (hc0.mpr c114)
  · have hk0 : jn S j 2 = 0 := c63
    rw [if_neg (show ¬ jn S j 2 = 2 by omega), if_pos hk0] at hc0
    refine Rj_lload (q := 68) d_Ge_agrees_66 rfl rfl ?_
    refine Rj_lneg (q := 69) d_Ge_agrees_68 rfl ?_
    refine Rj_lstore (q := 71) (ls' := [vA 67, vI j, vI (jn S j 0), vI (jn S j 1), vI (jn S j 2), vL (-((μ 69 (jn S j 0)) * (μ 70 (jn S j 1)))), vU, vL ((μ 69 (jn S j 1)) * (μ 70 (jn S j 0))), vU]) d_Ge_agrees_69 rfl (by decide) rfl ?_
    refine Rj_goto (t := 110) d_Ge_agrees_71 (by decide) ?_
    refine Rj_lload (q := 112) d_Ge_agrees_110 rfl rfl ?_
    refine Rj_lload (q := 114) d_Ge_agrees_112 rfl rfl ?_
    refine Rj_lc_ne (q := 115) (q2 := 118) (t := 122) d_Ge_agrees_114 rfl d_Ge_agrees_115 rfl (by decide) ⟨by omega, by omega⟩ ⟨by omega, by omega⟩ (fun c114 => ?_) (fun c114 => ?_)
    · refine Rj_iconst (q := 123) d_Ge_agrees_122 rfl ?_
      refine Rj_bret0 d_Ge_agrees_123 rfl ?_
      exact h2 (fun h => c114 (hc0.mp h))
    · refine Rj_iconst (q := 119) d_Ge_agrees_118 rfl ?_
      refine Rj_goto (t := 123) d_Ge_agrees_119 (by decide) ?_
      refine Rj_bret1 d_Ge_agrees_123 rfl ?_
      exact h1 (hc0.mpr c114)
set_option maxHeartbeats 4000000 in
theorem s_setOf_67_l : ∀ (f : Nat) {μ : Mem} {Q : PV → Mem → Prop} {S : Int → Int} {x s d : Int}, ((S 0 - d).toNat < f) → (StrOK S) → (GS μ S) → (0 ≤ x ∧ x < S 0) → (∀ y, 0 ≤ y → y < S 0 → -1 ≤ μ 68 y ∧ μ 68 y < 12) → (0 ≤ d ∧ d ≤ S 0) → ((0 ≤ s ∧ s < 4096) ∧ ∀ k, 0 ≤ k → (zbit s k = 1 ↔ k < d ∧ μ 68 k = μ 68 x)) → (∀ s, (0 ≤ s ∧ s < 4096) → (∀ k, 0 ≤ k → (zbit s k = 1 ↔ k < S 0 ∧ μ 68 k = μ 68 x)) → Q (vI s) μ) → Rj YD y_Ge_setOf 4 [vA 67, vI x, vI s, vI d] [] μ Q := by
  intro f
  induction f with
  | zero => intro μ Q S x s d hf hS hG hx hlo hd hs hQ; exact absurd hf (by omega)
  | succ f ih =>
    intro μ Q S x s d hf hS hG hx hlo hd hs hQ
    obtain ⟨hS0, hS1, hS2, hS3, hS4⟩ := id hS
    obtain ⟨G0, G1, G4, G6⟩ := id hG
    have lx := hlo x hx.1 hx.2
    refine Rj_iload_n (q := 5) d_Ge_setOf_4 rfl rfl rfl ?_
    refine Rj_aload_n (q := 6) d_Ge_setOf_5 rfl rfl rfl ?_
    refine Rj_gr (q := 9) (zd := 3) gD_Ge_31_67 rfl rfl d_Ge_setOf_6 rfl ?_
    refine Rj_gi (q := 12) (ki := 0) (v := μ 3 0) gD_Ge_58_3 rfl rfl rfl d_Ge_setOf_9 rfl ?_
    refine Rj_icmp_ge (q := 15) (t := 42) d_Ge_setOf_12 rfl (by decide) ⟨by omega, by omega⟩ ⟨by omega, by omega⟩ (fun c12 => ?_) (fun c12 => ?_)
    · refine Rj_iload_n (q := 43) d_Ge_setOf_42 rfl rfl rfl ?_
      refine Rj_iret d_Ge_setOf_43 rfl ?_
      exact hQ s hs.1 (fun k hk => (hs.2 k hk).trans ⟨fun q => ⟨by omega, q.2⟩, fun q => ⟨by omega, q.2⟩⟩)
    · have hlt : d < S 0 := by omega
      have ld := hlo d hd.1 hlt
      have pr := pow_rng (d := d) (n := 12) (by omega) (by decide)
      have orr := z_or_rng (a := s) (b := z_shl 1 d) (n := 12) (by decide) hs.1 pr
      refine Rj_aload_n (q := 16) d_Ge_setOf_15 rfl rfl rfl ?_
      refine Rj_gr (q := 19) (zd := 68) gD_Ge_9_67 rfl rfl d_Ge_setOf_16 rfl ?_
      refine Rj_iload_n (q := 20) d_Ge_setOf_19 rfl rfl rfl ?_
      refine Rj_ia (q := 21) (v := μ 68 d) aD_68 rfl (by omega) rfl d_Ge_setOf_20 rfl ?_
      refine Rj_aload_n (q := 22) d_Ge_setOf_21 rfl rfl rfl ?_
      refine Rj_gr (q := 25) (zd := 68) gD_Ge_9_67 rfl rfl d_Ge_setOf_22 rfl ?_
      refine Rj_iload_n (q := 26) d_Ge_setOf_25 rfl rfl rfl ?_
      refine Rj_ia (q := 27) (v := μ 68 x) aD_68 rfl (by omega) rfl d_Ge_setOf_26 rfl ?_
      refine Rj_icmp_ne (q := 30) (t := 36) d_Ge_setOf_27 rfl (by decide) ⟨by omega, by omega⟩ ⟨by omega, by omega⟩ (fun c27 => ?_) (fun c27 => ?_)
      · refine Rj_iinc (q := 39) (ls' := [vA 67, vI x, vI s, vI (d + 1)]) d_Ge_setOf_36 rfl rfl (by decide) rfl ?_
        refine Rj_goto (t := 4) d_Ge_setOf_39 (by decide) ?_
        exact ih (by omega) hS hG hx hlo (by omega) ⟨hs.1, fun k hk => (hs.2 k hk).trans ⟨fun q => ⟨by omega, q.2⟩, fun q => ⟨by
          by_cases e : k = d
          · subst e; exact absurd q.2 c27
          · omega, q.2⟩⟩⟩ hQ
      · refine Rj_iload_n (q := 31) d_Ge_setOf_30 rfl rfl rfl ?_
        refine Rj_iconst (q := 32) d_Ge_setOf_31 rfl ?_
        refine Rj_iload_n (q := 33) d_Ge_setOf_32 rfl rfl rfl ?_
        refine Rj_ishl (q := 34) (z := z_shl 1 d) d_Ge_setOf_33 rfl rfl ?_
        refine Rj_ior (q := 35) (z := z_or s (z_shl 1 d)) d_Ge_setOf_34 rfl rfl ?_
        refine Rj_istore_n (q := 36) (ls' := [vA 67, vI x, vI (z_or s (z_shl 1 d)), vI d]) d_Ge_setOf_35 rfl rfl (by decide) rfl ?_
        refine Rj_iinc (q := 39) (ls' := [vA 67, vI x, vI (z_or s (z_shl 1 d)), vI (d + 1)]) d_Ge_setOf_36 rfl rfl (by decide) rfl ?_
        refine Rj_goto (t := 4) d_Ge_setOf_39 (by decide) ?_
        exact ih (by omega) hS hG hx hlo (by omega) ⟨orr, fun k hk => by
          rw [zbit_or (by omega) (by omega) hk, hs.2 k hk, zbit_pow (by omega) hk]
          constructor
          · rintro (⟨q1, q2⟩ | q)
            · exact ⟨by omega, q2⟩
            · subst q; exact ⟨by omega, c27⟩
          · rintro ⟨q1, q2⟩
            by_cases e : k = d
            · exact Or.inr e
            · exact Or.inl ⟨by omega, q2⟩⟩ hQ
set_option maxHeartbeats 4000000 in
theorem s_gather_67 {μ : Mem} {Q : PV → Mem → Prop} {S : Int → Int} {w r : Int} (hS : StrOK S) (hG : GS μ S) (hH : HI S w (r) (r) (μ 68) (μ 69) (μ 70)) (hr : 0 ≤ r ∧ r < S 0) (hw : 0 ≤ w ∧ w ≤ 65535) (hlr : μ 68 r = -1) (hk : ∀ μ', Fr Wg67 μ μ' → HI S w (r + 1) (r + 1) (μ' 68) (μ' 69) (μ' 70) → (∀ y, 0 ≤ μ 68 y → μ' 68 y = μ 68 y) → μ' 68 r = r → Q vU μ') : Rj YD y_Ge_gather 0 [vA 67, vI r, vI w] [] μ Q := by
  have hS0 := hS.1
  refine Rj_aload_n (q := 1) d_Ge_gather_0 rfl rfl rfl ?_
  refine Rj_gr (q := 4) (zd := 68) gD_Ge_9_67 rfl rfl d_Ge_gather_1 rfl ?_
  refine Rj_iload_n (q := 5) d_Ge_gather_4 rfl rfl rfl ?_
  refine Rj_iload_n (q := 6) d_Ge_gather_5 rfl rfl rfl ?_
  refine Rj_is (q := 7) aD_68 rfl (by omega) d_Ge_gather_6 rfl ?_
  refine Rj_aload_n (q := 8) d_Ge_gather_7 rfl rfl rfl ?_
  refine Rj_gr (q := 11) (zd := 69) gD_Ge_15_67 rfl rfl d_Ge_gather_8 rfl ?_
  refine Rj_iload_n (q := 12) d_Ge_gather_11 rfl rfl rfl ?_
  refine Rj_lconst (q := 13) (z := 1) d_Ge_gather_12 rfl rfl ?_
  refine Rj_lst (q := 14) aD_69 rfl (by omega) d_Ge_gather_13 rfl ?_
  refine Rj_aload_n (q := 15) d_Ge_gather_14 rfl rfl rfl ?_
  refine Rj_gr (q := 18) (zd := 70) gD_Ge_19_67 rfl rfl d_Ge_gather_15 rfl ?_
  refine Rj_iload_n (q := 19) d_Ge_gather_18 rfl rfl rfl ?_
  refine Rj_lconst (q := 20) (z := 1) d_Ge_gather_19 rfl rfl ?_
  refine Rj_lst (q := 21) aD_70 rfl (by omega) d_Ge_gather_20 rfl ?_
  refine Rj_iconst (q := 22) d_Ge_gather_21 rfl ?_
  refine Rj_istore_n (q := 23) (ls' := [vA 67, vI r, vI w, vI 1]) d_Ge_gather_22 rfl rfl (by decide) rfl ?_
  refine Rj_iconst (q := 24) d_Ge_gather_23 rfl ?_
  refine Rj_istore (q := 26) (ls' := [vA 67, vI r, vI w, vI 1, vI 0]) d_Ge_gather_24 rfl (by decide) rfl ?_
  have hR := HI_root hS hH hr.1 hr.2 hlr
  have hl1 : ((mset (mset (mset μ 68 r r) 69 r 1) 70 r 1)) 68 = fset (μ 68) r r := by simp [mset_fs, mset_nc]
  refine s_gather_67_26 (μ := (mset (mset (mset μ 68 r r) 69 r 1) 70 r 1)) _ (Nat.lt_succ_self _) hS (hG.g67 (Fr.put (Fr.put (Fr.put (Fr.refl _ _) (by simp [Wg67])) (by simp [Wg67])) (by simp [Wg67]))) (by simpa [mset_fs, mset_nc] using hR) hr hw ⟨by decide, by decide⟩ (Or.inl ⟨rfl, ?_⟩) (fun m f h k => ?_)
  · rw [hl1]
    have h1 := una_lt (lo := μ 68) (t := r) (r := r) (by omega) (by omega) hr.1
    have h2 : una (μ 68) ≤ 12 := cntB_max _ 12
    omega
  · rw [hl1] at k
    refine hk m (Fr.trans (Fr.put (Fr.put (Fr.put (Fr.refl _ _) (by simp [Wg67])) (by simp [Wg67])) (by simp [Wg67])) f) h (fun y hy => ?_) ?_
    · have e : y ≠ r := fun q => by rw [q] at hy; omega
      have := k y (by rw [fset_ne _ e]; exact hy)
      rw [fset_ne _ e] at this; exact this
    · have := k r (by rw [fset_same]; exact hr.1)
      rw [fset_same] at this; exact this
set_option maxHeartbeats 4000000 in
theorem s_setOf_67 {μ : Mem} {Q : PV → Mem → Prop} {S : Int → Int} {x : Int} (hS : StrOK S) (hG : GS μ S) (hx : 0 ≤ x ∧ x < S 0) (hlo : ∀ y, 0 ≤ y → y < S 0 → -1 ≤ μ 68 y ∧ μ 68 y < 12) (hQ : ∀ s, (0 ≤ s ∧ s < 4096) → (∀ k, 0 ≤ k → (zbit s k = 1 ↔ k < S 0 ∧ μ 68 k = μ 68 x)) → Q (vI s) μ) : Rj YD y_Ge_setOf 0 [vA 67, vI x] [] μ Q := by
  refine Rj_iconst (q := 1) d_Ge_setOf_0 rfl ?_
  refine Rj_istore_n (q := 2) (ls' := [vA 67, vI x, vI 0]) d_Ge_setOf_1 rfl rfl (by decide) rfl ?_
  refine Rj_iconst (q := 3) d_Ge_setOf_2 rfl ?_
  refine Rj_istore_n (q := 4) (ls' := [vA 67, vI x, vI 0, vI 0]) d_Ge_setOf_3 rfl rfl (by decide) rfl ?_
  exact s_setOf_67_l _ (Nat.lt_succ_self _) hS hG hx hlo (show 0 ≤ (0 : Int) ∧ (0 : Int) ≤ S 0 from ⟨by decide, hS.1.1⟩) ⟨by decide, fun k hk => by rw [zbit_0]; exact ⟨fun q => absurd q (by decide), fun q => by omega⟩⟩ hQ
