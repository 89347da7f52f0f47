theorem gD_Cu_20_66 : GI YD "DoorsOnCogs$Cutter" 20 66 1 (some (some 67)) := ⟨by decide, _, _, _, fl_Cu_20, cD_66, by decide, rfl⟩
theorem oD_67_Ge_hang : OI YD 67 y_Ge_hang := ⟨by decide, _, _, _, cD_67, rfl⟩
theorem gD_Cu_28_66 : GI YD "DoorsOnCogs$Cutter" 28 66 3 none := ⟨by decide, _, _, _, fl_Cu_28, cD_66, by decide, rfl⟩
theorem gD_Cu_56_67 : GI YD "DoorsOnCogs$Cutter" 56 67 1 (some (some 68)) := ⟨by decide, _, _, _, fl_Cu_56, cD_67, by decide, rfl⟩
theorem gD_Cu_24_66 : GI YD "DoorsOnCogs$Cutter" 24 66 2 none := ⟨by decide, _, _, _, fl_Cu_24, cD_66, by decide, rfl⟩
theorem gD_Cu_49_67 : GI YD "DoorsOnCogs$Cutter" 49 67 7 none := ⟨by decide, _, _, _, fl_Cu_49, cD_67, by decide, rfl⟩
theorem oD_66_Cu_isEnough : OI YD 66 y_Cu_isEnough := ⟨by decide, _, _, _, cD_66, rfl⟩
theorem pD_Cu_24_66 : PI YD "DoorsOnCogs$Cutter" 24 66 2 none .int := ⟨by decide, _, _, _, fl_Cu_24, fp_0_2, cD_66, by decide, rfl⟩
theorem pD_Cu_28_66 : PI YD "DoorsOnCogs$Cutter" 28 66 3 none .int := ⟨by decide, _, _, _, fl_Cu_28, fp_0_3, cD_66, by decide, rfl⟩
theorem gD_Cu_9_66 : GI YD "DoorsOnCogs$Cutter" 9 66 0 (some (some 3)) := ⟨by decide, _, _, _, fl_Cu_9, cD_66, by decide, rfl⟩
theorem gD_Cu_31_3 : GI YD "DoorsOnCogs$Cutter" 31 3 4 none := ⟨by decide, _, _, _, fl_Cu_31, cD_3, by decide, rfl⟩
/-! the class looks for the fewest joins to cut -/
set_option maxHeartbeats 4000000 in
theorem s_nextOfSize {μ : Mem} {Q : PV → Mem → Prop} {s : Int} (h0 : z_and s (-s) ≠ 0) (hQ : Q (vI (nxG s)) μ) : Rj YD y_Cu_nextOfSize 0 [vI s] [] μ Q := by
  refine Rj_iload_n (q := 1) d_Cu_nextOfSize_0 rfl rfl rfl ?_
  refine Rj_iload_n (q := 2) d_Cu_nextOfSize_1 rfl rfl rfl ?_
  refine Rj_ineg (q := 3) d_Cu_nextOfSize_2 rfl ?_
  refine Rj_iand (q := 4) (z := z_and s (-s)) d_Cu_nextOfSize_3 rfl rfl ?_
  refine Rj_istore_n (q := 5) (ls' := [vI s, vI (z_and s (-s))]) d_Cu_nextOfSize_4 rfl rfl (by decide) rfl ?_
  refine Rj_iload_n (q := 6) d_Cu_nextOfSize_5 rfl rfl rfl ?_
  refine Rj_if_ne (q := 9) (t := 12) d_Cu_nextOfSize_6 rfl (by decide) (t32 _) (fun c6 => ?_) (fun c6 => ?_)
  · refine Rj_iload_n (q := 13) d_Cu_nextOfSize_12 rfl rfl rfl ?_
    refine Rj_iload_n (q := 14) d_Cu_nextOfSize_13 rfl rfl rfl ?_
    refine Rj_iadd (q := 15) d_Cu_nextOfSize_14 rfl ?_
    refine Rj_istore_n (q := 16) (ls' := [vI s, vI (z_and s (-s)), vI (s + (z_and s (-s)))]) d_Cu_nextOfSize_15 rfl rfl (by decide) rfl ?_
    refine Rj_iload_n (q := 17) d_Cu_nextOfSize_16 rfl rfl rfl ?_
    refine Rj_iload_n (q := 18) d_Cu_nextOfSize_17 rfl rfl rfl ?_
    refine Rj_iload_n (q := 19) d_Cu_nextOfSize_18 rfl rfl rfl ?_
    refine Rj_ixor (q := 20) (z := z_xor s (s + (z_and s (-s)))) d_Cu_nextOfSize_19 rfl rfl ?_
    refine Rj_iconst (q := 21) d_Cu_nextOfSize_20 rfl ?_
    refine Rj_iushr (q := 22) (z := z_ush (z_xor s (s + (z_and s (-s)))) 2) d_Cu_nextOfSize_21 rfl rfl ?_
    refine Rj_iload_n (q := 23) d_Cu_nextOfSize_22 rfl rfl rfl ?_
    refine Rj_idiv (q := 24) d_Cu_nextOfSize_23 rfl (t32 _) (t32 _) (by omega) ?_
    refine Rj_ior (q := 25) (z := z_or (s + (z_and s (-s))) ((z_ush (z_xor s (s + (z_and s (-s)))) 2).tdiv (z_and s (-s)))) d_Cu_nextOfSize_24 rfl rfl ?_
    refine Rj_iret d_Cu_nextOfSize_25 rfl ?_
    exact hQ
  · exact absurd c6 h0
set_option maxHeartbeats 4000000 in
theorem s_isEnough {μ : Mem} {Q : PV → Mem → Prop} {S : Int → Int} {x y w : Int} (hS : StrOK S) (hG : GS μ S) (h66 : μ 66 2 = x ∧ μ 66 3 = y) (hx : 0 ≤ x ∧ x < S 0) (hy : -1 ≤ y ∧ y < S 0) (hw : 0 ≤ w ∧ w ≤ 65535) (h1 : Enf S x y w → ∀ μ', Fr Wh67 μ μ' → Q (vI 1) μ') (h0 : ¬ Enf S x y w → ∀ μ', Fr Wh67 μ μ' → Q (vI 0) μ') : Rj YD y_Cu_isEnough 0 [vA 66, vI w] [] μ Q := by
  refine Rj_aload_n (q := 1) d_Cu_isEnough_0 rfl rfl rfl ?_
  refine Rj_gr (q := 4) (zd := 67) gD_Cu_20_66 rfl rfl d_Cu_isEnough_1 rfl ?_
  refine Rj_iload_n (q := 5) d_Cu_isEnough_4 rfl rfl rfl ?_
  refine Rj_vov (q := 8) (z := y_Ge_hang) (as := [vI w]) (rest := []) (la := [vA 67, vI w]) oD_67_Ge_hang ml_Cu_45 mw_Ge_hang mv_Ge_hang rfl d_Cu_isEnough_5 rfl rfl rfl rfl rfl ?_
  refine s_hang_67 hS hG hw (fun m f q1 q2 q3 q4 => ?_)
  obtain ⟨a1, a2, -⟩ := id q1
  have ex := a1 x hx.1 hx.2
  have zb := zbit_01 (m 67 7) x
  have e2 : m 66 2 = x := (f 66 2 (by unfold Wh67; omega)).trans h66.1
  have e3 : m 66 3 = y := (f 66 3 (by unfold Wh67; omega)).trans h66.2
  have hz := hS.1
  have hE := Enf_iff hS q1 hx hy.2
  refine Rj_aload_n (q := 9) d_Cu_isEnough_8 rfl rfl rfl ?_
  refine Rj_gi (q := 12) (ki := 3) (v := y) gD_Cu_28_66 rfl rfl e3 d_Cu_isEnough_9 rfl ?_
  refine Rj_iconst (q := 13) d_Cu_isEnough_12 rfl ?_
  refine Rj_icmp_ne (q := 16) (t := 39) d_Cu_isEnough_13 rfl (by decide) ⟨by omega, by omega⟩ (by decide) (fun c13 => ?_) (fun c13 => ?_)
  · rw [if_neg (by omega)] at hE
    have ey := a1 y (by omega) hy.2
    refine Rj_aload_n (q := 40) d_Cu_isEnough_39 rfl rfl rfl ?_
    refine Rj_gr (q := 43) (zd := 67) gD_Cu_20_66 rfl rfl d_Cu_isEnough_40 rfl ?_
    refine Rj_gr (q := 46) (zd := 68) gD_Cu_56_67 rfl rfl d_Cu_isEnough_43 rfl ?_
    refine Rj_aload_n (q := 47) d_Cu_isEnough_46 rfl rfl rfl ?_
    refine Rj_gi (q := 50) (ki := 2) (v := x) gD_Cu_24_66 rfl rfl e2 d_Cu_isEnough_47 rfl ?_
    refine Rj_ia (q := 51) (v := m 68 x) aD_68 rfl (by omega) rfl d_Cu_isEnough_50 rfl ?_
    refine Rj_aload_n (q := 52) d_Cu_isEnough_51 rfl rfl rfl ?_
    refine Rj_gr (q := 55) (zd := 67) gD_Cu_20_66 rfl rfl d_Cu_isEnough_52 rfl ?_
    refine Rj_gr (q := 58) (zd := 68) gD_Cu_56_67 rfl rfl d_Cu_isEnough_55 rfl ?_
    refine Rj_aload_n (q := 59) d_Cu_isEnough_58 rfl rfl rfl ?_
    refine Rj_gi (q := 62) (ki := 3) (v := y) gD_Cu_28_66 rfl rfl e3 d_Cu_isEnough_59 rfl ?_
    refine Rj_ia (q := 63) (v := m 68 y) aD_68 rfl (by omega) rfl d_Cu_isEnough_62 rfl ?_
    refine Rj_icmp_eq (q := 66) (t := 70) d_Cu_isEnough_63 rfl (by decide) ⟨by omega, by omega⟩ ⟨by omega, by omega⟩ (fun c63 => ?_) (fun c63 => ?_)
    · refine Rj_iconst (q := 71) d_Cu_isEnough_70 rfl ?_
      refine Rj_bret0 d_Cu_isEnough_71 rfl ?_
      exact h0 (fun q => by have q := hE.mp q; first | (exact q ((q4 x hx.1).mp (by omega)).2) | (exact q (by omega))) m f
    · refine Rj_iconst (q := 67) d_Cu_isEnough_66 rfl ?_
      refine Rj_goto (t := 71) d_Cu_isEnough_67 (by decide) ?_
      refine Rj_bret1 d_Cu_isEnough_71 rfl ?_
      exact h1 (hE.mpr (by first | (intro q; have := (q4 x hx.1).mpr ⟨hx.2, q⟩; omega) | (intro q; omega))) m f
  · rw [if_pos (by omega)] at hE
    refine Rj_aload_n (q := 17) d_Cu_isEnough_16 rfl rfl rfl ?_
    refine Rj_gr (q := 20) (zd := 67) gD_Cu_20_66 rfl rfl d_Cu_isEnough_17 rfl ?_
    refine Rj_gi (q := 23) (ki := 7) (v := m 67 7) gD_Cu_49_67 rfl rfl rfl d_Cu_isEnough_20 rfl ?_
    refine Rj_aload_n (q := 24) d_Cu_isEnough_23 rfl rfl rfl ?_
    refine Rj_gi (q := 27) (ki := 2) (v := x) gD_Cu_24_66 rfl rfl e2 d_Cu_isEnough_24 rfl ?_
    refine Rj_cs (q := 30) (z := y_D_bitOf) (as := [vI (m 67 7), vI x]) (rest := []) (la := [vI (m 67 7), vI x]) ml_Cu_52 mw_D_bitOf ms_D_bitOf d_Cu_isEnough_27 rfl rfl rfl rfl rfl ?_
    refine s_D_bitOf (by omega) (by omega) ?_
    refine Rj_if_ne (q := 33) (t := 37) d_Cu_isEnough_30 rfl (by decide) ⟨by omega, by omega⟩ (fun c30 => ?_) (fun c30 => ?_)
    · refine Rj_iconst (q := 38) d_Cu_isEnough_37 rfl ?_
      refine Rj_bret0 d_Cu_isEnough_38 rfl ?_
      exact h0 (fun q => by have q := hE.mp q; first | (exact q ((q4 x hx.1).mp (by omega)).2) | (exact q (by omega))) m f
    · refine Rj_iconst (q := 34) d_Cu_isEnough_33 rfl ?_
      refine Rj_goto (t := 38) d_Cu_isEnough_34 (by decide) ?_
      refine Rj_bret1 d_Cu_isEnough_38 rfl ?_
      exact h1 (hE.mpr (by first | (intro q; have := (q4 x hx.1).mpr ⟨hx.2, q⟩; omega) | (intro q; omega))) m f
theorem nxL_lt : ∀ {L : List Int} {a : Int}, nxL (a :: L) = true → ∀ b ∈ L, a < b
  | [], a, _, b, hb => by cases hb
  | c :: t, a, h, b, hb => by
    unfold nxL at h
    simp only [Bool.and_eq_true, decide_eq_true_eq] at h
    rcases List.mem_cons.mp hb with q | q
    · rw [q]; exact h.2.2.1
    · exact Int.lt_trans h.2.2.1 (nxL_lt h.2.2.2 b q)
set_option maxHeartbeats 4000000 in
theorem s_fewest_40 : ∀ (L : List Int) {μ : Mem} {Q : PV → Mem → Prop} {S : Int → Int} {x y a k j : Int}, nxL (a :: L) = true → StrOK S → GS μ S → (μ 66 2 = x ∧ μ 66 3 = y) → (0 ≤ x ∧ x < S 0) → (-1 ≤ y ∧ y < S 0) → (0 < a ∧ a < 1000000) → (0 ≤ j ∧ j + ((L.length : Nat) : Int) ≤ 560) →
    (∀ v, v ∈ a :: L → v < 2 ^ (S 1).toNat → Enf S x y v → (∀ z, z ∈ a :: L → z < v → ¬ Enf S x y z) → ∀ μ', Fr Wh67 μ μ' → Q (vI v) μ') →
    ((∀ v, v ∈ a :: L → v < 2 ^ (S 1).toNat → ¬ Enf S x y v) → ∀ μ', Fr Wh67 μ μ' → Rj YD y_Cu_fewest 79 [vA 66, vI x, vI y, vI (2 ^ (S 1).toNat), vI k] [] μ' Q) →
    (∀ v ∈ L, 0 < v ∧ v < 1000000) →
    Rj YD y_Cu_fewest 40 [vA 66, vI x, vI y, vI (2 ^ (S 1).toNat), vI k, vI a, vI j] [] μ Q := by
  intro L
  induction L with
  | nil =>
    intro μ Q S x y a k j hL hS hG h66 hx hy ha hj h1 h2 hr
    have hJ := hS.2.1
    have hp := p16 hJ.2
    unfold nxL at hL
    have hL := of_decide_eq_true hL
    refine Rj_iload (q := 42) d_Cu_fewest_40 rfl rfl ?_
    refine Rj_sipush (q := 45) d_Cu_fewest_42 rfl (by decide +kernel) ?_
    refine Rj_icmp_ge (q := 48) (t := 79) d_Cu_fewest_45 rfl (by decide) (by first | exact ⟨by omega, by omega⟩ | decide) (by decide) (fun c45 => ?_) (fun c45 => ?_)
    · refine Rj_pre (ls' := [vA 66, vI x, vI y, vI (2 ^ (S 1).toNat), vI k]) (t := [vI a, vI j]) rfl ?_
      refine h2 (fun v hv hl => ?_) μ (Fr.refl _ _)
      rcases List.mem_cons.mp hv with q | q
      · omega
      · cases q
    · refine Rj_iload (q := 50) d_Cu_fewest_48 rfl rfl ?_
      refine Rj_iload_n (q := 51) d_Cu_fewest_50 rfl rfl rfl ?_
      refine Rj_icmp_ge (q := 54) (t := 79) d_Cu_fewest_51 rfl (by decide) (by first | exact ⟨by omega, by omega⟩ | decide) (by first | exact ⟨by omega, by omega⟩ | decide) (fun c51 => ?_) (fun c51 => ?_)
      · refine Rj_pre (ls' := [vA 66, vI x, vI y, vI (2 ^ (S 1).toNat), vI k]) (t := [vI a, vI j]) rfl ?_
        refine h2 (fun v hv hl => ?_) μ (Fr.refl _ _)
        rcases List.mem_cons.mp hv with q | q
        · omega
        · cases q
      · exact absurd c51 (by omega)
  | cons b t ih =>
    intro μ Q S x y a k j hL hS hG h66 hx hy ha hj h1 h2 hr
    have hJ := hS.2.1
    have hp := p16 hJ.2
    have hl2 := nxL_lt hL
    rw [List.length_cons] at hj
    have hL0 := hL
    unfold nxL at hL
    simp only [Bool.and_eq_true, decide_eq_true_eq] at hL
    obtain ⟨hnz, hnx, hab, ht⟩ := hL
    refine Rj_iload (q := 42) d_Cu_fewest_40 rfl rfl ?_
    refine Rj_sipush (q := 45) d_Cu_fewest_42 rfl (by decide +kernel) ?_
    refine Rj_icmp_ge (q := 48) (t := 79) d_Cu_fewest_45 rfl (by decide) (by first | exact ⟨by omega, by omega⟩ | decide) (by decide) (fun c45 => ?_) (fun c45 => ?_)
    · exact absurd c45 (by omega)
    · refine Rj_iload (q := 50) d_Cu_fewest_48 rfl rfl ?_
      refine Rj_iload_n (q := 51) d_Cu_fewest_50 rfl rfl rfl ?_
      refine Rj_icmp_ge (q := 54) (t := 79) d_Cu_fewest_51 rfl (by decide) (by first | exact ⟨by omega, by omega⟩ | decide) (by first | exact ⟨by omega, by omega⟩ | decide) (fun c51 => ?_) (fun c51 => ?_)
      · refine Rj_pre (ls' := [vA 66, vI x, vI y, vI (2 ^ (S 1).toNat), vI k]) (t := [vI a, vI j]) rfl ?_
        refine h2 (fun v hv hl => ?_) μ (Fr.refl _ _)
        rcases List.mem_cons.mp hv with q | q
        · omega
        · have := hl2 v q; omega
      · refine Rj_aload_n (q := 55) d_Cu_fewest_54 rfl rfl rfl ?_
        refine Rj_iload (q := 57) d_Cu_fewest_55 rfl rfl ?_
        refine Rj_vo (q := 60) (z := y_Cu_isEnough) (as := [vI a]) (rest := []) (la := [vA 66, vI a]) oD_66_Cu_isEnough ml_Cu_36 mw_Cu_isEnough mv_Cu_isEnough rfl d_Cu_fewest_57 rfl rfl rfl rfl rfl ?_
        refine s_isEnough hS hG h66 hx hy (by omega) (fun q57 m57 f57 => ?_) (fun q57 m57 f57 => ?_)
        · have z57 := True.intro
          refine Rj_if_eq (q := 63) (t := 66) d_Cu_fewest_60 rfl (by decide) (by decide) (fun c => absurd c (by decide)) (fun _ => ?_)
          refine Rj_iload (q := 65) d_Cu_fewest_63 rfl rfl ?_
          refine Rj_iret d_Cu_fewest_65 rfl ?_
          refine h1 a (List.mem_cons_self) c51 q57 (fun z hz hlt => ?_) m57 f57
          rcases List.mem_cons.mp hz with q | q
          · omega
          · have := hl2 z q; omega
        · have z57 := True.intro
          refine Rj_if_eq (q := 63) (t := 66) d_Cu_fewest_60 rfl (by decide) (by decide) (fun _ => ?_) (fun c => absurd c (by decide))
          refine Rj_iload (q := 68) d_Cu_fewest_66 rfl rfl ?_
          refine Rj_cs (q := 71) (z := y_Cu_nextOfSize) (as := [vI a]) (rest := []) (la := [vI a]) ml_Cu_40 mw_Cu_nextOfSize ms_Cu_nextOfSize d_Cu_fewest_68 rfl rfl rfl rfl rfl ?_
          refine s_nextOfSize hnz ?_
          rw [hnx]
          refine Rj_istore (q := 73) (ls' := [vA 66, vI x, vI y, vI (2 ^ (S 1).toNat), vI k, vI b, vI j]) d_Cu_fewest_71 rfl (by decide) rfl ?_
          refine Rj_iinc (q := 76) (ls' := [vA 66, vI x, vI y, vI (2 ^ (S 1).toNat), vI k, vI b, vI (j + 1)]) d_Cu_fewest_73 rfl rfl (by decide) rfl ?_
          refine Rj_goto (t := 40) d_Cu_fewest_76 (by decide) ?_
          have hb := hr b (List.mem_cons_self)
          refine ih ht hS (hG.h67 f57) ⟨(f57 66 2 (by unfold Wh67; omega)).trans h66.1, (f57 66 3 (by unfold Wh67; omega)).trans h66.2⟩ hx hy hb ⟨by omega, by omega⟩ (fun v hv hl he hz m2 f2 => ?_) (fun hv m2 f2 => ?_) (fun v hv => hr v (List.mem_cons_of_mem _ hv))
          · refine h1 v (List.mem_cons_of_mem _ hv) hl he (fun z hz2 hlt => ?_) m2 (f57.trans f2)
            rcases List.mem_cons.mp hz2 with q | q
            · rw [q]; exact q57
            · exact hz z q hlt
          · refine h2 (fun v hv2 hl => ?_) m2 (f57.trans f2)
            rcases List.mem_cons.mp hv2 with q | q
            · rw [q]; exact q57
            · exact hv v q hl
set_option maxRecDepth 100000 in
theorem rg_1 : ∀ v ∈ gL1, 0 < v ∧ v < 1000000 := by decide +kernel
set_option maxRecDepth 100000 in
theorem rg_2 : ∀ v ∈ gL2, 0 < v ∧ v < 1000000 := by decide +kernel
set_option maxRecDepth 100000 in
theorem rg_3 : ∀ v ∈ gL3, 0 < v ∧ v < 1000000 := by decide +kernel
set_option maxHeartbeats 4000000 in
theorem s_few_4 {μ : Mem} {Q : PV → Mem → Prop} {S : Int → Int} {x y : Int} (hS : StrOK S) (hG : GS μ S) (h66 : μ 66 2 = x ∧ μ 66 3 = y) (hx : 0 ≤ x ∧ x < S 0) (hy : -1 ≤ y ∧ y < S 0) (hpv : ∀ w, 0 < w → w < 2 ^ (S 1).toNat → pcn w < 4 → ¬ Enf S x y w) (hQ : ∀ r μ', Fr Wh67 μ μ' → FW S x y r → Q (vI r) μ') : Rj YD y_Cu_fewest 23 [vA 66, vI x, vI y, vI (2 ^ (S 1).toNat), vI 4] [] μ Q := by
  refine Rj_iload (q := 25) d_Cu_fewest_23 rfl rfl ?_
  refine Rj_iconst (q := 26) d_Cu_fewest_25 rfl ?_
  refine Rj_icmp_gt (q := 29) (t := 85) d_Cu_fewest_26 rfl (by decide) (by decide) (by decide) (fun _ => ?_) (fun c => absurd c (by decide))
  refine Rj_bipush (q := 87) d_Cu_fewest_85 rfl (by decide +kernel) ?_
  refine Rj_iret d_Cu_fewest_87 rfl ?_
  exact hQ (-2) μ (Fr.refl _ _) (Or.inl ⟨rfl, fun w w0 w1 w2 => hpv w w0 w1 (by omega)⟩)
set_option maxHeartbeats 4000000 in
theorem s_few_3 {μ : Mem} {Q : PV → Mem → Prop} {S : Int → Int} {x y : Int} (hS : StrOK S) (hG : GS μ S) (h66 : μ 66 2 = x ∧ μ 66 3 = y) (hx : 0 ≤ x ∧ x < S 0) (hy : -1 ≤ y ∧ y < S 0) (hpv : ∀ w, 0 < w → w < 2 ^ (S 1).toNat → pcn w < 3 → ¬ Enf S x y w) (hQ : ∀ r μ', Fr Wh67 μ μ' → FW S x y r → Q (vI r) μ') : Rj YD y_Cu_fewest 23 [vA 66, vI x, vI y, vI (2 ^ (S 1).toNat), vI 3] [] μ Q := by
  have hJ := hS.2.1
  have hp := p16 hJ.2
  refine Rj_iload (q := 25) d_Cu_fewest_23 rfl rfl ?_
  refine Rj_iconst (q := 26) d_Cu_fewest_25 rfl ?_
  refine Rj_icmp_gt (q := 29) (t := 85) d_Cu_fewest_26 rfl (by decide) (by decide) (by decide) (fun c => absurd c (by decide)) (fun _ => ?_)
  refine Rj_iconst (q := 30) d_Cu_fewest_29 rfl ?_
  refine Rj_iload (q := 32) d_Cu_fewest_30 rfl rfl ?_
  refine Rj_ishl (q := 33) (z := 8) d_Cu_fewest_32 rfl (by decide) ?_
  refine Rj_iconst (q := 34) d_Cu_fewest_33 rfl ?_
  refine Rj_isub (q := 35) d_Cu_fewest_34 rfl ?_
  rw [show (8 - 1 : Int) = 7 from rfl]
  refine Rj_istore (q := 37) (ls' := [vA 66, vI x, vI y, vI (2 ^ (S 1).toNat), vI 3, vI 7]) d_Cu_fewest_35 rfl (by decide) rfl ?_
  refine Rj_iconst (q := 38) d_Cu_fewest_37 rfl ?_
  refine Rj_istore (q := 40) (ls' := [vA 66, vI x, vI y, vI (2 ^ (S 1).toNat), vI 3, vI 7, vI 0]) d_Cu_fewest_38 rfl (by decide) rfl ?_
  refine s_fewest_40 gL3.tail (a := 7) nxL_3 hS hG h66 hx hy (by decide) (by decide +kernel) (fun v hv hl he hz m f => ?_) (fun hv m f => ?_) (fun v hv => rg_3 v (List.mem_cons_of_mem _ hv))
  · have pv := pc_3 v hv
    have pv2 := pv.2 (by omega)
    refine hQ v m f (Or.inr ⟨⟨pv.1, hl⟩, by omega, he, fun w w0 w1 hq => ?_⟩)
    rcases hq with q | q
    · exact hpv w w0 w1 (by omega)
    · exact hz w (al_3 w0 (by omega) (by omega)) q.2
  · refine Rj_iinc (q := 82) (ls' := [vA 66, vI x, vI y, vI (2 ^ (S 1).toNat), vI 4]) d_Cu_fewest_79 rfl rfl (by decide) rfl ?_
    refine Rj_goto (t := 23) d_Cu_fewest_82 (by decide) ?_
    refine s_few_4 hS (hG.h67 f) ⟨(f 66 2 (by unfold Wh67; omega)).trans h66.1, (f 66 3 (by unfold Wh67; omega)).trans h66.2⟩ hx hy (fun w w0 w1 w2 => ?_) (fun r m2 f2 => hQ r m2 (f.trans f2))
    by_cases e : pcn w < 3
    · exact hpv w w0 w1 e
    · exact hv w (al_3 w0 (by omega) (by omega)) w1
set_option maxHeartbeats 4000000 in
theorem s_few_2 {μ : Mem} {Q : PV → Mem → Prop} {S : Int → Int} {x y : Int} (hS : StrOK S) (hG : GS μ S) (h66 : μ 66 2 = x ∧ μ 66 3 = y) (hx : 0 ≤ x ∧ x < S 0) (hy : -1 ≤ y ∧ y < S 0) (hpv : ∀ w, 0 < w → w < 2 ^ (S 1).toNat → pcn w < 2 → ¬ Enf S x y w) (hQ : ∀ r μ', Fr Wh67 μ μ' → FW S x y r → Q (vI r) μ') : Rj YD y_Cu_fewest 23 [vA 66, vI x, vI y, vI (2 ^ (S 1).toNat), vI 2] [] μ Q := by
  have hJ := hS.2.1
  have hp := p16 hJ.2
  refine Rj_iload (q := 25) d_Cu_fewest_23 rfl rfl ?_
  refine Rj_iconst (q := 26) d_Cu_fewest_25 rfl ?_
  refine Rj_icmp_gt (q := 29) (t := 85) d_Cu_fewest_26 rfl (by decide) (by decide) (by decide) (fun c => absurd c (by decide)) (fun _ => ?_)
  refine Rj_iconst (q := 30) d_Cu_fewest_29 rfl ?_
  refine Rj_iload (q := 32) d_Cu_fewest_30 rfl rfl ?_
  refine Rj_ishl (q := 33) (z := 4) d_Cu_fewest_32 rfl (by decide) ?_
  refine Rj_iconst (q := 34) d_Cu_fewest_33 rfl ?_
  refine Rj_isub (q := 35) d_Cu_fewest_34 rfl ?_
  rw [show (4 - 1 : Int) = 3 from rfl]
  refine Rj_istore (q := 37) (ls' := [vA 66, vI x, vI y, vI (2 ^ (S 1).toNat), vI 2, vI 3]) d_Cu_fewest_35 rfl (by decide) rfl ?_
  refine Rj_iconst (q := 38) d_Cu_fewest_37 rfl ?_
  refine Rj_istore (q := 40) (ls' := [vA 66, vI x, vI y, vI (2 ^ (S 1).toNat), vI 2, vI 3, vI 0]) d_Cu_fewest_38 rfl (by decide) rfl ?_
  refine s_fewest_40 gL2.tail (a := 3) nxL_2 hS hG h66 hx hy (by decide) (by decide +kernel) (fun v hv hl he hz m f => ?_) (fun hv m f => ?_) (fun v hv => rg_2 v (List.mem_cons_of_mem _ hv))
  · have pv := pc_2 v hv
    have pv2 := pv.2 (by omega)
    refine hQ v m f (Or.inr ⟨⟨pv.1, hl⟩, by omega, he, fun w w0 w1 hq => ?_⟩)
    rcases hq with q | q
    · exact hpv w w0 w1 (by omega)
    · exact hz w (al_2 w0 (by omega) (by omega)) q.2
  · refine Rj_iinc (q := 82) (ls' := [vA 66, vI x, vI y, vI (2 ^ (S 1).toNat), vI 3]) d_Cu_fewest_79 rfl rfl (by decide) rfl ?_
    refine Rj_goto (t := 23) d_Cu_fewest_82 (by decide) ?_
    refine s_few_3 hS (hG.h67 f) ⟨(f 66 2 (by unfold Wh67; omega)).trans h66.1, (f 66 3 (by unfold Wh67; omega)).trans h66.2⟩ hx hy (fun w w0 w1 w2 => ?_) (fun r m2 f2 => hQ r m2 (f.trans f2))
    by_cases e : pcn w < 2
    · exact hpv w w0 w1 e
    · exact hv w (al_2 w0 (by omega) (by omega)) w1
set_option maxHeartbeats 4000000 in
theorem s_few_1 {μ : Mem} {Q : PV → Mem → Prop} {S : Int → Int} {x y : Int} (hS : StrOK S) (hG : GS μ S) (h66 : μ 66 2 = x ∧ μ 66 3 = y) (hx : 0 ≤ x ∧ x < S 0) (hy : -1 ≤ y ∧ y < S 0) (hpv : ∀ w, 0 < w → w < 2 ^ (S 1).toNat → pcn w < 1 → ¬ Enf S x y w) (hQ : ∀ r μ', Fr Wh67 μ μ' → FW S x y r → Q (vI r) μ') : Rj YD y_Cu_fewest 23 [vA 66, vI x, vI y, vI (2 ^ (S 1).toNat), vI 1] [] μ Q := by
  have hJ := hS.2.1
  have hp := p16 hJ.2
  refine Rj_iload (q := 25) d_Cu_fewest_23 rfl rfl ?_
  refine Rj_iconst (q := 26) d_Cu_fewest_25 rfl ?_
  refine Rj_icmp_gt (q := 29) (t := 85) d_Cu_fewest_26 rfl (by decide) (by decide) (by decide) (fun c => absurd c (by decide)) (fun _ => ?_)
  refine Rj_iconst (q := 30) d_Cu_fewest_29 rfl ?_
  refine Rj_iload (q := 32) d_Cu_fewest_30 rfl rfl ?_
  refine Rj_ishl (q := 33) (z := 2) d_Cu_fewest_32 rfl (by decide) ?_
  refine Rj_iconst (q := 34) d_Cu_fewest_33 rfl ?_
  refine Rj_isub (q := 35) d_Cu_fewest_34 rfl ?_
  rw [show (2 - 1 : Int) = 1 from rfl]
  refine Rj_istore (q := 37) (ls' := [vA 66, vI x, vI y, vI (2 ^ (S 1).toNat), vI 1, vI 1]) d_Cu_fewest_35 rfl (by decide) rfl ?_
  refine Rj_iconst (q := 38) d_Cu_fewest_37 rfl ?_
  refine Rj_istore (q := 40) (ls' := [vA 66, vI x, vI y, vI (2 ^ (S 1).toNat), vI 1, vI 1, vI 0]) d_Cu_fewest_38 rfl (by decide) rfl ?_
  refine s_fewest_40 gL1.tail (a := 1) nxL_1 hS hG h66 hx hy (by decide) (by decide +kernel) (fun v hv hl he hz m f => ?_) (fun hv m f => ?_) (fun v hv => rg_1 v (List.mem_cons_of_mem _ hv))
  · have pv := pc_1 v hv
    have pv2 := pv.2 (by omega)
    refine hQ v m f (Or.inr ⟨⟨pv.1, hl⟩, by omega, he, fun w w0 w1 hq => ?_⟩)
    rcases hq with q | q
    · exact hpv w w0 w1 (by omega)
    · exact hz w (al_1 w0 (by omega) (by omega)) q.2
  · refine Rj_iinc (q := 82) (ls' := [vA 66, vI x, vI y, vI (2 ^ (S 1).toNat), vI 2]) d_Cu_fewest_79 rfl rfl (by decide) rfl ?_
    refine Rj_goto (t := 23) d_Cu_fewest_82 (by decide) ?_
    refine s_few_2 hS (hG.h67 f) ⟨(f 66 2 (by unfold Wh67; omega)).trans h66.1, (f 66 3 (by unfold Wh67; omega)).trans h66.2⟩ hx hy (fun w w0 w1 w2 => ?_) (fun r m2 f2 => hQ r m2 (f.trans f2))
    by_cases e : pcn w < 1
    · exact hpv w w0 w1 e
    · exact hv w (al_1 w0 (by omega) (by omega)) w1
abbrev Wcu (c : Nat) (i : Int) : Prop := (c = 66 ∧ (i = 2 ∨ i = 3)) ∨ (67 ≤ c ∧ c ≤ 73)
set_option maxHeartbeats 4000000 in
theorem s_fewest {μ : Mem} {Q : PV → Mem → Prop} {S : Int → Int} {x y : Int} (hS : StrOK S) (hG : GS μ S) (hx : 0 ≤ x ∧ x < S 0) (hy : -1 ≤ y ∧ y < S 0) (hQ : ∀ r μ', Fr Wcu μ μ' → FW S x y r → Q (vI r) μ') : Rj YD y_Cu_fewest 0 [vA 66, vI x, vI y] [] μ Q := by
  have hJ := hS.2.1
  obtain ⟨G0, G1, G4, G6⟩ := id hG
  refine Rj_aload_n (q := 1) d_Cu_fewest_0 rfl rfl rfl ?_
  refine Rj_iload_n (q := 2) d_Cu_fewest_1 rfl rfl rfl ?_
  refine Rj_pi (q := 5) (ki := 2) pD_Cu_24_66 rfl rfl d_Cu_fewest_2 rfl ?_
  refine Rj_aload_n (q := 6) d_Cu_fewest_5 rfl rfl rfl ?_
  refine Rj_iload_n (q := 7) d_Cu_fewest_6 rfl rfl rfl ?_
  refine Rj_pi (q := 10) (ki := 3) pD_Cu_28_66 rfl rfl d_Cu_fewest_7 rfl ?_
  refine Rj_iconst (q := 11) d_Cu_fewest_10 rfl ?_
  refine Rj_aload_n (q := 12) d_Cu_fewest_11 rfl rfl rfl ?_
  refine Rj_gr (q := 15) (zd := 3) gD_Cu_9_66 rfl rfl d_Cu_fewest_12 rfl ?_
  refine Rj_gi (q := 18) (ki := 4) (v := S 1) gD_Cu_31_3 rfl rfl G1 d_Cu_fewest_15 rfl ?_
  refine Rj_ishl (q := 19) (z := 2 ^ (S 1).toNat) d_Cu_fewest_18 rfl (z_shl_p ⟨by omega, by omega⟩) ?_
  refine Rj_istore_n (q := 20) (ls' := [vA 66, vI x, vI y, vI (2 ^ (S 1).toNat)]) d_Cu_fewest_19 rfl rfl (by decide) rfl ?_
  refine Rj_iconst (q := 21) d_Cu_fewest_20 rfl ?_
  refine Rj_istore (q := 23) (ls' := [vA 66, vI x, vI y, vI (2 ^ (S 1).toNat), vI 1]) d_Cu_fewest_21 rfl (by decide) rfl ?_
  refine s_few_1 (μ := (mset (mset μ 66 2 x) 66 3 y)) hS hG ⟨rfl, rfl⟩ hx hy (fun w w0 w1 w2 => ?_) (fun r m f q => hQ r m (Fr.trans (Fr.put (Fr.put (Fr.refl _ _) (by decide)) (by decide)) (Fr.wide f (fun c i q => by unfold Wh67 at q; unfold Wcu; omega))) q)
  have := pc_0 w0 (by have := p16 hJ.2; omega)
  omega
