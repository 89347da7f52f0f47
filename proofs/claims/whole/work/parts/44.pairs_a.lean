theorem gD_D_25_0 : GI YD "DoorsOnCogs" 25 0 3 (some (some 3)) := ⟨by decide, _, _, _, fl_D_25, cD_0, by decide, rfl⟩
theorem oD_3_Sc_isDoor : OI YD 3 y_Sc_isDoor := ⟨by decide, _, _, _, cD_3, rfl⟩
theorem oM_0_M_isDoor : OI YM 0 y_M_isDoor := ⟨by decide, _, _, _, cM_0, rfl⟩
theorem gD_Sc_37_3 : GI YD "DoorsOnCogs$Scene" 37 3 0 none := ⟨by decide, _, _, _, fl_Sc_37, cD_3, by decide, rfl⟩
theorem gD_D_148_3 : GI YD "DoorsOnCogs" 148 3 1 (some (some 4)) := ⟨by decide, _, _, _, fl_D_148, cD_3, by decide, rfl⟩
theorem gD_D_151_3 : GI YD "DoorsOnCogs" 151 3 2 (some (some 5)) := ⟨by decide, _, _, _, fl_D_151, cD_3, by decide, rfl⟩
theorem gD_D_154_3 : GI YD "DoorsOnCogs" 154 3 3 none := ⟨by decide, _, _, _, fl_D_154, cD_3, by decide, rfl⟩
theorem gD_D_45_0 : GI YD "DoorsOnCogs" 45 0 7 (some (some 59)) := ⟨by decide, _, _, _, fl_D_45, cD_0, by decide, rfl⟩
theorem oD_59_Ge_isOpen : OI YD 59 y_Ge_isOpen := ⟨by decide, _, _, _, cD_59, rfl⟩
theorem gD_D_164_59 : GI YD "DoorsOnCogs" 164 59 7 none := ⟨by decide, _, _, _, fl_D_164, cD_59, by decide, rfl⟩
theorem gD_D_167_59 : GI YD "DoorsOnCogs" 167 59 1 (some (some 60)) := ⟨by decide, _, _, _, fl_D_167, cD_59, by decide, rfl⟩
theorem gD_D_175_3 : GI YD "DoorsOnCogs" 175 3 9 (some (some 9)) := ⟨by decide, _, _, _, fl_D_175, cD_3, by decide, rfl⟩
theorem gD_D_179_59 : GI YD "DoorsOnCogs" 179 59 4 (some (some 63)) := ⟨by decide, _, _, _, fl_D_179, cD_59, by decide, rfl⟩
theorem oM_0_M_isJoin : OI YM 0 y_M_isJoin := ⟨by decide, _, _, _, cM_0, rfl⟩
theorem gD_D_186_3 : GI YD "DoorsOnCogs" 186 3 4 none := ⟨by decide, _, _, _, fl_D_186, cD_3, by decide, rfl⟩
theorem gD_D_189_3 : GI YD "DoorsOnCogs" 189 3 6 (some (some 6)) := ⟨by decide, _, _, _, fl_D_189, cD_3, by decide, rfl⟩
theorem gD_D_192_3 : GI YD "DoorsOnCogs" 192 3 7 (some (some 7)) := ⟨by decide, _, _, _, fl_D_192, cD_3, by decide, rfl⟩
theorem gD_D_195_3 : GI YD "DoorsOnCogs" 195 3 8 (some (some 8)) := ⟨by decide, _, _, _, fl_D_195, cD_3, by decide, rfl⟩
theorem gD_D_121_3 : GI YD "DoorsOnCogs" 121 3 16 none := ⟨by decide, _, _, _, fl_D_121, cD_3, by decide, rfl⟩
theorem pD_D_121_3 : PI YD "DoorsOnCogs" 121 3 16 none .int := ⟨by decide, _, _, _, fl_D_121, fp_6_16, cD_3, by decide, rfl⟩
/-! pairs of calls: door, place, join, seed -/
theorem mset_o {μ : Mem} {c : Nat} {i v : Int} {d : Nat} {j : Int} (h : ¬ (d = c ∧ j = i)) : mset μ c i v d j = μ d j := by
  unfold mset; rw [if_neg h]
set_option maxHeartbeats 8000000 in
theorem C_door {n : Nat} {μ ν : Mem} {a b : Int} (hC : Cor n μ ν) (hn : n ≤ 511) (ha : i32 a) (hb : i32 b)  : Rj YD y_D_door 0 [vA 0, vI a, vI b] [] μ (fun r μ' => Rj YM y_M_door 0 [vA 0, vI a, vI b] [] ν (fun r' ν' => Sm 1 r' r ∧ Cor (n + 1) μ' ν' ∧ Kp μ μ' ∧ Kq ν ν')) := by
  obtain ⟨hTP, hK, hSc, h, hM, hSB, hBK, hIM⟩ := id hC
  have hC1 := hC.next
  obtain ⟨z0, z1, z2, z3, z4, z5, z6, z7⟩ := h.z
  obtain ⟨hS, hH, hP, hB, hFx⟩ := id hM
  have hD := z0
  have hJ := z1
  refine Rj_aload_n (q := 1) d_D_door_0 rfl rfl rfl ?_
  refine Rj_gr (q := 4) (zd := 3) gD_D_25_0 rfl rfl d_D_door_1 rfl ?_
  refine Rj_iload_n (q := 5) d_D_door_4 rfl rfl rfl ?_
  refine Rj_vo (q := 8) (z := y_Sc_isDoor) (as := [vI a]) (rest := []) (la := [vA 3, vI a]) oD_3_Sc_isDoor ml_D_144 mw_Sc_isDoor mv_Sc_isDoor rfl d_D_door_5 rfl rfl rfl rfl rfl ?_
  refine Rj_iload_n (q := 1) d_Sc_isDoor_0 rfl rfl rfl ?_
  refine Rj_if_lt (q := 4) (t := 16) d_Sc_isDoor_1 rfl (by decide) (by first | assumption | exact ⟨by omega, by omega⟩) (fun c5_1 => ?_) (fun c5_1 => ?_)
  · refine Rj_iconst (q := 17) d_Sc_isDoor_16 rfl ?_
    refine Rj_bret0 d_Sc_isDoor_17 rfl ?_
    refine Rj_if_ne (q := 11) (t := 13) d_D_door_8 rfl (by decide) (by decide) (fun c => absurd c (by decide)) (fun _ => ?_)
    refine Rj_iconst (q := 12) d_D_door_11 rfl ?_
    refine Rj_iret d_D_door_12 rfl ?_
    refine Rj_aload_n (q := 1) d_M_door_0 rfl rfl rfl ?_
    refine Rj_iload_n (q := 2) d_M_door_1 rfl rfl rfl ?_
    refine Rj_vo (q := 5) (z := y_M_isDoor) (as := [vI a]) (rest := []) (la := [vA 0, vI a]) oM_0_M_isDoor ml_M_353 mw_M_isDoor mv_M_isDoor rfl d_M_door_2 rfl rfl rfl rfl rfl ?_
    refine s_M_isDoor hD (by first | assumption | omega) ?_
    refine Rj_b_eq (q := 8) (t := 20) d_M_door_5 rfl (by decide) (fun c5 => ?_) (fun c5 => ?_)
    · have c5 := of_decide_eq_false c5
      refine Rj_iconst (q := 21) d_M_door_20 rfl ?_
      refine Rj_iret d_M_door_21 rfl ?_
      first | exact ⟨sm_I (by omega), hC1, kp0 _, kq0 _⟩ | exact ⟨sm_I (by rw [hs14]; first | exact (congrArg (ν 11) (by omega)).trans dt.symm | exact (congrArg (ν 11) (by omega)).trans dsp.symm), hC1, kp0 _, kq0 _⟩ | (exfalso; simp_all; done)
    · have c5 := of_decide_eq_true c5
      refine Rj_iload_n (q := 9) d_M_door_8 rfl rfl rfl ?_
      refine Rj_i2l (q := 10) d_M_door_9 rfl (by first | assumption | exact ⟨by omega, by omega⟩) ?_
      refine Rj_lconst (q := 11) (z := 0) d_M_door_10 rfl rfl ?_
      refine Rj_ldc2 (q := 14) k_M_356 d_M_door_11 rfl ?_
      refine Rj_cs (q := 17) (z := y_M_in) (as := [vL b, vL 0, vL 5]) (rest := []) (la := [vL b, vU, vL 0, vU, vL 5, vU]) ml_M_138 mw_M_in ms_M_in d_M_door_14 rfl rfl rfl rfl rfl ?_
      refine s_M_in ⟨by omega, by omega⟩ (by decide) (by decide) ?_
      refine Rj_b_ne (q := 20) (t := 22) d_M_door_17 rfl (by decide) (fun c17 => ?_) (fun c17 => ?_)
      · have c17 := of_decide_eq_true c17
        refine Rj_iload_n (q := 23) d_M_door_22 rfl rfl rfl ?_
        refine Rj_iconst (q := 24) d_M_door_23 rfl ?_
        refine Rj_icmp_ge (q := 27) (t := 41) d_M_door_24 rfl (by decide) (by first | assumption | exact ⟨by omega, by omega⟩) (by decide) (fun c24 => ?_) (fun c24 => ?_)
        · refine Rj_iload_n (q := 42) d_M_door_41 rfl rfl rfl ?_
          refine Rj_iconst (q := 43) d_M_door_42 rfl ?_
          refine Rj_icmp_ne (q := 46) (t := 65) d_M_door_43 rfl (by decide) (by first | assumption | exact ⟨by omega, by omega⟩) (by decide) (fun c43 => ?_) (fun c43 => ?_)
          · refine Rj_iload_n (q := 66) d_M_door_65 rfl rfl rfl ?_
            refine Rj_iconst (q := 67) d_M_door_66 rfl ?_
            refine Rj_icmp_ne (q := 70) (t := 86) d_M_door_67 rfl (by decide) (by first | assumption | exact ⟨by omega, by omega⟩) (by decide) (fun c67 => ?_) (fun c67 => ?_)
            · refine Rj_iload_n (q := 87) d_M_door_86 rfl rfl rfl ?_
              refine Rj_iconst (q := 88) d_M_door_87 rfl ?_
              refine Rj_icmp_ne (q := 91) (t := 108) d_M_door_88 rfl (by decide) (by first | assumption | exact ⟨by omega, by omega⟩) (by decide) (fun c88 => ?_) (fun c88 => ?_)
              · refine Rj_aload_n (q := 109) d_M_door_108 rfl rfl rfl ?_
                refine Rj_gr (q := 112) (zd := 14) gM_M_51_0 rfl rfl d_M_door_109 rfl ?_
                refine Rj_iload_n (q := 113) d_M_door_112 rfl rfl rfl ?_
                refine Rj_ia (q := 114) (v := ν 14 a) aM_14 rfl (by omega) rfl d_M_door_113 rfl ?_
                refine Rj_iret d_M_door_114 rfl ?_
                first | exact ⟨sm_I (by omega), hC1, kp0 _, kq0 _⟩ | exact ⟨sm_I (by rw [hs14]; first | exact (congrArg (ν 11) (by omega)).trans dt.symm | exact (congrArg (ν 11) (by omega)).trans dsp.symm), hC1, kp0 _, kq0 _⟩ | (exfalso; simp_all; done)
              · refine Rj_aload_n (q := 92) d_M_door_91 rfl rfl rfl ?_
                refine Rj_gr (q := 95) (zd := 17) gM_M_60_0 rfl rfl d_M_door_92 rfl ?_
                refine Rj_iload_n (q := 96) d_M_door_95 rfl rfl rfl ?_
                refine Rj_za (q := 97) (v := ν 17 a) aM_17 rfl (by omega) rfl d_M_door_96 rfl ?_
                refine Rj_if_eq (q := 100) (t := 104) d_M_door_97 rfl (by decide) (by first | assumption | exact ⟨by omega, by omega⟩) (fun c97 => ?_) (fun c97 => ?_)
                · refine Rj_iconst (q := 105) d_M_door_104 rfl ?_
                  refine Rj_goto (t := 114) d_M_door_105 (by decide) ?_
                  refine Rj_iret d_M_door_114 rfl ?_
                  first | exact ⟨sm_I (by omega), hC1, kp0 _, kq0 _⟩ | exact ⟨sm_I (by rw [hs14]; first | exact (congrArg (ν 11) (by omega)).trans dt.symm | exact (congrArg (ν 11) (by omega)).trans dsp.symm), hC1, kp0 _, kq0 _⟩ | (exfalso; simp_all; done)
                · refine Rj_iconst (q := 101) d_M_door_100 rfl ?_
                  refine Rj_goto (t := 114) d_M_door_101 (by decide) ?_
                  refine Rj_iret d_M_door_114 rfl ?_
                  first | exact ⟨sm_I (by omega), hC1, kp0 _, kq0 _⟩ | exact ⟨sm_I (by rw [hs14]; first | exact (congrArg (ν 11) (by omega)).trans dt.symm | exact (congrArg (ν 11) (by omega)).trans dsp.symm), hC1, kp0 _, kq0 _⟩ | (exfalso; simp_all; done)
            · refine Rj_aload_n (q := 71) d_M_door_70 rfl rfl rfl ?_
              refine Rj_iload_n (q := 72) d_M_door_71 rfl rfl rfl ?_
              refine Rj_vo (q := 75) (z := y_M_isOpen) (as := [vI a]) (rest := []) (la := [vA 0, vI a]) oM_0_M_isOpen ml_M_350 mw_M_isOpen mv_M_isOpen rfl d_M_door_72 rfl rfl rfl rfl rfl ?_
              refine s_M_isOpen hM ⟨by omega, by omega⟩ ?_
              refine Rj_b_eq (q := 78) (t := 82) d_M_door_75 rfl (by decide) (fun c75 => ?_) (fun c75 => ?_)
              · refine Rj_iconst (q := 83) d_M_door_82 rfl ?_
                refine Rj_goto (t := 114) d_M_door_83 (by decide) ?_
                refine Rj_iret d_M_door_114 rfl ?_
                first | exact ⟨sm_I (by omega), hC1, kp0 _, kq0 _⟩ | exact ⟨sm_I (by rw [hs14]; first | exact (congrArg (ν 11) (by omega)).trans dt.symm | exact (congrArg (ν 11) (by omega)).trans dsp.symm), hC1, kp0 _, kq0 _⟩ | (exfalso; simp_all; done)
              · refine Rj_iconst (q := 79) d_M_door_78 rfl ?_
                refine Rj_goto (t := 114) d_M_door_79 (by decide) ?_
                refine Rj_iret d_M_door_114 rfl ?_
                first | exact ⟨sm_I (by omega), hC1, kp0 _, kq0 _⟩ | exact ⟨sm_I (by rw [hs14]; first | exact (congrArg (ν 11) (by omega)).trans dt.symm | exact (congrArg (ν 11) (by omega)).trans dsp.symm), hC1, kp0 _, kq0 _⟩ | (exfalso; simp_all; done)
          · refine Rj_aload_n (q := 47) d_M_door_46 rfl rfl rfl ?_
            refine Rj_gr (q := 50) (zd := 11) gM_M_42_0 rfl rfl d_M_door_47 rfl ?_
            refine Rj_iconst (q := 51) d_M_door_50 rfl ?_
            refine Rj_ia (q := 52) (v := ν 11 2) aM_11 rfl (by decide) rfl d_M_door_51 rfl ?_
            refine Rj_iload_n (q := 53) d_M_door_52 rfl rfl rfl ?_
            refine Rj_cs (q := 56) (z := y_M_isOf) (as := [vI (ν 11 2), vI a]) (rest := []) (la := [vI (ν 11 2), vI a]) ml_M_317 mw_M_isOf ms_M_isOf d_M_door_53 rfl rfl rfl rfl rfl ?_
            refine s_M_isOf (by first | assumption | exact ⟨by omega, by omega⟩) (by omega) ?_
            refine Rj_b_eq (q := 59) (t := 63) d_M_door_56 rfl (by decide) (fun c56 => ?_) (fun c56 => ?_)
            · have c56 := of_decide_eq_false c56
              rw [← z4] at c56
              refine Rj_iconst (q := 64) d_M_door_63 rfl ?_
              refine Rj_iret d_M_door_64 rfl ?_
              first | exact ⟨sm_I (by omega), hC1, kp0 _, kq0 _⟩ | exact ⟨sm_I (by rw [hs14]; first | exact (congrArg (ν 11) (by omega)).trans dt.symm | exact (congrArg (ν 11) (by omega)).trans dsp.symm), hC1, kp0 _, kq0 _⟩ | (exfalso; simp_all; done)
            · have c56 := of_decide_eq_true c56
              rw [← z4] at c56
              refine Rj_iconst (q := 60) d_M_door_59 rfl ?_
              refine Rj_goto (t := 64) d_M_door_60 (by decide) ?_
              refine Rj_iret d_M_door_64 rfl ?_
              first | exact ⟨sm_I (by omega), hC1, kp0 _, kq0 _⟩ | exact ⟨sm_I (by rw [hs14]; first | exact (congrArg (ν 11) (by omega)).trans dt.symm | exact (congrArg (ν 11) (by omega)).trans dsp.symm), hC1, kp0 _, kq0 _⟩ | (exfalso; simp_all; done)
        · refine Rj_aload_n (q := 28) d_M_door_27 rfl rfl rfl ?_
          refine Rj_gr (q := 31) (zd := 11) gM_M_42_0 rfl rfl d_M_door_28 rfl ?_
          refine Rj_bipush (q := 33) d_M_door_31 rfl (by decide +kernel) ?_
          refine Rj_iconst (q := 34) d_M_door_33 rfl ?_
          refine Rj_iload_n (q := 35) d_M_door_34 rfl rfl rfl ?_
          refine Rj_imul (q := 36) d_M_door_35 rfl ?_
          refine Rj_iadd (q := 37) d_M_door_36 rfl ?_
          refine Rj_iload_n (q := 38) d_M_door_37 rfl rfl rfl ?_
          refine Rj_iadd (q := 39) d_M_door_38 rfl ?_
          refine Rj_ia (q := 40) (v := ν 11 ((10 + (2 * a)) + b)) aM_11 rfl (by omega) rfl d_M_door_39 rfl ?_
          refine Rj_iret d_M_door_40 rfl ?_
          first | exact ⟨sm_I (by omega), hC1, kp0 _, kq0 _⟩ | exact ⟨sm_I (by rw [hs14]; first | exact (congrArg (ν 11) (by omega)).trans dt.symm | exact (congrArg (ν 11) (by omega)).trans dsp.symm), hC1, kp0 _, kq0 _⟩ | (exfalso; simp_all; done)
      · have c17 := of_decide_eq_false c17
        refine Rj_iconst (q := 21) d_M_door_20 rfl ?_
        refine Rj_iret d_M_door_21 rfl ?_
        first | exact ⟨sm_I (by omega), hC1, kp0 _, kq0 _⟩ | exact ⟨sm_I (by rw [hs14]; first | exact (congrArg (ν 11) (by omega)).trans dt.symm | exact (congrArg (ν 11) (by omega)).trans dsp.symm), hC1, kp0 _, kq0 _⟩ | (exfalso; simp_all; done)
  · refine Rj_iload_n (q := 5) d_Sc_isDoor_4 rfl rfl rfl ?_
    refine Rj_aload_n (q := 6) d_Sc_isDoor_5 rfl rfl rfl ?_
    refine Rj_gi (q := 9) (ki := 0) (v := μ 3 0) gD_Sc_37_3 rfl rfl rfl d_Sc_isDoor_6 rfl ?_
    refine Rj_icmp_ge (q := 12) (t := 16) d_Sc_isDoor_9 rfl (by decide) (by first | assumption | exact ⟨by omega, by omega⟩) (by first | assumption | exact ⟨by omega, by omega⟩) (fun c5_9 => ?_) (fun c5_9 => ?_)
    · refine Rj_iconst (q := 17) d_Sc_isDoor_16 rfl ?_
      refine Rj_bret0 d_Sc_isDoor_17 rfl ?_
      refine Rj_if_ne (q := 11) (t := 13) d_D_door_8 rfl (by decide) (by decide) (fun c => absurd c (by decide)) (fun _ => ?_)
      refine Rj_iconst (q := 12) d_D_door_11 rfl ?_
      refine Rj_iret d_D_door_12 rfl ?_
      refine Rj_aload_n (q := 1) d_M_door_0 rfl rfl rfl ?_
      refine Rj_iload_n (q := 2) d_M_door_1 rfl rfl rfl ?_
      refine Rj_vo (q := 5) (z := y_M_isDoor) (as := [vI a]) (rest := []) (la := [vA 0, vI a]) oM_0_M_isDoor ml_M_353 mw_M_isDoor mv_M_isDoor rfl d_M_door_2 rfl rfl rfl rfl rfl ?_
      refine s_M_isDoor hD (by first | assumption | omega) ?_
      refine Rj_b_eq (q := 8) (t := 20) d_M_door_5 rfl (by decide) (fun c5 => ?_) (fun c5 => ?_)
      · have c5 := of_decide_eq_false c5
        refine Rj_iconst (q := 21) d_M_door_20 rfl ?_
        refine Rj_iret d_M_door_21 rfl ?_
        first | exact ⟨sm_I (by omega), hC1, kp0 _, kq0 _⟩ | exact ⟨sm_I (by rw [hs14]; first | exact (congrArg (ν 11) (by omega)).trans dt.symm | exact (congrArg (ν 11) (by omega)).trans dsp.symm), hC1, kp0 _, kq0 _⟩ | (exfalso; simp_all; done)
      · have c5 := of_decide_eq_true c5
        refine Rj_iload_n (q := 9) d_M_door_8 rfl rfl rfl ?_
        refine Rj_i2l (q := 10) d_M_door_9 rfl (by first | assumption | exact ⟨by omega, by omega⟩) ?_
        refine Rj_lconst (q := 11) (z := 0) d_M_door_10 rfl rfl ?_
        refine Rj_ldc2 (q := 14) k_M_356 d_M_door_11 rfl ?_
        refine Rj_cs (q := 17) (z := y_M_in) (as := [vL b, vL 0, vL 5]) (rest := []) (la := [vL b, vU, vL 0, vU, vL 5, vU]) ml_M_138 mw_M_in ms_M_in d_M_door_14 rfl rfl rfl rfl rfl ?_
        refine s_M_in ⟨by omega, by omega⟩ (by decide) (by decide) ?_
        refine Rj_b_ne (q := 20) (t := 22) d_M_door_17 rfl (by decide) (fun c17 => ?_) (fun c17 => ?_)
        · have c17 := of_decide_eq_true c17
          refine Rj_iload_n (q := 23) d_M_door_22 rfl rfl rfl ?_
          refine Rj_iconst (q := 24) d_M_door_23 rfl ?_
          refine Rj_icmp_ge (q := 27) (t := 41) d_M_door_24 rfl (by decide) (by first | assumption | exact ⟨by omega, by omega⟩) (by decide) (fun c24 => ?_) (fun c24 => ?_)
          · refine Rj_iload_n (q := 42) d_M_door_41 rfl rfl rfl ?_
            refine Rj_iconst (q := 43) d_M_door_42 rfl ?_
            refine Rj_icmp_ne (q := 46) (t := 65) d_M_door_43 rfl (by decide) (by first | assumption | exact ⟨by omega, by omega⟩) (by decide) (fun c43 => ?_) (fun c43 => ?_)
            · refine Rj_iload_n (q := 66) d_M_door_65 rfl rfl rfl ?_
              refine Rj_iconst (q := 67) d_M_door_66 rfl ?_
              refine Rj_icmp_ne (q := 70) (t := 86) d_M_door_67 rfl (by decide) (by first | assumption | exact ⟨by omega, by omega⟩) (by decide) (fun c67 => ?_) (fun c67 => ?_)
              · refine Rj_iload_n (q := 87) d_M_door_86 rfl rfl rfl ?_
                refine Rj_iconst (q := 88) d_M_door_87 rfl ?_
                refine Rj_icmp_ne (q := 91) (t := 108) d_M_door_88 rfl (by decide) (by first | assumption | exact ⟨by omega, by omega⟩) (by decide) (fun c88 => ?_) (fun c88 => ?_)
                · refine Rj_aload_n (q := 109) d_M_door_108 rfl rfl rfl ?_
                  refine Rj_gr (q := 112) (zd := 14) gM_M_51_0 rfl rfl d_M_door_109 rfl ?_
                  refine Rj_iload_n (q := 113) d_M_door_112 rfl rfl rfl ?_
                  refine Rj_ia (q := 114) (v := ν 14 a) aM_14 rfl (by omega) rfl d_M_door_113 rfl ?_
                  refine Rj_iret d_M_door_114 rfl ?_
                  first | exact ⟨sm_I (by omega), hC1, kp0 _, kq0 _⟩ | exact ⟨sm_I (by rw [hs14]; first | exact (congrArg (ν 11) (by omega)).trans dt.symm | exact (congrArg (ν 11) (by omega)).trans dsp.symm), hC1, kp0 _, kq0 _⟩ | (exfalso; simp_all; done)
                · refine Rj_aload_n (q := 92) d_M_door_91 rfl rfl rfl ?_
                  refine Rj_gr (q := 95) (zd := 17) gM_M_60_0 rfl rfl d_M_door_92 rfl ?_
                  refine Rj_iload_n (q := 96) d_M_door_95 rfl rfl rfl ?_
                  refine Rj_za (q := 97) (v := ν 17 a) aM_17 rfl (by omega) rfl d_M_door_96 rfl ?_
                  refine Rj_if_eq (q := 100) (t := 104) d_M_door_97 rfl (by decide) (by first | assumption | exact ⟨by omega, by omega⟩) (fun c97 => ?_) (fun c97 => ?_)
                  · refine Rj_iconst (q := 105) d_M_door_104 rfl ?_
                    refine Rj_goto (t := 114) d_M_door_105 (by decide) ?_
                    refine Rj_iret d_M_door_114 rfl ?_
                    first | exact ⟨sm_I (by omega), hC1, kp0 _, kq0 _⟩ | exact ⟨sm_I (by rw [hs14]; first | exact (congrArg (ν 11) (by omega)).trans dt.symm | exact (congrArg (ν 11) (by omega)).trans dsp.symm), hC1, kp0 _, kq0 _⟩ | (exfalso; simp_all; done)
                  · refine Rj_iconst (q := 101) d_M_door_100 rfl ?_
                    refine Rj_goto (t := 114) d_M_door_101 (by decide) ?_
                    refine Rj_iret d_M_door_114 rfl ?_
                    first | exact ⟨sm_I (by omega), hC1, kp0 _, kq0 _⟩ | exact ⟨sm_I (by rw [hs14]; first | exact (congrArg (ν 11) (by omega)).trans dt.symm | exact (congrArg (ν 11) (by omega)).trans dsp.symm), hC1, kp0 _, kq0 _⟩ | (exfalso; simp_all; done)
              · refine Rj_aload_n (q := 71) d_M_door_70 rfl rfl rfl ?_
                refine Rj_iload_n (q := 72) d_M_door_71 rfl rfl rfl ?_
                refine Rj_vo (q := 75) (z := y_M_isOpen) (as := [vI a]) (rest := []) (la := [vA 0, vI a]) oM_0_M_isOpen ml_M_350 mw_M_isOpen mv_M_isOpen rfl d_M_door_72 rfl rfl rfl rfl rfl ?_
                refine s_M_isOpen hM ⟨by omega, by omega⟩ ?_
                refine Rj_b_eq (q := 78) (t := 82) d_M_door_75 rfl (by decide) (fun c75 => ?_) (fun c75 => ?_)
                · refine Rj_iconst (q := 83) d_M_door_82 rfl ?_
                  refine Rj_goto (t := 114) d_M_door_83 (by decide) ?_
                  refine Rj_iret d_M_door_114 rfl ?_
                  first | exact ⟨sm_I (by omega), hC1, kp0 _, kq0 _⟩ | exact ⟨sm_I (by rw [hs14]; first | exact (congrArg (ν 11) (by omega)).trans dt.symm | exact (congrArg (ν 11) (by omega)).trans dsp.symm), hC1, kp0 _, kq0 _⟩ | (exfalso; simp_all; done)
                · refine Rj_iconst (q := 79) d_M_door_78 rfl ?_
                  refine Rj_goto (t := 114) d_M_door_79 (by decide) ?_
                  refine Rj_iret d_M_door_114 rfl ?_
                  first | exact ⟨sm_I (by omega), hC1, kp0 _, kq0 _⟩ | exact ⟨sm_I (by rw [hs14]; first | exact (congrArg (ν 11) (by omega)).trans dt.symm | exact (congrArg (ν 11) (by omega)).trans dsp.symm), hC1, kp0 _, kq0 _⟩ | (exfalso; simp_all; done)
            · refine Rj_aload_n (q := 47) d_M_door_46 rfl rfl rfl ?_
              refine Rj_gr (q := 50) (zd := 11) gM_M_42_0 rfl rfl d_M_door_47 rfl ?_
              refine Rj_iconst (q := 51) d_M_door_50 rfl ?_
              refine Rj_ia (q := 52) (v := ν 11 2) aM_11 rfl (by decide) rfl d_M_door_51 rfl ?_
              refine Rj_iload_n (q := 53) d_M_door_52 rfl rfl rfl ?_
              refine Rj_cs (q := 56) (z := y_M_isOf) (as := [vI (ν 11 2), vI a]) (rest := []) (la := [vI (ν 11 2), vI a]) ml_M_317 mw_M_isOf ms_M_isOf d_M_door_53 rfl rfl rfl rfl rfl ?_
              refine s_M_isOf (by first | assumption | exact ⟨by omega, by omega⟩) (by omega) ?_
              refine Rj_b_eq (q := 59) (t := 63) d_M_door_56 rfl (by decide) (fun c56 => ?_) (fun c56 => ?_)
              · have c56 := of_decide_eq_false c56
                rw [← z4] at c56
                refine Rj_iconst (q := 64) d_M_door_63 rfl ?_
                refine Rj_iret d_M_door_64 rfl ?_
                first | exact ⟨sm_I (by omega), hC1, kp0 _, kq0 _⟩ | exact ⟨sm_I (by rw [hs14]; first | exact (congrArg (ν 11) (by omega)).trans dt.symm | exact (congrArg (ν 11) (by omega)).trans dsp.symm), hC1, kp0 _, kq0 _⟩ | (exfalso; simp_all; done)
              · have c56 := of_decide_eq_true c56
                rw [← z4] at c56
                refine Rj_iconst (q := 60) d_M_door_59 rfl ?_
                refine Rj_goto (t := 64) d_M_door_60 (by decide) ?_
                refine Rj_iret d_M_door_64 rfl ?_
                first | exact ⟨sm_I (by omega), hC1, kp0 _, kq0 _⟩ | exact ⟨sm_I (by rw [hs14]; first | exact (congrArg (ν 11) (by omega)).trans dt.symm | exact (congrArg (ν 11) (by omega)).trans dsp.symm), hC1, kp0 _, kq0 _⟩ | (exfalso; simp_all; done)
          · refine Rj_aload_n (q := 28) d_M_door_27 rfl rfl rfl ?_
            refine Rj_gr (q := 31) (zd := 11) gM_M_42_0 rfl rfl d_M_door_28 rfl ?_
            refine Rj_bipush (q := 33) d_M_door_31 rfl (by decide +kernel) ?_
            refine Rj_iconst (q := 34) d_M_door_33 rfl ?_
            refine Rj_iload_n (q := 35) d_M_door_34 rfl rfl rfl ?_
            refine Rj_imul (q := 36) d_M_door_35 rfl ?_
            refine Rj_iadd (q := 37) d_M_door_36 rfl ?_
            refine Rj_iload_n (q := 38) d_M_door_37 rfl rfl rfl ?_
            refine Rj_iadd (q := 39) d_M_door_38 rfl ?_
            refine Rj_ia (q := 40) (v := ν 11 ((10 + (2 * a)) + b)) aM_11 rfl (by omega) rfl d_M_door_39 rfl ?_
            refine Rj_iret d_M_door_40 rfl ?_
            first | exact ⟨sm_I (by omega), hC1, kp0 _, kq0 _⟩ | exact ⟨sm_I (by rw [hs14]; first | exact (congrArg (ν 11) (by omega)).trans dt.symm | exact (congrArg (ν 11) (by omega)).trans dsp.symm), hC1, kp0 _, kq0 _⟩ | (exfalso; simp_all; done)
        · have c17 := of_decide_eq_false c17
          refine Rj_iconst (q := 21) d_M_door_20 rfl ?_
          refine Rj_iret d_M_door_21 rfl ?_
          first | exact ⟨sm_I (by omega), hC1, kp0 _, kq0 _⟩ | exact ⟨sm_I (by rw [hs14]; first | exact (congrArg (ν 11) (by omega)).trans dt.symm | exact (congrArg (ν 11) (by omega)).trans dsp.symm), hC1, kp0 _, kq0 _⟩ | (exfalso; simp_all; done)
    · obtain ⟨dt, dsp, tr, sr, br, bp, sc, lr, lq, mr, pr, kr, zk⟩ := h.d ⟨by omega, by omega⟩
      have fz := zbit_01 (μ 3 3) a
      have lz := zbit_01 (μ 59 7) a
      refine Rj_iconst (q := 13) d_Sc_isDoor_12 rfl ?_
      refine Rj_goto (t := 17) d_Sc_isDoor_13 (by decide) ?_
      refine Rj_bret1 d_Sc_isDoor_17 rfl ?_
      refine Rj_if_ne (q := 11) (t := 13) d_D_door_8 rfl (by decide) (by decide) (fun _ => ?_) (fun c => absurd c (by decide))
      refine Rj_iload_n (q := 14) d_D_door_13 rfl rfl rfl ?_
      rcases (show b = 0 ∨ b = 1 ∨ b = 2 ∨ b = 3 ∨ b = 4 ∨ b = 5 ∨ (b < 0 ∨ 5 < b) by omega) with hs14 | hs14 | hs14 | hs14 | hs14 | hs14 | hs14
      · refine Rj_tsI (t := 52) d_D_door_14 (by first | assumption | exact ⟨by omega, by omega⟩) (by omega) (by omega) (by rw [hs14]; rfl) (by decide) ?_
        refine Rj_aload_n (q := 53) d_D_door_52 rfl rfl rfl ?_
        refine Rj_gr (q := 56) (zd := 3) gD_D_25_0 rfl rfl d_D_door_53 rfl ?_
        refine Rj_gr (q := 59) (zd := 4) gD_D_148_3 rfl rfl d_D_door_56 rfl ?_
        refine Rj_iload_n (q := 60) d_D_door_59 rfl rfl rfl ?_
        refine Rj_ia (q := 61) (v := μ 4 a) aD_4 rfl (by omega) rfl d_D_door_60 rfl ?_
        refine Rj_iret d_D_door_61 rfl ?_
        refine Rj_aload_n (q := 1) d_M_door_0 rfl rfl rfl ?_
        refine Rj_iload_n (q := 2) d_M_door_1 rfl rfl rfl ?_
        refine Rj_vo (q := 5) (z := y_M_isDoor) (as := [vI a]) (rest := []) (la := [vA 0, vI a]) oM_0_M_isDoor ml_M_353 mw_M_isDoor mv_M_isDoor rfl d_M_door_2 rfl rfl rfl rfl rfl ?_
        refine s_M_isDoor hD (by first | assumption | omega) ?_
        refine Rj_b_eq (q := 8) (t := 20) d_M_door_5 rfl (by decide) (fun c5 => ?_) (fun c5 => ?_)
        · have c5 := of_decide_eq_false c5
          refine Rj_iconst (q := 21) d_M_door_20 rfl ?_
          refine Rj_iret d_M_door_21 rfl ?_
          first | exact ⟨sm_I (by omega), hC1, kp0 _, kq0 _⟩ | exact ⟨sm_I (by rw [hs14]; first | exact (congrArg (ν 11) (by omega)).trans dt.symm | exact (congrArg (ν 11) (by omega)).trans dsp.symm), hC1, kp0 _, kq0 _⟩ | (exfalso; simp_all; done)
        · have c5 := of_decide_eq_true c5
          refine Rj_iload_n (q := 9) d_M_door_8 rfl rfl rfl ?_
          refine Rj_i2l (q := 10) d_M_door_9 rfl (by first | assumption | exact ⟨by omega, by omega⟩) ?_
          refine Rj_lconst (q := 11) (z := 0) d_M_door_10 rfl rfl ?_
          refine Rj_ldc2 (q := 14) k_M_356 d_M_door_11 rfl ?_
          refine Rj_cs (q := 17) (z := y_M_in) (as := [vL b, vL 0, vL 5]) (rest := []) (la := [vL b, vU, vL 0, vU, vL 5, vU]) ml_M_138 mw_M_in ms_M_in d_M_door_14 rfl rfl rfl rfl rfl ?_
          refine s_M_in ⟨by omega, by omega⟩ (by decide) (by decide) ?_
          refine Rj_b_ne (q := 20) (t := 22) d_M_door_17 rfl (by decide) (fun c17 => ?_) (fun c17 => ?_)
          · have c17 := of_decide_eq_true c17
            refine Rj_iload_n (q := 23) d_M_door_22 rfl rfl rfl ?_
            refine Rj_iconst (q := 24) d_M_door_23 rfl ?_
            refine Rj_icmp_ge (q := 27) (t := 41) d_M_door_24 rfl (by decide) (by first | assumption | exact ⟨by omega, by omega⟩) (by decide) (fun c24 => ?_) (fun c24 => ?_)
            · refine Rj_iload_n (q := 42) d_M_door_41 rfl rfl rfl ?_
              refine Rj_iconst (q := 43) d_M_door_42 rfl ?_
              refine Rj_icmp_ne (q := 46) (t := 65) d_M_door_43 rfl (by decide) (by first | assumption | exact ⟨by omega, by omega⟩) (by decide) (fun c43 => ?_) (fun c43 => ?_)
              · refine Rj_iload_n (q := 66) d_M_door_65 rfl rfl rfl ?_
                refine Rj_iconst (q := 67) d_M_door_66 rfl ?_
                refine Rj_icmp_ne (q := 70) (t := 86) d_M_door_67 rfl (by decide) (by first | assumption | exact ⟨by omega, by omega⟩) (by decide) (fun c67 => ?_) (fun c67 => ?_)
                · refine Rj_iload_n (q := 87) d_M_door_86 rfl rfl rfl ?_
                  refine Rj_iconst (q := 88) d_M_door_87 rfl ?_
                  refine Rj_icmp_ne (q := 91) (t := 108) d_M_door_88 rfl (by decide) (by first | assumption | exact ⟨by omega, by omega⟩) (by decide) (fun c88 => ?_) (fun c88 => ?_)
                  · refine Rj_aload_n (q := 109) d_M_door_108 rfl rfl rfl ?_
                    refine Rj_gr (q := 112) (zd := 14) gM_M_51_0 rfl rfl d_M_door_109 rfl ?_
                    refine Rj_iload_n (q := 113) d_M_door_112 rfl rfl rfl ?_
                    refine Rj_ia (q := 114) (v := ν 14 a) aM_14 rfl (by omega) rfl d_M_door_113 rfl ?_
                    refine Rj_iret d_M_door_114 rfl ?_
                    first | exact ⟨sm_I (by omega), hC1, kp0 _, kq0 _⟩ | exact ⟨sm_I (by rw [hs14]; first | exact (congrArg (ν 11) (by omega)).trans dt.symm | exact (congrArg (ν 11) (by omega)).trans dsp.symm), hC1, kp0 _, kq0 _⟩ | (exfalso; simp_all; done)
                  · refine Rj_aload_n (q := 92) d_M_door_91 rfl rfl rfl ?_
                    refine Rj_gr (q := 95) (zd := 17) gM_M_60_0 rfl rfl d_M_door_92 rfl ?_
                    refine Rj_iload_n (q := 96) d_M_door_95 rfl rfl rfl ?_
                    refine Rj_za (q := 97) (v := ν 17 a) aM_17 rfl (by omega) rfl d_M_door_96 rfl ?_
                    refine Rj_if_eq (q := 100) (t := 104) d_M_door_97 rfl (by decide) (by first | assumption | exact ⟨by omega, by omega⟩) (fun c97 => ?_) (fun c97 => ?_)
                    · refine Rj_iconst (q := 105) d_M_door_104 rfl ?_
                      refine Rj_goto (t := 114) d_M_door_105 (by decide) ?_
                      refine Rj_iret d_M_door_114 rfl ?_
                      first | exact ⟨sm_I (by omega), hC1, kp0 _, kq0 _⟩ | exact ⟨sm_I (by rw [hs14]; first | exact (congrArg (ν 11) (by omega)).trans dt.symm | exact (congrArg (ν 11) (by omega)).trans dsp.symm), hC1, kp0 _, kq0 _⟩ | (exfalso; simp_all; done)
                    · refine Rj_iconst (q := 101) d_M_door_100 rfl ?_
                      refine Rj_goto (t := 114) d_M_door_101 (by decide) ?_
                      refine Rj_iret d_M_door_114 rfl ?_
                      first | exact ⟨sm_I (by omega), hC1, kp0 _, kq0 _⟩ | exact ⟨sm_I (by rw [hs14]; first | exact (congrArg (ν 11) (by omega)).trans dt.symm | exact (congrArg (ν 11) (by omega)).trans dsp.symm), hC1, kp0 _, kq0 _⟩ | (exfalso; simp_all; done)
                · refine Rj_aload_n (q := 71) d_M_door_70 rfl rfl rfl ?_
                  refine Rj_iload_n (q := 72) d_M_door_71 rfl rfl rfl ?_
                  refine Rj_vo (q := 75) (z := y_M_isOpen) (as := [vI a]) (rest := []) (la := [vA 0, vI a]) oM_0_M_isOpen ml_M_350 mw_M_isOpen mv_M_isOpen rfl d_M_door_72 rfl rfl rfl rfl rfl ?_
                  refine s_M_isOpen hM ⟨by omega, by omega⟩ ?_
                  refine Rj_b_eq (q := 78) (t := 82) d_M_door_75 rfl (by decide) (fun c75 => ?_) (fun c75 => ?_)
                  · refine Rj_iconst (q := 83) d_M_door_82 rfl ?_
                    refine Rj_goto (t := 114) d_M_door_83 (by decide) ?_
                    refine Rj_iret d_M_door_114 rfl ?_
                    first | exact ⟨sm_I (by omega), hC1, kp0 _, kq0 _⟩ | exact ⟨sm_I (by rw [hs14]; first | exact (congrArg (ν 11) (by omega)).trans dt.symm | exact (congrArg (ν 11) (by omega)).trans dsp.symm), hC1, kp0 _, kq0 _⟩ | (exfalso; simp_all; done)
                  · refine Rj_iconst (q := 79) d_M_door_78 rfl ?_
                    refine Rj_goto (t := 114) d_M_door_79 (by decide) ?_
                    refine Rj_iret d_M_door_114 rfl ?_
                    first | exact ⟨sm_I (by omega), hC1, kp0 _, kq0 _⟩ | exact ⟨sm_I (by rw [hs14]; first | exact (congrArg (ν 11) (by omega)).trans dt.symm | exact (congrArg (ν 11) (by omega)).trans dsp.symm), hC1, kp0 _, kq0 _⟩ | (exfalso; simp_all; done)
              · refine Rj_aload_n (q := 47) d_M_door_46 rfl rfl rfl ?_
                refine Rj_gr (q := 50) (zd := 11) gM_M_42_0 rfl rfl d_M_door_47 rfl ?_
                refine Rj_iconst (q := 51) d_M_door_50 rfl ?_
                refine Rj_ia (q := 52) (v := ν 11 2) aM_11 rfl (by decide) rfl d_M_door_51 rfl ?_
                refine Rj_iload_n (q := 53) d_M_door_52 rfl rfl rfl ?_
                refine Rj_cs (q := 56) (z := y_M_isOf) (as := [vI (ν 11 2), vI a]) (rest := []) (la := [vI (ν 11 2), vI a]) ml_M_317 mw_M_isOf ms_M_isOf d_M_door_53 rfl rfl rfl rfl rfl ?_
                refine s_M_isOf (by first | assumption | exact ⟨by omega, by omega⟩) (by omega) ?_
                refine Rj_b_eq (q := 59) (t := 63) d_M_door_56 rfl (by decide) (fun c56 => ?_) (fun c56 => ?_)
                · have c56 := of_decide_eq_false c56
                  rw [← z4] at c56
                  refine Rj_iconst (q := 64) d_M_door_63 rfl ?_
                  refine Rj_iret d_M_door_64 rfl ?_
                  first | exact ⟨sm_I (by omega), hC1, kp0 _, kq0 _⟩ | exact ⟨sm_I (by rw [hs14]; first | exact (congrArg (ν 11) (by omega)).trans dt.symm | exact (congrArg (ν 11) (by omega)).trans dsp.symm), hC1, kp0 _, kq0 _⟩ | (exfalso; simp_all; done)
                · have c56 := of_decide_eq_true c56
                  rw [← z4] at c56
                  refine Rj_iconst (q := 60) d_M_door_59 rfl ?_
                  refine Rj_goto (t := 64) d_M_door_60 (by decide) ?_
                  refine Rj_iret d_M_door_64 rfl ?_
                  first | exact ⟨sm_I (by omega), hC1, kp0 _, kq0 _⟩ | exact ⟨sm_I (by rw [hs14]; first | exact (congrArg (ν 11) (by omega)).trans dt.symm | exact (congrArg (ν 11) (by omega)).trans dsp.symm), hC1, kp0 _, kq0 _⟩ | (exfalso; simp_all; done)
            · refine Rj_aload_n (q := 28) d_M_door_27 rfl rfl rfl ?_
              refine Rj_gr (q := 31) (zd := 11) gM_M_42_0 rfl rfl d_M_door_28 rfl ?_
              refine Rj_bipush (q := 33) d_M_door_31 rfl (by decide +kernel) ?_
              refine Rj_iconst (q := 34) d_M_door_33 rfl ?_
              refine Rj_iload_n (q := 35) d_M_door_34 rfl rfl rfl ?_
              refine Rj_imul (q := 36) d_M_door_35 rfl ?_
              refine Rj_iadd (q := 37) d_M_door_36 rfl ?_
              refine Rj_iload_n (q := 38) d_M_door_37 rfl rfl rfl ?_
              refine Rj_iadd (q := 39) d_M_door_38 rfl ?_
              refine Rj_ia (q := 40) (v := ν 11 ((10 + (2 * a)) + b)) aM_11 rfl (by omega) rfl d_M_door_39 rfl ?_
              refine Rj_iret d_M_door_40 rfl ?_
              first | exact ⟨sm_I (by omega), hC1, kp0 _, kq0 _⟩ | exact ⟨sm_I (by rw [hs14]; first | exact (congrArg (ν 11) (by omega)).trans dt.symm | exact (congrArg (ν 11) (by omega)).trans dsp.symm), hC1, kp0 _, kq0 _⟩ | (exfalso; simp_all; done)
          · have c17 := of_decide_eq_false c17
            refine Rj_iconst (q := 21) d_M_door_20 rfl ?_
            refine Rj_iret d_M_door_21 rfl ?_
            first | exact ⟨sm_I (by omega), hC1, kp0 _, kq0 _⟩ | exact ⟨sm_I (by rw [hs14]; first | exact (congrArg (ν 11) (by omega)).trans dt.symm | exact (congrArg (ν 11) (by omega)).trans dsp.symm), hC1, kp0 _, kq0 _⟩ | (exfalso; simp_all; done)
      · refine Rj_tsI (t := 62) d_D_door_14 (by first | assumption | exact ⟨by omega, by omega⟩) (by omega) (by omega) (by rw [hs14]; rfl) (by decide) ?_
        refine Rj_aload_n (q := 63) d_D_door_62 rfl rfl rfl ?_
        refine Rj_gr (q := 66) (zd := 3) gD_D_25_0 rfl rfl d_D_door_63 rfl ?_
        refine Rj_gr (q := 69) (zd := 5) gD_D_151_3 rfl rfl d_D_door_66 rfl ?_
        refine Rj_iload_n (q := 70) d_D_door_69 rfl rfl rfl ?_
        refine Rj_ia (q := 71) (v := μ 5 a) aD_5 rfl (by omega) rfl d_D_door_70 rfl ?_
        refine Rj_iret d_D_door_71 rfl ?_
        refine Rj_aload_n (q := 1) d_M_door_0 rfl rfl rfl ?_
        refine Rj_iload_n (q := 2) d_M_door_1 rfl rfl rfl ?_
        refine Rj_vo (q := 5) (z := y_M_isDoor) (as := [vI a]) (rest := []) (la := [vA 0, vI a]) oM_0_M_isDoor ml_M_353 mw_M_isDoor mv_M_isDoor rfl d_M_door_2 rfl rfl rfl rfl rfl ?_
        refine s_M_isDoor hD (by first | assumption | omega) ?_
        refine Rj_b_eq (q := 8) (t := 20) d_M_door_5 rfl (by decide) (fun c5 => ?_) (fun c5 => ?_)
        · have c5 := of_decide_eq_false c5
          refine Rj_iconst (q := 21) d_M_door_20 rfl ?_
          refine Rj_iret d_M_door_21 rfl ?_
          first | exact ⟨sm_I (by omega), hC1, kp0 _, kq0 _⟩ | exact ⟨sm_I (by rw [hs14]; first | exact (congrArg (ν 11) (by omega)).trans dt.symm | exact (congrArg (ν 11) (by omega)).trans dsp.symm), hC1, kp0 _, kq0 _⟩ | (exfalso; simp_all; done)
        · have c5 := of_decide_eq_true c5
          refine Rj_iload_n (q := 9) d_M_door_8 rfl rfl rfl ?_
          refine Rj_i2l (q := 10) d_M_door_9 rfl (by first | assumption | exact ⟨by omega, by omega⟩) ?_
          refine Rj_lconst (q := 11) (z := 0) d_M_door_10 rfl rfl ?_
          refine Rj_ldc2 (q := 14) k_M_356 d_M_door_11 rfl ?_
          refine Rj_cs (q := 17) (z := y_M_in) (as := [vL b, vL 0, vL 5]) (rest := []) (la := [vL b, vU, vL 0, vU, vL 5, vU]) ml_M_138 mw_M_in ms_M_in d_M_door_14 rfl rfl rfl rfl rfl ?_
          refine s_M_in ⟨by omega, by omega⟩ (by decide) (by decide) ?_
          refine Rj_b_ne (q := 20) (t := 22) d_M_door_17 rfl (by decide) (fun c17 => ?_) (fun c17 => ?_)
          · have c17 := of_decide_eq_true c17
            refine Rj_iload_n (q := 23) d_M_door_22 rfl rfl rfl ?_
            refine Rj_iconst (q := 24) d_M_door_23 rfl ?_
            refine Rj_icmp_ge (q := 27) (t := 41) d_M_door_24 rfl (by decide) (by first | assumption | exact ⟨by omega, by omega⟩) (by decide) (fun c24 => ?_) (fun c24 => ?_)
            · refine Rj_iload_n (q := 42) d_M_door_41 rfl rfl rfl ?_
              refine Rj_iconst (q := 43) d_M_door_42 rfl ?_
              refine Rj_icmp_ne (q := 46) (t := 65) d_M_door_43 rfl (by decide) (by first | assumption | exact ⟨by omega, by omega⟩) (by decide) (fun c43 => ?_) (fun c43 => ?_)
              · refine Rj_iload_n (q := 66) d_M_door_65 rfl rfl rfl ?_
                refine Rj_iconst (q := 67) d_M_door_66 rfl ?_
                refine Rj_icmp_ne (q := 70) (t := 86) d_M_door_67 rfl (by decide) (by first | assumption | exact ⟨by omega, by omega⟩) (by decide) (fun c67 => ?_) (fun c67 => ?_)
                · refine Rj_iload_n (q := 87) d_M_door_86 rfl rfl rfl ?_
                  refine Rj_iconst (q := 88) d_M_door_87 rfl ?_
                  refine Rj_icmp_ne (q := 91) (t := 108) d_M_door_88 rfl (by decide) (by first | assumption | exact ⟨by omega, by omega⟩) (by decide) (fun c88 => ?_) (fun c88 => ?_)
                  · refine Rj_aload_n (q := 109) d_M_door_108 rfl rfl rfl ?_
                    refine Rj_gr (q := 112) (zd := 14) gM_M_51_0 rfl rfl d_M_door_109 rfl ?_
                    refine Rj_iload_n (q := 113) d_M_door_112 rfl rfl rfl ?_
                    refine Rj_ia (q := 114) (v := ν 14 a) aM_14 rfl (by omega) rfl d_M_door_113 rfl ?_
                    refine Rj_iret d_M_door_114 rfl ?_
                    first | exact ⟨sm_I (by omega), hC1, kp0 _, kq0 _⟩ | exact ⟨sm_I (by rw [hs14]; first | exact (congrArg (ν 11) (by omega)).trans dt.symm | exact (congrArg (ν 11) (by omega)).trans dsp.symm), hC1, kp0 _, kq0 _⟩ | (exfalso; simp_all; done)
                  · refine Rj_aload_n (q := 92) d_M_door_91 rfl rfl rfl ?_
                    refine Rj_gr (q := 95) (zd := 17) gM_M_60_0 rfl rfl d_M_door_92 rfl ?_
                    refine Rj_iload_n (q := 96) d_M_door_95 rfl rfl rfl ?_
                    refine Rj_za (q := 97) (v := ν 17 a) aM_17 rfl (by omega) rfl d_M_door_96 rfl ?_
                    refine Rj_if_eq (q := 100) (t := 104) d_M_door_97 rfl (by decide) (by first | assumption | exact ⟨by omega, by omega⟩) (fun c97 => ?_) (fun c97 => ?_)
                    · refine Rj_iconst (q := 105) d_M_door_104 rfl ?_
                      refine Rj_goto (t := 114) d_M_door_105 (by decide) ?_
                      refine Rj_iret d_M_door_114 rfl ?_
                      first | exact ⟨sm_I (by omega), hC1, kp0 _, kq0 _⟩ | exact ⟨sm_I (by rw [hs14]; first | exact (congrArg (ν 11) (by omega)).trans dt.symm | exact (congrArg (ν 11) (by omega)).trans dsp.symm), hC1, kp0 _, kq0 _⟩ | (exfalso; simp_all; done)
                    · refine Rj_iconst (q := 101) d_M_door_100 rfl ?_
                      refine Rj_goto (t := 114) d_M_door_101 (by decide) ?_
                      refine Rj_iret d_M_door_114 rfl ?_
                      first | exact ⟨sm_I (by omega), hC1, kp0 _, kq0 _⟩ | exact ⟨sm_I (by rw [hs14]; first | exact (congrArg (ν 11) (by omega)).trans dt.symm | exact (congrArg (ν 11) (by omega)).trans dsp.symm), hC1, kp0 _, kq0 _⟩ | (exfalso; simp_all; done)
                · refine Rj_aload_n (q := 71) d_M_door_70 rfl rfl rfl ?_
                  refine Rj_iload_n (q := 72) d_M_door_71 rfl rfl rfl ?_
                  refine Rj_vo (q := 75) (z := y_M_isOpen) (as := [vI a]) (rest := []) (la := [vA 0, vI a]) oM_0_M_isOpen ml_M_350 mw_M_isOpen mv_M_isOpen rfl d_M_door_72 rfl rfl rfl rfl rfl ?_
                  refine s_M_isOpen hM ⟨by omega, by omega⟩ ?_
                  refine Rj_b_eq (q := 78) (t := 82) d_M_door_75 rfl (by decide) (fun c75 => ?_) (fun c75 => ?_)
                  · refine Rj_iconst (q := 83) d_M_door_82 rfl ?_
                    refine Rj_goto (t := 114) d_M_door_83 (by decide) ?_
                    refine Rj_iret d_M_door_114 rfl ?_
                    first | exact ⟨sm_I (by omega), hC1, kp0 _, kq0 _⟩ | exact ⟨sm_I (by rw [hs14]; first | exact (congrArg (ν 11) (by omega)).trans dt.symm | exact (congrArg (ν 11) (by omega)).trans dsp.symm), hC1, kp0 _, kq0 _⟩ | (exfalso; simp_all; done)
                  · refine Rj_iconst (q := 79) d_M_door_78 rfl ?_
                    refine Rj_goto (t := 114) d_M_door_79 (by decide) ?_
                    refine Rj_iret d_M_door_114 rfl ?_
                    first | exact ⟨sm_I (by omega), hC1, kp0 _, kq0 _⟩ | exact ⟨sm_I (by rw [hs14]; first | exact (congrArg (ν 11) (by omega)).trans dt.symm | exact (congrArg (ν 11) (by omega)).trans dsp.symm), hC1, kp0 _, kq0 _⟩ | (exfalso; simp_all; done)
              · refine Rj_aload_n (q := 47) d_M_door_46 rfl rfl rfl ?_
                refine Rj_gr (q := 50) (zd := 11) gM_M_42_0 rfl rfl d_M_door_47 rfl ?_
                refine Rj_iconst (q := 51) d_M_door_50 rfl ?_
                refine Rj_ia (q := 52) (v := ν 11 2) aM_11 rfl (by decide) rfl d_M_door_51 rfl ?_
                refine Rj_iload_n (q := 53) d_M_door_52 rfl rfl rfl ?_
                refine Rj_cs (q := 56) (z := y_M_isOf) (as := [vI (ν 11 2), vI a]) (rest := []) (la := [vI (ν 11 2), vI a]) ml_M_317 mw_M_isOf ms_M_isOf d_M_door_53 rfl rfl rfl rfl rfl ?_
                refine s_M_isOf (by first | assumption | exact ⟨by omega, by omega⟩) (by omega) ?_
                refine Rj_b_eq (q := 59) (t := 63) d_M_door_56 rfl (by decide) (fun c56 => ?_) (fun c56 => ?_)
                · have c56 := of_decide_eq_false c56
                  rw [← z4] at c56
                  refine Rj_iconst (q := 64) d_M_door_63 rfl ?_
                  refine Rj_iret d_M_door_64 rfl ?_
                  first | exact ⟨sm_I (by omega), hC1, kp0 _, kq0 _⟩ | exact ⟨sm_I (by rw [hs14]; first | exact (congrArg (ν 11) (by omega)).trans dt.symm | exact (congrArg (ν 11) (by omega)).trans dsp.symm), hC1, kp0 _, kq0 _⟩ | (exfalso; simp_all; done)
                · have c56 := of_decide_eq_true c56
                  rw [← z4] at c56
                  refine Rj_iconst (q := 60) d_M_door_59 rfl ?_
                  refine Rj_goto (t := 64) d_M_door_60 (by decide) ?_
                  refine Rj_iret d_M_door_64 rfl ?_
                  first | exact ⟨sm_I (by omega), hC1, kp0 _, kq0 _⟩ | exact ⟨sm_I (by rw [hs14]; first | exact (congrArg (ν 11) (by omega)).trans dt.symm | exact (congrArg (ν 11) (by omega)).trans dsp.symm), hC1, kp0 _, kq0 _⟩ | (exfalso; simp_all; done)
            · refine Rj_aload_n (q := 28) d_M_door_27 rfl rfl rfl ?_
              refine Rj_gr (q := 31) (zd := 11) gM_M_42_0 rfl rfl d_M_door_28 rfl ?_
              refine Rj_bipush (q := 33) d_M_door_31 rfl (by decide +kernel) ?_
              refine Rj_iconst (q := 34) d_M_door_33 rfl ?_
              refine Rj_iload_n (q := 35) d_M_door_34 rfl rfl rfl ?_
              refine Rj_imul (q := 36) d_M_door_35 rfl ?_
              refine Rj_iadd (q := 37) d_M_door_36 rfl ?_
              refine Rj_iload_n (q := 38) d_M_door_37 rfl rfl rfl ?_
              refine Rj_iadd (q := 39) d_M_door_38 rfl ?_
              refine Rj_ia (q := 40) (v := ν 11 ((10 + (2 * a)) + b)) aM_11 rfl (by omega) rfl d_M_door_39 rfl ?_
              refine Rj_iret d_M_door_40 rfl ?_
              first | exact ⟨sm_I (by omega), hC1, kp0 _, kq0 _⟩ | exact ⟨sm_I (by rw [hs14]; first | exact (congrArg (ν 11) (by omega)).trans dt.symm | exact (congrArg (ν 11) (by omega)).trans dsp.symm), hC1, kp0 _, kq0 _⟩ | (exfalso; simp_all; done)
          · have c17 := of_decide_eq_false c17
            refine Rj_iconst (q := 21) d_M_door_20 rfl ?_
            refine Rj_iret d_M_door_21 rfl ?_
            first | exact ⟨sm_I (by omega), hC1, kp0 _, kq0 _⟩ | exact ⟨sm_I (by rw [hs14]; first | exact (congrArg (ν 11) (by omega)).trans dt.symm | exact (congrArg (ν 11) (by omega)).trans dsp.symm), hC1, kp0 _, kq0 _⟩ | (exfalso; simp_all; done)
      · refine Rj_tsI (t := 72) d_D_door_14 (by first | assumption | exact ⟨by omega, by omega⟩) (by omega) (by omega) (by rw [hs14]; rfl) (by decide) ?_
        refine Rj_aload_n (q := 73) d_D_door_72 rfl rfl rfl ?_
        refine Rj_gr (q := 76) (zd := 3) gD_D_25_0 rfl rfl d_D_door_73 rfl ?_
        refine Rj_gi (q := 79) (ki := 3) (v := μ 3 3) gD_D_154_3 rfl rfl rfl d_D_door_76 rfl ?_
        refine Rj_iload_n (q := 80) d_D_door_79 rfl rfl rfl ?_
        refine Rj_cs (q := 83) (z := y_D_bitOf) (as := [vI (μ 3 3), vI a]) (rest := []) (la := [vI (μ 3 3), vI a]) ml_D_157 mw_D_bitOf ms_D_bitOf d_D_door_80 rfl rfl rfl rfl rfl ?_
        refine s_D_bitOf (by omega) (by omega) ?_
        refine Rj_iret d_D_door_83 rfl ?_
        refine Rj_aload_n (q := 1) d_M_door_0 rfl rfl rfl ?_
        refine Rj_iload_n (q := 2) d_M_door_1 rfl rfl rfl ?_
        refine Rj_vo (q := 5) (z := y_M_isDoor) (as := [vI a]) (rest := []) (la := [vA 0, vI a]) oM_0_M_isDoor ml_M_353 mw_M_isDoor mv_M_isDoor rfl d_M_door_2 rfl rfl rfl rfl rfl ?_
        refine s_M_isDoor hD (by first | assumption | omega) ?_
        refine Rj_b_eq (q := 8) (t := 20) d_M_door_5 rfl (by decide) (fun c5 => ?_) (fun c5 => ?_)
        · have c5 := of_decide_eq_false c5
          refine Rj_iconst (q := 21) d_M_door_20 rfl ?_
          refine Rj_iret d_M_door_21 rfl ?_
          first | exact ⟨sm_I (by omega), hC1, kp0 _, kq0 _⟩ | exact ⟨sm_I (by rw [hs14]; first | exact (congrArg (ν 11) (by omega)).trans dt.symm | exact (congrArg (ν 11) (by omega)).trans dsp.symm), hC1, kp0 _, kq0 _⟩ | (exfalso; simp_all; done)
        · have c5 := of_decide_eq_true c5
          refine Rj_iload_n (q := 9) d_M_door_8 rfl rfl rfl ?_
          refine Rj_i2l (q := 10) d_M_door_9 rfl (by first | assumption | exact ⟨by omega, by omega⟩) ?_
          refine Rj_lconst (q := 11) (z := 0) d_M_door_10 rfl rfl ?_
          refine Rj_ldc2 (q := 14) k_M_356 d_M_door_11 rfl ?_
          refine Rj_cs (q := 17) (z := y_M_in) (as := [vL b, vL 0, vL 5]) (rest := []) (la := [vL b, vU, vL 0, vU, vL 5, vU]) ml_M_138 mw_M_in ms_M_in d_M_door_14 rfl rfl rfl rfl rfl ?_
          refine s_M_in ⟨by omega, by omega⟩ (by decide) (by decide) ?_
          refine Rj_b_ne (q := 20) (t := 22) d_M_door_17 rfl (by decide) (fun c17 => ?_) (fun c17 => ?_)
          · have c17 := of_decide_eq_true c17
            refine Rj_iload_n (q := 23) d_M_door_22 rfl rfl rfl ?_
            refine Rj_iconst (q := 24) d_M_door_23 rfl ?_
            refine Rj_icmp_ge (q := 27) (t := 41) d_M_door_24 rfl (by decide) (by first | assumption | exact ⟨by omega, by omega⟩) (by decide) (fun c24 => ?_) (fun c24 => ?_)
            · refine Rj_iload_n (q := 42) d_M_door_41 rfl rfl rfl ?_
              refine Rj_iconst (q := 43) d_M_door_42 rfl ?_
              refine Rj_icmp_ne (q := 46) (t := 65) d_M_door_43 rfl (by decide) (by first | assumption | exact ⟨by omega, by omega⟩) (by decide) (fun c43 => ?_) (fun c43 => ?_)
              · refine Rj_iload_n (q := 66) d_M_door_65 rfl rfl rfl ?_
                refine Rj_iconst (q := 67) d_M_door_66 rfl ?_
                refine Rj_icmp_ne (q := 70) (t := 86) d_M_door_67 rfl (by decide) (by first | assumption | exact ⟨by omega, by omega⟩) (by decide) (fun c67 => ?_) (fun c67 => ?_)
                · refine Rj_iload_n (q := 87) d_M_door_86 rfl rfl rfl ?_
                  refine Rj_iconst (q := 88) d_M_door_87 rfl ?_
                  refine Rj_icmp_ne (q := 91) (t := 108) d_M_door_88 rfl (by decide) (by first | assumption | exact ⟨by omega, by omega⟩) (by decide) (fun c88 => ?_) (fun c88 => ?_)
                  · refine Rj_aload_n (q := 109) d_M_door_108 rfl rfl rfl ?_
                    refine Rj_gr (q := 112) (zd := 14) gM_M_51_0 rfl rfl d_M_door_109 rfl ?_
                    refine Rj_iload_n (q := 113) d_M_door_112 rfl rfl rfl ?_
                    refine Rj_ia (q := 114) (v := ν 14 a) aM_14 rfl (by omega) rfl d_M_door_113 rfl ?_
                    refine Rj_iret d_M_door_114 rfl ?_
                    first | exact ⟨sm_I (by omega), hC1, kp0 _, kq0 _⟩ | exact ⟨sm_I (by rw [hs14]; first | exact (congrArg (ν 11) (by omega)).trans dt.symm | exact (congrArg (ν 11) (by omega)).trans dsp.symm), hC1, kp0 _, kq0 _⟩ | (exfalso; simp_all; done)
                  · refine Rj_aload_n (q := 92) d_M_door_91 rfl rfl rfl ?_
                    refine Rj_gr (q := 95) (zd := 17) gM_M_60_0 rfl rfl d_M_door_92 rfl ?_
                    refine Rj_iload_n (q := 96) d_M_door_95 rfl rfl rfl ?_
                    refine Rj_za (q := 97) (v := ν 17 a) aM_17 rfl (by omega) rfl d_M_door_96 rfl ?_
                    refine Rj_if_eq (q := 100) (t := 104) d_M_door_97 rfl (by decide) (by first | assumption | exact ⟨by omega, by omega⟩) (fun c97 => ?_) (fun c97 => ?_)
                    · refine Rj_iconst (q := 105) d_M_door_104 rfl ?_
                      refine Rj_goto (t := 114) d_M_door_105 (by decide) ?_
                      refine Rj_iret d_M_door_114 rfl ?_
                      first | exact ⟨sm_I (by omega), hC1, kp0 _, kq0 _⟩ | exact ⟨sm_I (by rw [hs14]; first | exact (congrArg (ν 11) (by omega)).trans dt.symm | exact (congrArg (ν 11) (by omega)).trans dsp.symm), hC1, kp0 _, kq0 _⟩ | (exfalso; simp_all; done)
                    · refine Rj_iconst (q := 101) d_M_door_100 rfl ?_
                      refine Rj_goto (t := 114) d_M_door_101 (by decide) ?_
                      refine Rj_iret d_M_door_114 rfl ?_
                      first | exact ⟨sm_I (by omega), hC1, kp0 _, kq0 _⟩ | exact ⟨sm_I (by rw [hs14]; first | exact (congrArg (ν 11) (by omega)).trans dt.symm | exact (congrArg (ν 11) (by omega)).trans dsp.symm), hC1, kp0 _, kq0 _⟩ | (exfalso; simp_all; done)
                · refine Rj_aload_n (q := 71) d_M_door_70 rfl rfl rfl ?_
                  refine Rj_iload_n (q := 72) d_M_door_71 rfl rfl rfl ?_
                  refine Rj_vo (q := 75) (z := y_M_isOpen) (as := [vI a]) (rest := []) (la := [vA 0, vI a]) oM_0_M_isOpen ml_M_350 mw_M_isOpen mv_M_isOpen rfl d_M_door_72 rfl rfl rfl rfl rfl ?_
                  refine s_M_isOpen hM ⟨by omega, by omega⟩ ?_
                  refine Rj_b_eq (q := 78) (t := 82) d_M_door_75 rfl (by decide) (fun c75 => ?_) (fun c75 => ?_)
                  · refine Rj_iconst (q := 83) d_M_door_82 rfl ?_
                    refine Rj_goto (t := 114) d_M_door_83 (by decide) ?_
                    refine Rj_iret d_M_door_114 rfl ?_
                    first | exact ⟨sm_I (by omega), hC1, kp0 _, kq0 _⟩ | exact ⟨sm_I (by rw [hs14]; first | exact (congrArg (ν 11) (by omega)).trans dt.symm | exact (congrArg (ν 11) (by omega)).trans dsp.symm), hC1, kp0 _, kq0 _⟩ | (exfalso; simp_all; done)
                  · refine Rj_iconst (q := 79) d_M_door_78 rfl ?_
                    refine Rj_goto (t := 114) d_M_door_79 (by decide) ?_
                    refine Rj_iret d_M_door_114 rfl ?_
                    first | exact ⟨sm_I (by omega), hC1, kp0 _, kq0 _⟩ | exact ⟨sm_I (by rw [hs14]; first | exact (congrArg (ν 11) (by omega)).trans dt.symm | exact (congrArg (ν 11) (by omega)).trans dsp.symm), hC1, kp0 _, kq0 _⟩ | (exfalso; simp_all; done)
              · refine Rj_aload_n (q := 47) d_M_door_46 rfl rfl rfl ?_
                refine Rj_gr (q := 50) (zd := 11) gM_M_42_0 rfl rfl d_M_door_47 rfl ?_
                refine Rj_iconst (q := 51) d_M_door_50 rfl ?_
                refine Rj_ia (q := 52) (v := ν 11 2) aM_11 rfl (by decide) rfl d_M_door_51 rfl ?_
                refine Rj_iload_n (q := 53) d_M_door_52 rfl rfl rfl ?_
                refine Rj_cs (q := 56) (z := y_M_isOf) (as := [vI (ν 11 2), vI a]) (rest := []) (la := [vI (ν 11 2), vI a]) ml_M_317 mw_M_isOf ms_M_isOf d_M_door_53 rfl rfl rfl rfl rfl ?_
                refine s_M_isOf (by first | assumption | exact ⟨by omega, by omega⟩) (by omega) ?_
                refine Rj_b_eq (q := 59) (t := 63) d_M_door_56 rfl (by decide) (fun c56 => ?_) (fun c56 => ?_)
                · have c56 := of_decide_eq_false c56
                  rw [← z4] at c56
                  refine Rj_iconst (q := 64) d_M_door_63 rfl ?_
                  refine Rj_iret d_M_door_64 rfl ?_
                  first | exact ⟨sm_I (by omega), hC1, kp0 _, kq0 _⟩ | exact ⟨sm_I (by rw [hs14]; first | exact (congrArg (ν 11) (by omega)).trans dt.symm | exact (congrArg (ν 11) (by omega)).trans dsp.symm), hC1, kp0 _, kq0 _⟩ | (exfalso; simp_all; done)
                · have c56 := of_decide_eq_true c56
                  rw [← z4] at c56
                  refine Rj_iconst (q := 60) d_M_door_59 rfl ?_
                  refine Rj_goto (t := 64) d_M_door_60 (by decide) ?_
                  refine Rj_iret d_M_door_64 rfl ?_
                  first | exact ⟨sm_I (by omega), hC1, kp0 _, kq0 _⟩ | exact ⟨sm_I (by rw [hs14]; first | exact (congrArg (ν 11) (by omega)).trans dt.symm | exact (congrArg (ν 11) (by omega)).trans dsp.symm), hC1, kp0 _, kq0 _⟩ | (exfalso; simp_all; done)
            · refine Rj_aload_n (q := 28) d_M_door_27 rfl rfl rfl ?_
              refine Rj_gr (q := 31) (zd := 11) gM_M_42_0 rfl rfl d_M_door_28 rfl ?_
              refine Rj_bipush (q := 33) d_M_door_31 rfl (by decide +kernel) ?_
              refine Rj_iconst (q := 34) d_M_door_33 rfl ?_
              refine Rj_iload_n (q := 35) d_M_door_34 rfl rfl rfl ?_
              refine Rj_imul (q := 36) d_M_door_35 rfl ?_
              refine Rj_iadd (q := 37) d_M_door_36 rfl ?_
              refine Rj_iload_n (q := 38) d_M_door_37 rfl rfl rfl ?_
              refine Rj_iadd (q := 39) d_M_door_38 rfl ?_
              refine Rj_ia (q := 40) (v := ν 11 ((10 + (2 * a)) + b)) aM_11 rfl (by omega) rfl d_M_door_39 rfl ?_
              refine Rj_iret d_M_door_40 rfl ?_
              first | exact ⟨sm_I (by omega), hC1, kp0 _, kq0 _⟩ | exact ⟨sm_I (by rw [hs14]; first | exact (congrArg (ν 11) (by omega)).trans dt.symm | exact (congrArg (ν 11) (by omega)).trans dsp.symm), hC1, kp0 _, kq0 _⟩ | (exfalso; simp_all; done)
          · have c17 := of_decide_eq_false c17
            refine Rj_iconst (q := 21) d_M_door_20 rfl ?_
            refine Rj_iret d_M_door_21 rfl ?_
            first | exact ⟨sm_I (by omega), hC1, kp0 _, kq0 _⟩ | exact ⟨sm_I (by rw [hs14]; first | exact (congrArg (ν 11) (by omega)).trans dt.symm | exact (congrArg (ν 11) (by omega)).trans dsp.symm), hC1, kp0 _, kq0 _⟩ | (exfalso; simp_all; done)
      · refine Rj_tsI (t := 84) d_D_door_14 (by first | assumption | exact ⟨by omega, by omega⟩) (by omega) (by omega) (by rw [hs14]; rfl) (by decide) ?_
        refine Rj_aload_n (q := 85) d_D_door_84 rfl rfl rfl ?_
        refine Rj_gr (q := 88) (zd := 59) gD_D_45_0 rfl rfl d_D_door_85 rfl ?_
        refine Rj_iload_n (q := 89) d_D_door_88 rfl rfl rfl ?_
        refine Rj_vo (q := 92) (z := y_Ge_isOpen) (as := [vI a]) (rest := []) (la := [vA 59, vI a]) oD_59_Ge_isOpen ml_D_161 mw_Ge_isOpen mv_Ge_isOpen rfl d_D_door_89 rfl rfl rfl rfl rfl ?_
        refine s_isOpen h ⟨by omega, by omega⟩ ?_
        refine Rj_b_eq (q := 95) (t := 99) d_D_door_92 rfl (by decide) (fun c92 => ?_) (fun c92 => ?_)
        · refine Rj_iconst (q := 100) d_D_door_99 rfl ?_
          refine Rj_iret d_D_door_100 rfl ?_
          refine Rj_aload_n (q := 1) d_M_door_0 rfl rfl rfl ?_
          refine Rj_iload_n (q := 2) d_M_door_1 rfl rfl rfl ?_
          refine Rj_vo (q := 5) (z := y_M_isDoor) (as := [vI a]) (rest := []) (la := [vA 0, vI a]) oM_0_M_isDoor ml_M_353 mw_M_isDoor mv_M_isDoor rfl d_M_door_2 rfl rfl rfl rfl rfl ?_
          refine s_M_isDoor hD (by first | assumption | omega) ?_
          refine Rj_b_eq (q := 8) (t := 20) d_M_door_5 rfl (by decide) (fun c5 => ?_) (fun c5 => ?_)
          · have c5 := of_decide_eq_false c5
            refine Rj_iconst (q := 21) d_M_door_20 rfl ?_
            refine Rj_iret d_M_door_21 rfl ?_
            first | exact ⟨sm_I (by omega), hC1, kp0 _, kq0 _⟩ | exact ⟨sm_I (by rw [hs14]; first | exact (congrArg (ν 11) (by omega)).trans dt.symm | exact (congrArg (ν 11) (by omega)).trans dsp.symm), hC1, kp0 _, kq0 _⟩ | (exfalso; simp_all; done)
          · have c5 := of_decide_eq_true c5
            refine Rj_iload_n (q := 9) d_M_door_8 rfl rfl rfl ?_
            refine Rj_i2l (q := 10) d_M_door_9 rfl (by first | assumption | exact ⟨by omega, by omega⟩) ?_
            refine Rj_lconst (q := 11) (z := 0) d_M_door_10 rfl rfl ?_
            refine Rj_ldc2 (q := 14) k_M_356 d_M_door_11 rfl ?_
            refine Rj_cs (q := 17) (z := y_M_in) (as := [vL b, vL 0, vL 5]) (rest := []) (la := [vL b, vU, vL 0, vU, vL 5, vU]) ml_M_138 mw_M_in ms_M_in d_M_door_14 rfl rfl rfl rfl rfl ?_
            refine s_M_in ⟨by omega, by omega⟩ (by decide) (by decide) ?_
            refine Rj_b_ne (q := 20) (t := 22) d_M_door_17 rfl (by decide) (fun c17 => ?_) (fun c17 => ?_)
            · have c17 := of_decide_eq_true c17
              refine Rj_iload_n (q := 23) d_M_door_22 rfl rfl rfl ?_
              refine Rj_iconst (q := 24) d_M_door_23 rfl ?_
              refine Rj_icmp_ge (q := 27) (t := 41) d_M_door_24 rfl (by decide) (by first | assumption | exact ⟨by omega, by omega⟩) (by decide) (fun c24 => ?_) (fun c24 => ?_)
              · refine Rj_iload_n (q := 42) d_M_door_41 rfl rfl rfl ?_
                refine Rj_iconst (q := 43) d_M_door_42 rfl ?_
                refine Rj_icmp_ne (q := 46) (t := 65) d_M_door_43 rfl (by decide) (by first | assumption | exact ⟨by omega, by omega⟩) (by decide) (fun c43 => ?_) (fun c43 => ?_)
                · refine Rj_iload_n (q := 66) d_M_door_65 rfl rfl rfl ?_
                  refine Rj_iconst (q := 67) d_M_door_66 rfl ?_
                  refine Rj_icmp_ne (q := 70) (t := 86) d_M_door_67 rfl (by decide) (by first | assumption | exact ⟨by omega, by omega⟩) (by decide) (fun c67 => ?_) (fun c67 => ?_)
                  · refine Rj_iload_n (q := 87) d_M_door_86 rfl rfl rfl ?_
                    refine Rj_iconst (q := 88) d_M_door_87 rfl ?_
                    refine Rj_icmp_ne (q := 91) (t := 108) d_M_door_88 rfl (by decide) (by first | assumption | exact ⟨by omega, by omega⟩) (by decide) (fun c88 => ?_) (fun c88 => ?_)
                    · refine Rj_aload_n (q := 109) d_M_door_108 rfl rfl rfl ?_
                      refine Rj_gr (q := 112) (zd := 14) gM_M_51_0 rfl rfl d_M_door_109 rfl ?_
                      refine Rj_iload_n (q := 113) d_M_door_112 rfl rfl rfl ?_
                      refine Rj_ia (q := 114) (v := ν 14 a) aM_14 rfl (by omega) rfl d_M_door_113 rfl ?_
                      refine Rj_iret d_M_door_114 rfl ?_
                      first | exact ⟨sm_I (by omega), hC1, kp0 _, kq0 _⟩ | exact ⟨sm_I (by rw [hs14]; first | exact (congrArg (ν 11) (by omega)).trans dt.symm | exact (congrArg (ν 11) (by omega)).trans dsp.symm), hC1, kp0 _, kq0 _⟩ | (exfalso; simp_all; done)
                    · refine Rj_aload_n (q := 92) d_M_door_91 rfl rfl rfl ?_
                      refine Rj_gr (q := 95) (zd := 17) gM_M_60_0 rfl rfl d_M_door_92 rfl ?_
                      refine Rj_iload_n (q := 96) d_M_door_95 rfl rfl rfl ?_
                      refine Rj_za (q := 97) (v := ν 17 a) aM_17 rfl (by omega) rfl d_M_door_96 rfl ?_
                      refine Rj_if_eq (q := 100) (t := 104) d_M_door_97 rfl (by decide) (by first | assumption | exact ⟨by omega, by omega⟩) (fun c97 => ?_) (fun c97 => ?_)
                      · refine Rj_iconst (q := 105) d_M_door_104 rfl ?_
                        refine Rj_goto (t := 114) d_M_door_105 (by decide) ?_
                        refine Rj_iret d_M_door_114 rfl ?_
                        first | exact ⟨sm_I (by omega), hC1, kp0 _, kq0 _⟩ | exact ⟨sm_I (by rw [hs14]; first | exact (congrArg (ν 11) (by omega)).trans dt.symm | exact (congrArg (ν 11) (by omega)).trans dsp.symm), hC1, kp0 _, kq0 _⟩ | (exfalso; simp_all; done)
                      · refine Rj_iconst (q := 101) d_M_door_100 rfl ?_
                        refine Rj_goto (t := 114) d_M_door_101 (by decide) ?_
                        refine Rj_iret d_M_door_114 rfl ?_
                        first | exact ⟨sm_I (by omega), hC1, kp0 _, kq0 _⟩ | exact ⟨sm_I (by rw [hs14]; first | exact (congrArg (ν 11) (by omega)).trans dt.symm | exact (congrArg (ν 11) (by omega)).trans dsp.symm), hC1, kp0 _, kq0 _⟩ | (exfalso; simp_all; done)
                  · refine Rj_aload_n (q := 71) d_M_door_70 rfl rfl rfl ?_
                    refine Rj_iload_n (q := 72) d_M_door_71 rfl rfl rfl ?_
                    refine Rj_vo (q := 75) (z := y_M_isOpen) (as := [vI a]) (rest := []) (la := [vA 0, vI a]) oM_0_M_isOpen ml_M_350 mw_M_isOpen mv_M_isOpen rfl d_M_door_72 rfl rfl rfl rfl rfl ?_
                    refine s_M_isOpen hM ⟨by omega, by omega⟩ ?_
                    refine Rj_b_eq (q := 78) (t := 82) d_M_door_75 rfl (by decide) (fun c75 => ?_) (fun c75 => ?_)
                    · refine Rj_iconst (q := 83) d_M_door_82 rfl ?_
                      refine Rj_goto (t := 114) d_M_door_83 (by decide) ?_
                      refine Rj_iret d_M_door_114 rfl ?_
                      first | exact ⟨sm_I (by omega), hC1, kp0 _, kq0 _⟩ | exact ⟨sm_I (by rw [hs14]; first | exact (congrArg (ν 11) (by omega)).trans dt.symm | exact (congrArg (ν 11) (by omega)).trans dsp.symm), hC1, kp0 _, kq0 _⟩ | (exfalso; simp_all; done)
                    · refine Rj_iconst (q := 79) d_M_door_78 rfl ?_
                      refine Rj_goto (t := 114) d_M_door_79 (by decide) ?_
                      refine Rj_iret d_M_door_114 rfl ?_
                      first | exact ⟨sm_I (by omega), hC1, kp0 _, kq0 _⟩ | exact ⟨sm_I (by rw [hs14]; first | exact (congrArg (ν 11) (by omega)).trans dt.symm | exact (congrArg (ν 11) (by omega)).trans dsp.symm), hC1, kp0 _, kq0 _⟩ | (exfalso; simp_all; done)
                · refine Rj_aload_n (q := 47) d_M_door_46 rfl rfl rfl ?_
                  refine Rj_gr (q := 50) (zd := 11) gM_M_42_0 rfl rfl d_M_door_47 rfl ?_
                  refine Rj_iconst (q := 51) d_M_door_50 rfl ?_
                  refine Rj_ia (q := 52) (v := ν 11 2) aM_11 rfl (by decide) rfl d_M_door_51 rfl ?_
                  refine Rj_iload_n (q := 53) d_M_door_52 rfl rfl rfl ?_
                  refine Rj_cs (q := 56) (z := y_M_isOf) (as := [vI (ν 11 2), vI a]) (rest := []) (la := [vI (ν 11 2), vI a]) ml_M_317 mw_M_isOf ms_M_isOf d_M_door_53 rfl rfl rfl rfl rfl ?_
                  refine s_M_isOf (by first | assumption | exact ⟨by omega, by omega⟩) (by omega) ?_
                  refine Rj_b_eq (q := 59) (t := 63) d_M_door_56 rfl (by decide) (fun c56 => ?_) (fun c56 => ?_)
                  · have c56 := of_decide_eq_false c56
                    rw [← z4] at c56
                    refine Rj_iconst (q := 64) d_M_door_63 rfl ?_
                    refine Rj_iret d_M_door_64 rfl ?_
                    first | exact ⟨sm_I (by omega), hC1, kp0 _, kq0 _⟩ | exact ⟨sm_I (by rw [hs14]; first | exact (congrArg (ν 11) (by omega)).trans dt.symm | exact (congrArg (ν 11) (by omega)).trans dsp.symm), hC1, kp0 _, kq0 _⟩ | (exfalso; simp_all; done)
                  · have c56 := of_decide_eq_true c56
                    rw [← z4] at c56
                    refine Rj_iconst (q := 60) d_M_door_59 rfl ?_
                    refine Rj_goto (t := 64) d_M_door_60 (by decide) ?_
                    refine Rj_iret d_M_door_64 rfl ?_
                    first | exact ⟨sm_I (by omega), hC1, kp0 _, kq0 _⟩ | exact ⟨sm_I (by rw [hs14]; first | exact (congrArg (ν 11) (by omega)).trans dt.symm | exact (congrArg (ν 11) (by omega)).trans dsp.symm), hC1, kp0 _, kq0 _⟩ | (exfalso; simp_all; done)
              · refine Rj_aload_n (q := 28) d_M_door_27 rfl rfl rfl ?_
                refine Rj_gr (q := 31) (zd := 11) gM_M_42_0 rfl rfl d_M_door_28 rfl ?_
                refine Rj_bipush (q := 33) d_M_door_31 rfl (by decide +kernel) ?_
                refine Rj_iconst (q := 34) d_M_door_33 rfl ?_
                refine Rj_iload_n (q := 35) d_M_door_34 rfl rfl rfl ?_
                refine Rj_imul (q := 36) d_M_door_35 rfl ?_
                refine Rj_iadd (q := 37) d_M_door_36 rfl ?_
                refine Rj_iload_n (q := 38) d_M_door_37 rfl rfl rfl ?_
                refine Rj_iadd (q := 39) d_M_door_38 rfl ?_
                refine Rj_ia (q := 40) (v := ν 11 ((10 + (2 * a)) + b)) aM_11 rfl (by omega) rfl d_M_door_39 rfl ?_
                refine Rj_iret d_M_door_40 rfl ?_
                first | exact ⟨sm_I (by omega), hC1, kp0 _, kq0 _⟩ | exact ⟨sm_I (by rw [hs14]; first | exact (congrArg (ν 11) (by omega)).trans dt.symm | exact (congrArg (ν 11) (by omega)).trans dsp.symm), hC1, kp0 _, kq0 _⟩ | (exfalso; simp_all; done)
            · have c17 := of_decide_eq_false c17
              refine Rj_iconst (q := 21) d_M_door_20 rfl ?_
              refine Rj_iret d_M_door_21 rfl ?_
              first | exact ⟨sm_I (by omega), hC1, kp0 _, kq0 _⟩ | exact ⟨sm_I (by rw [hs14]; first | exact (congrArg (ν 11) (by omega)).trans dt.symm | exact (congrArg (ν 11) (by omega)).trans dsp.symm), hC1, kp0 _, kq0 _⟩ | (exfalso; simp_all; done)
        · refine Rj_iconst (q := 96) d_D_door_95 rfl ?_
          refine Rj_goto (t := 100) d_D_door_96 (by decide) ?_
          refine Rj_iret d_D_door_100 rfl ?_
          refine Rj_aload_n (q := 1) d_M_door_0 rfl rfl rfl ?_
          refine Rj_iload_n (q := 2) d_M_door_1 rfl rfl rfl ?_
          refine Rj_vo (q := 5) (z := y_M_isDoor) (as := [vI a]) (rest := []) (la := [vA 0, vI a]) oM_0_M_isDoor ml_M_353 mw_M_isDoor mv_M_isDoor rfl d_M_door_2 rfl rfl rfl rfl rfl ?_
          refine s_M_isDoor hD (by first | assumption | omega) ?_
          refine Rj_b_eq (q := 8) (t := 20) d_M_door_5 rfl (by decide) (fun c5 => ?_) (fun c5 => ?_)
          · have c5 := of_decide_eq_false c5
            refine Rj_iconst (q := 21) d_M_door_20 rfl ?_
            refine Rj_iret d_M_door_21 rfl ?_
            first | exact ⟨sm_I (by omega), hC1, kp0 _, kq0 _⟩ | exact ⟨sm_I (by rw [hs14]; first | exact (congrArg (ν 11) (by omega)).trans dt.symm | exact (congrArg (ν 11) (by omega)).trans dsp.symm), hC1, kp0 _, kq0 _⟩ | (exfalso; simp_all; done)
          · have c5 := of_decide_eq_true c5
            refine Rj_iload_n (q := 9) d_M_door_8 rfl rfl rfl ?_
            refine Rj_i2l (q := 10) d_M_door_9 rfl (by first | assumption | exact ⟨by omega, by omega⟩) ?_
            refine Rj_lconst (q := 11) (z := 0) d_M_door_10 rfl rfl ?_
            refine Rj_ldc2 (q := 14) k_M_356 d_M_door_11 rfl ?_
            refine Rj_cs (q := 17) (z := y_M_in) (as := [vL b, vL 0, vL 5]) (rest := []) (la := [vL b, vU, vL 0, vU, vL 5, vU]) ml_M_138 mw_M_in ms_M_in d_M_door_14 rfl rfl rfl rfl rfl ?_
            refine s_M_in ⟨by omega, by omega⟩ (by decide) (by decide) ?_
            refine Rj_b_ne (q := 20) (t := 22) d_M_door_17 rfl (by decide) (fun c17 => ?_) (fun c17 => ?_)
            · have c17 := of_decide_eq_true c17
              refine Rj_iload_n (q := 23) d_M_door_22 rfl rfl rfl ?_
              refine Rj_iconst (q := 24) d_M_door_23 rfl ?_
              refine Rj_icmp_ge (q := 27) (t := 41) d_M_door_24 rfl (by decide) (by first | assumption | exact ⟨by omega, by omega⟩) (by decide) (fun c24 => ?_) (fun c24 => ?_)
              · refine Rj_iload_n (q := 42) d_M_door_41 rfl rfl rfl ?_
                refine Rj_iconst (q := 43) d_M_door_42 rfl ?_
                refine Rj_icmp_ne (q := 46) (t := 65) d_M_door_43 rfl (by decide) (by first | assumption | exact ⟨by omega, by omega⟩) (by decide) (fun c43 => ?_) (fun c43 => ?_)
                · refine Rj_iload_n (q := 66) d_M_door_65 rfl rfl rfl ?_
                  refine Rj_iconst (q := 67) d_M_door_66 rfl ?_
                  refine Rj_icmp_ne (q := 70) (t := 86) d_M_door_67 rfl (by decide) (by first | assumption | exact ⟨by omega, by omega⟩) (by decide) (fun c67 => ?_) (fun c67 => ?_)
                  · refine Rj_iload_n (q := 87) d_M_door_86 rfl rfl rfl ?_
                    refine Rj_iconst (q := 88) d_M_door_87 rfl ?_
                    refine Rj_icmp_ne (q := 91) (t := 108) d_M_door_88 rfl (by decide) (by first | assumption | exact ⟨by omega, by omega⟩) (by decide) (fun c88 => ?_) (fun c88 => ?_)
                    · refine Rj_aload_n (q := 109) d_M_door_108 rfl rfl rfl ?_
                      refine Rj_gr (q := 112) (zd := 14) gM_M_51_0 rfl rfl d_M_door_109 rfl ?_
                      refine Rj_iload_n (q := 113) d_M_door_112 rfl rfl rfl ?_
                      refine Rj_ia (q := 114) (v := ν 14 a) aM_14 rfl (by omega) rfl d_M_door_113 rfl ?_
                      refine Rj_iret d_M_door_114 rfl ?_
                      first | exact ⟨sm_I (by omega), hC1, kp0 _, kq0 _⟩ | exact ⟨sm_I (by rw [hs14]; first | exact (congrArg (ν 11) (by omega)).trans dt.symm | exact (congrArg (ν 11) (by omega)).trans dsp.symm), hC1, kp0 _, kq0 _⟩ | (exfalso; simp_all; done)
                    · refine Rj_aload_n (q := 92) d_M_door_91 rfl rfl rfl ?_
                      refine Rj_gr (q := 95) (zd := 17) gM_M_60_0 rfl rfl d_M_door_92 rfl ?_
                      refine Rj_iload_n (q := 96) d_M_door_95 rfl rfl rfl ?_
                      refine Rj_za (q := 97) (v := ν 17 a) aM_17 rfl (by omega) rfl d_M_door_96 rfl ?_
                      refine Rj_if_eq (q := 100) (t := 104) d_M_door_97 rfl (by decide) (by first | assumption | exact ⟨by omega, by omega⟩) (fun c97 => ?_) (fun c97 => ?_)
                      · refine Rj_iconst (q := 105) d_M_door_104 rfl ?_
                        refine Rj_goto (t := 114) d_M_door_105 (by decide) ?_
                        refine Rj_iret d_M_door_114 rfl ?_
                        first | exact ⟨sm_I (by omega), hC1, kp0 _, kq0 _⟩ | exact ⟨sm_I (by rw [hs14]; first | exact (congrArg (ν 11) (by omega)).trans dt.symm | exact (congrArg (ν 11) (by omega)).trans dsp.symm), hC1, kp0 _, kq0 _⟩ | (exfalso; simp_all; done)
                      · refine Rj_iconst (q := 101) d_M_door_100 rfl ?_
                        refine Rj_goto (t := 114) d_M_door_101 (by decide) ?_
                        refine Rj_iret d_M_door_114 rfl ?_
                        first | exact ⟨sm_I (by omega), hC1, kp0 _, kq0 _⟩ | exact ⟨sm_I (by rw [hs14]; first | exact (congrArg (ν 11) (by omega)).trans dt.symm | exact (congrArg (ν 11) (by omega)).trans dsp.symm), hC1, kp0 _, kq0 _⟩ | (exfalso; simp_all; done)
                  · refine Rj_aload_n (q := 71) d_M_door_70 rfl rfl rfl ?_
                    refine Rj_iload_n (q := 72) d_M_door_71 rfl rfl rfl ?_
                    refine Rj_vo (q := 75) (z := y_M_isOpen) (as := [vI a]) (rest := []) (la := [vA 0, vI a]) oM_0_M_isOpen ml_M_350 mw_M_isOpen mv_M_isOpen rfl d_M_door_72 rfl rfl rfl rfl rfl ?_
                    refine s_M_isOpen hM ⟨by omega, by omega⟩ ?_
                    refine Rj_b_eq (q := 78) (t := 82) d_M_door_75 rfl (by decide) (fun c75 => ?_) (fun c75 => ?_)
                    · refine Rj_iconst (q := 83) d_M_door_82 rfl ?_
                      refine Rj_goto (t := 114) d_M_door_83 (by decide) ?_
                      refine Rj_iret d_M_door_114 rfl ?_
                      first | exact ⟨sm_I (by omega), hC1, kp0 _, kq0 _⟩ | exact ⟨sm_I (by rw [hs14]; first | exact (congrArg (ν 11) (by omega)).trans dt.symm | exact (congrArg (ν 11) (by omega)).trans dsp.symm), hC1, kp0 _, kq0 _⟩ | (exfalso; simp_all; done)
                    · refine Rj_iconst (q := 79) d_M_door_78 rfl ?_
                      refine Rj_goto (t := 114) d_M_door_79 (by decide) ?_
                      refine Rj_iret d_M_door_114 rfl ?_
                      first | exact ⟨sm_I (by omega), hC1, kp0 _, kq0 _⟩ | exact ⟨sm_I (by rw [hs14]; first | exact (congrArg (ν 11) (by omega)).trans dt.symm | exact (congrArg (ν 11) (by omega)).trans dsp.symm), hC1, kp0 _, kq0 _⟩ | (exfalso; simp_all; done)
                · refine Rj_aload_n (q := 47) d_M_door_46 rfl rfl rfl ?_
                  refine Rj_gr (q := 50) (zd := 11) gM_M_42_0 rfl rfl d_M_door_47 rfl ?_
                  refine Rj_iconst (q := 51) d_M_door_50 rfl ?_
                  refine Rj_ia (q := 52) (v := ν 11 2) aM_11 rfl (by decide) rfl d_M_door_51 rfl ?_
                  refine Rj_iload_n (q := 53) d_M_door_52 rfl rfl rfl ?_
                  refine Rj_cs (q := 56) (z := y_M_isOf) (as := [vI (ν 11 2), vI a]) (rest := []) (la := [vI (ν 11 2), vI a]) ml_M_317 mw_M_isOf ms_M_isOf d_M_door_53 rfl rfl rfl rfl rfl ?_
                  refine s_M_isOf (by first | assumption | exact ⟨by omega, by omega⟩) (by omega) ?_
                  refine Rj_b_eq (q := 59) (t := 63) d_M_door_56 rfl (by decide) (fun c56 => ?_) (fun c56 => ?_)
                  · have c56 := of_decide_eq_false c56
                    rw [← z4] at c56
                    refine Rj_iconst (q := 64) d_M_door_63 rfl ?_
                    refine Rj_iret d_M_door_64 rfl ?_
                    first | exact ⟨sm_I (by omega), hC1, kp0 _, kq0 _⟩ | exact ⟨sm_I (by rw [hs14]; first | exact (congrArg (ν 11) (by omega)).trans dt.symm | exact (congrArg (ν 11) (by omega)).trans dsp.symm), hC1, kp0 _, kq0 _⟩ | (exfalso; simp_all; done)
                  · have c56 := of_decide_eq_true c56
                    rw [← z4] at c56
                    refine Rj_iconst (q := 60) d_M_door_59 rfl ?_
                    refine Rj_goto (t := 64) d_M_door_60 (by decide) ?_
                    refine Rj_iret d_M_door_64 rfl ?_
                    first | exact ⟨sm_I (by omega), hC1, kp0 _, kq0 _⟩ | exact ⟨sm_I (by rw [hs14]; first | exact (congrArg (ν 11) (by omega)).trans dt.symm | exact (congrArg (ν 11) (by omega)).trans dsp.symm), hC1, kp0 _, kq0 _⟩ | (exfalso; simp_all; done)
              · refine Rj_aload_n (q := 28) d_M_door_27 rfl rfl rfl ?_
                refine Rj_gr (q := 31) (zd := 11) gM_M_42_0 rfl rfl d_M_door_28 rfl ?_
                refine Rj_bipush (q := 33) d_M_door_31 rfl (by decide +kernel) ?_
                refine Rj_iconst (q := 34) d_M_door_33 rfl ?_
                refine Rj_iload_n (q := 35) d_M_door_34 rfl rfl rfl ?_
                refine Rj_imul (q := 36) d_M_door_35 rfl ?_
                refine Rj_iadd (q := 37) d_M_door_36 rfl ?_
                refine Rj_iload_n (q := 38) d_M_door_37 rfl rfl rfl ?_
                refine Rj_iadd (q := 39) d_M_door_38 rfl ?_
                refine Rj_ia (q := 40) (v := ν 11 ((10 + (2 * a)) + b)) aM_11 rfl (by omega) rfl d_M_door_39 rfl ?_
                refine Rj_iret d_M_door_40 rfl ?_
                first | exact ⟨sm_I (by omega), hC1, kp0 _, kq0 _⟩ | exact ⟨sm_I (by rw [hs14]; first | exact (congrArg (ν 11) (by omega)).trans dt.symm | exact (congrArg (ν 11) (by omega)).trans dsp.symm), hC1, kp0 _, kq0 _⟩ | (exfalso; simp_all; done)
            · have c17 := of_decide_eq_false c17
              refine Rj_iconst (q := 21) d_M_door_20 rfl ?_
              refine Rj_iret d_M_door_21 rfl ?_
              first | exact ⟨sm_I (by omega), hC1, kp0 _, kq0 _⟩ | exact ⟨sm_I (by rw [hs14]; first | exact (congrArg (ν 11) (by omega)).trans dt.symm | exact (congrArg (ν 11) (by omega)).trans dsp.symm), hC1, kp0 _, kq0 _⟩ | (exfalso; simp_all; done)
      · refine Rj_tsI (t := 101) d_D_door_14 (by first | assumption | exact ⟨by omega, by omega⟩) (by omega) (by omega) (by rw [hs14]; rfl) (by decide) ?_
        refine Rj_aload_n (q := 102) d_D_door_101 rfl rfl rfl ?_
        refine Rj_gr (q := 105) (zd := 59) gD_D_45_0 rfl rfl d_D_door_102 rfl ?_
        refine Rj_gi (q := 108) (ki := 7) (v := μ 59 7) gD_D_164_59 rfl rfl rfl d_D_door_105 rfl ?_
        refine Rj_iload_n (q := 109) d_D_door_108 rfl rfl rfl ?_
        refine Rj_cs (q := 112) (z := y_D_bitOf) (as := [vI (μ 59 7), vI a]) (rest := []) (la := [vI (μ 59 7), vI a]) ml_D_157 mw_D_bitOf ms_D_bitOf d_D_door_109 rfl rfl rfl rfl rfl ?_
        refine s_D_bitOf (by omega) (by omega) ?_
        refine Rj_iret d_D_door_112 rfl ?_
        refine Rj_aload_n (q := 1) d_M_door_0 rfl rfl rfl ?_
        refine Rj_iload_n (q := 2) d_M_door_1 rfl rfl rfl ?_
        refine Rj_vo (q := 5) (z := y_M_isDoor) (as := [vI a]) (rest := []) (la := [vA 0, vI a]) oM_0_M_isDoor ml_M_353 mw_M_isDoor mv_M_isDoor rfl d_M_door_2 rfl rfl rfl rfl rfl ?_
        refine s_M_isDoor hD (by first | assumption | omega) ?_
        refine Rj_b_eq (q := 8) (t := 20) d_M_door_5 rfl (by decide) (fun c5 => ?_) (fun c5 => ?_)
        · have c5 := of_decide_eq_false c5
          refine Rj_iconst (q := 21) d_M_door_20 rfl ?_
          refine Rj_iret d_M_door_21 rfl ?_
          first | exact ⟨sm_I (by omega), hC1, kp0 _, kq0 _⟩ | exact ⟨sm_I (by rw [hs14]; first | exact (congrArg (ν 11) (by omega)).trans dt.symm | exact (congrArg (ν 11) (by omega)).trans dsp.symm), hC1, kp0 _, kq0 _⟩ | (exfalso; simp_all; done)
        · have c5 := of_decide_eq_true c5
          refine Rj_iload_n (q := 9) d_M_door_8 rfl rfl rfl ?_
          refine Rj_i2l (q := 10) d_M_door_9 rfl (by first | assumption | exact ⟨by omega, by omega⟩) ?_
          refine Rj_lconst (q := 11) (z := 0) d_M_door_10 rfl rfl ?_
          refine Rj_ldc2 (q := 14) k_M_356 d_M_door_11 rfl ?_
          refine Rj_cs (q := 17) (z := y_M_in) (as := [vL b, vL 0, vL 5]) (rest := []) (la := [vL b, vU, vL 0, vU, vL 5, vU]) ml_M_138 mw_M_in ms_M_in d_M_door_14 rfl rfl rfl rfl rfl ?_
          refine s_M_in ⟨by omega, by omega⟩ (by decide) (by decide) ?_
          refine Rj_b_ne (q := 20) (t := 22) d_M_door_17 rfl (by decide) (fun c17 => ?_) (fun c17 => ?_)
          · have c17 := of_decide_eq_true c17
            refine Rj_iload_n (q := 23) d_M_door_22 rfl rfl rfl ?_
            refine Rj_iconst (q := 24) d_M_door_23 rfl ?_
            refine Rj_icmp_ge (q := 27) (t := 41) d_M_door_24 rfl (by decide) (by first | assumption | exact ⟨by omega, by omega⟩) (by decide) (fun c24 => ?_) (fun c24 => ?_)
            · refine Rj_iload_n (q := 42) d_M_door_41 rfl rfl rfl ?_
              refine Rj_iconst (q := 43) d_M_door_42 rfl ?_
              refine Rj_icmp_ne (q := 46) (t := 65) d_M_door_43 rfl (by decide) (by first | assumption | exact ⟨by omega, by omega⟩) (by decide) (fun c43 => ?_) (fun c43 => ?_)
              · refine Rj_iload_n (q := 66) d_M_door_65 rfl rfl rfl ?_
                refine Rj_iconst (q := 67) d_M_door_66 rfl ?_
                refine Rj_icmp_ne (q := 70) (t := 86) d_M_door_67 rfl (by decide) (by first | assumption | exact ⟨by omega, by omega⟩) (by decide) (fun c67 => ?_) (fun c67 => ?_)
                · refine Rj_iload_n (q := 87) d_M_door_86 rfl rfl rfl ?_
                  refine Rj_iconst (q := 88) d_M_door_87 rfl ?_
                  refine Rj_icmp_ne (q := 91) (t := 108) d_M_door_88 rfl (by decide) (by first | assumption | exact ⟨by omega, by omega⟩) (by decide) (fun c88 => ?_) (fun c88 => ?_)
                  · refine Rj_aload_n (q := 109) d_M_door_108 rfl rfl rfl ?_
                    refine Rj_gr (q := 112) (zd := 14) gM_M_51_0 rfl rfl d_M_door_109 rfl ?_
                    refine Rj_iload_n (q := 113) d_M_door_112 rfl rfl rfl ?_
                    refine Rj_ia (q := 114) (v := ν 14 a) aM_14 rfl (by omega) rfl d_M_door_113 rfl ?_
                    refine Rj_iret d_M_door_114 rfl ?_
                    first | exact ⟨sm_I (by omega), hC1, kp0 _, kq0 _⟩ | exact ⟨sm_I (by rw [hs14]; first | exact (congrArg (ν 11) (by omega)).trans dt.symm | exact (congrArg (ν 11) (by omega)).trans dsp.symm), hC1, kp0 _, kq0 _⟩ | (exfalso; simp_all; done)
                  · refine Rj_aload_n (q := 92) d_M_door_91 rfl rfl rfl ?_
                    refine Rj_gr (q := 95) (zd := 17) gM_M_60_0 rfl rfl d_M_door_92 rfl ?_
                    refine Rj_iload_n (q := 96) d_M_door_95 rfl rfl rfl ?_
                    refine Rj_za (q := 97) (v := ν 17 a) aM_17 rfl (by omega) rfl d_M_door_96 rfl ?_
                    refine Rj_if_eq (q := 100) (t := 104) d_M_door_97 rfl (by decide) (by first | assumption | exact ⟨by omega, by omega⟩) (fun c97 => ?_) (fun c97 => ?_)
                    · refine Rj_iconst (q := 105) d_M_door_104 rfl ?_
                      refine Rj_goto (t := 114) d_M_door_105 (by decide) ?_
                      refine Rj_iret d_M_door_114 rfl ?_
                      first | exact ⟨sm_I (by omega), hC1, kp0 _, kq0 _⟩ | exact ⟨sm_I (by rw [hs14]; first | exact (congrArg (ν 11) (by omega)).trans dt.symm | exact (congrArg (ν 11) (by omega)).trans dsp.symm), hC1, kp0 _, kq0 _⟩ | (exfalso; simp_all; done)
                    · refine Rj_iconst (q := 101) d_M_door_100 rfl ?_
                      refine Rj_goto (t := 114) d_M_door_101 (by decide) ?_
                      refine Rj_iret d_M_door_114 rfl ?_
                      first | exact ⟨sm_I (by omega), hC1, kp0 _, kq0 _⟩ | exact ⟨sm_I (by rw [hs14]; first | exact (congrArg (ν 11) (by omega)).trans dt.symm | exact (congrArg (ν 11) (by omega)).trans dsp.symm), hC1, kp0 _, kq0 _⟩ | (exfalso; simp_all; done)
                · refine Rj_aload_n (q := 71) d_M_door_70 rfl rfl rfl ?_
                  refine Rj_iload_n (q := 72) d_M_door_71 rfl rfl rfl ?_
                  refine Rj_vo (q := 75) (z := y_M_isOpen) (as := [vI a]) (rest := []) (la := [vA 0, vI a]) oM_0_M_isOpen ml_M_350 mw_M_isOpen mv_M_isOpen rfl d_M_door_72 rfl rfl rfl rfl rfl ?_
                  refine s_M_isOpen hM ⟨by omega, by omega⟩ ?_
                  refine Rj_b_eq (q := 78) (t := 82) d_M_door_75 rfl (by decide) (fun c75 => ?_) (fun c75 => ?_)
                  · refine Rj_iconst (q := 83) d_M_door_82 rfl ?_
                    refine Rj_goto (t := 114) d_M_door_83 (by decide) ?_
                    refine Rj_iret d_M_door_114 rfl ?_
                    first | exact ⟨sm_I (by omega), hC1, kp0 _, kq0 _⟩ | exact ⟨sm_I (by rw [hs14]; first | exact (congrArg (ν 11) (by omega)).trans dt.symm | exact (congrArg (ν 11) (by omega)).trans dsp.symm), hC1, kp0 _, kq0 _⟩ | (exfalso; simp_all; done)
                  · refine Rj_iconst (q := 79) d_M_door_78 rfl ?_
                    refine Rj_goto (t := 114) d_M_door_79 (by decide) ?_
                    refine Rj_iret d_M_door_114 rfl ?_
                    first | exact ⟨sm_I (by omega), hC1, kp0 _, kq0 _⟩ | exact ⟨sm_I (by rw [hs14]; first | exact (congrArg (ν 11) (by omega)).trans dt.symm | exact (congrArg (ν 11) (by omega)).trans dsp.symm), hC1, kp0 _, kq0 _⟩ | (exfalso; simp_all; done)
              · refine Rj_aload_n (q := 47) d_M_door_46 rfl rfl rfl ?_
                refine Rj_gr (q := 50) (zd := 11) gM_M_42_0 rfl rfl d_M_door_47 rfl ?_
                refine Rj_iconst (q := 51) d_M_door_50 rfl ?_
                refine Rj_ia (q := 52) (v := ν 11 2) aM_11 rfl (by decide) rfl d_M_door_51 rfl ?_
                refine Rj_iload_n (q := 53) d_M_door_52 rfl rfl rfl ?_
                refine Rj_cs (q := 56) (z := y_M_isOf) (as := [vI (ν 11 2), vI a]) (rest := []) (la := [vI (ν 11 2), vI a]) ml_M_317 mw_M_isOf ms_M_isOf d_M_door_53 rfl rfl rfl rfl rfl ?_
                refine s_M_isOf (by first | assumption | exact ⟨by omega, by omega⟩) (by omega) ?_
                refine Rj_b_eq (q := 59) (t := 63) d_M_door_56 rfl (by decide) (fun c56 => ?_) (fun c56 => ?_)
                · have c56 := of_decide_eq_false c56
                  rw [← z4] at c56
                  refine Rj_iconst (q := 64) d_M_door_63 rfl ?_
                  refine Rj_iret d_M_door_64 rfl ?_
                  first | exact ⟨sm_I (by omega), hC1, kp0 _, kq0 _⟩ | exact ⟨sm_I (by rw [hs14]; first | exact (congrArg (ν 11) (by omega)).trans dt.symm | exact (congrArg (ν 11) (by omega)).trans dsp.symm), hC1, kp0 _, kq0 _⟩ | (exfalso; simp_all; done)
                · have c56 := of_decide_eq_true c56
                  rw [← z4] at c56
                  refine Rj_iconst (q := 60) d_M_door_59 rfl ?_
                  refine Rj_goto (t := 64) d_M_door_60 (by decide) ?_
                  refine Rj_iret d_M_door_64 rfl ?_
                  first | exact ⟨sm_I (by omega), hC1, kp0 _, kq0 _⟩ | exact ⟨sm_I (by rw [hs14]; first | exact (congrArg (ν 11) (by omega)).trans dt.symm | exact (congrArg (ν 11) (by omega)).trans dsp.symm), hC1, kp0 _, kq0 _⟩ | (exfalso; simp_all; done)
            · refine Rj_aload_n (q := 28) d_M_door_27 rfl rfl rfl ?_
              refine Rj_gr (q := 31) (zd := 11) gM_M_42_0 rfl rfl d_M_door_28 rfl ?_
              refine Rj_bipush (q := 33) d_M_door_31 rfl (by decide +kernel) ?_
              refine Rj_iconst (q := 34) d_M_door_33 rfl ?_
              refine Rj_iload_n (q := 35) d_M_door_34 rfl rfl rfl ?_
              refine Rj_imul (q := 36) d_M_door_35 rfl ?_
              refine Rj_iadd (q := 37) d_M_door_36 rfl ?_
              refine Rj_iload_n (q := 38) d_M_door_37 rfl rfl rfl ?_
              refine Rj_iadd (q := 39) d_M_door_38 rfl ?_
              refine Rj_ia (q := 40) (v := ν 11 ((10 + (2 * a)) + b)) aM_11 rfl (by omega) rfl d_M_door_39 rfl ?_
              refine Rj_iret d_M_door_40 rfl ?_
              first | exact ⟨sm_I (by omega), hC1, kp0 _, kq0 _⟩ | exact ⟨sm_I (by rw [hs14]; first | exact (congrArg (ν 11) (by omega)).trans dt.symm | exact (congrArg (ν 11) (by omega)).trans dsp.symm), hC1, kp0 _, kq0 _⟩ | (exfalso; simp_all; done)
          · have c17 := of_decide_eq_false c17
            refine Rj_iconst (q := 21) d_M_door_20 rfl ?_
            refine Rj_iret d_M_door_21 rfl ?_
            first | exact ⟨sm_I (by omega), hC1, kp0 _, kq0 _⟩ | exact ⟨sm_I (by rw [hs14]; first | exact (congrArg (ν 11) (by omega)).trans dt.symm | exact (congrArg (ν 11) (by omega)).trans dsp.symm), hC1, kp0 _, kq0 _⟩ | (exfalso; simp_all; done)
      · refine Rj_tsI (t := 113) d_D_door_14 (by first | assumption | exact ⟨by omega, by omega⟩) (by omega) (by omega) (by rw [hs14]; rfl) (by decide) ?_
        refine Rj_aload_n (q := 114) d_D_door_113 rfl rfl rfl ?_
        refine Rj_gr (q := 117) (zd := 59) gD_D_45_0 rfl rfl d_D_door_114 rfl ?_
        refine Rj_gr (q := 120) (zd := 60) gD_D_167_59 rfl rfl d_D_door_117 rfl ?_
        refine Rj_iload_n (q := 121) d_D_door_120 rfl rfl rfl ?_
        refine Rj_ia (q := 122) (v := μ 60 a) aD_60 rfl (by omega) rfl d_D_door_121 rfl ?_
        refine Rj_iret d_D_door_122 rfl ?_
        refine Rj_aload_n (q := 1) d_M_door_0 rfl rfl rfl ?_
        refine Rj_iload_n (q := 2) d_M_door_1 rfl rfl rfl ?_
        refine Rj_vo (q := 5) (z := y_M_isDoor) (as := [vI a]) (rest := []) (la := [vA 0, vI a]) oM_0_M_isDoor ml_M_353 mw_M_isDoor mv_M_isDoor rfl d_M_door_2 rfl rfl rfl rfl rfl ?_
        refine s_M_isDoor hD (by first | assumption | omega) ?_
        refine Rj_b_eq (q := 8) (t := 20) d_M_door_5 rfl (by decide) (fun c5 => ?_) (fun c5 => ?_)
        · have c5 := of_decide_eq_false c5
          refine Rj_iconst (q := 21) d_M_door_20 rfl ?_
          refine Rj_iret d_M_door_21 rfl ?_
          first | exact ⟨sm_I (by omega), hC1, kp0 _, kq0 _⟩ | exact ⟨sm_I (by rw [hs14]; first | exact (congrArg (ν 11) (by omega)).trans dt.symm | exact (congrArg (ν 11) (by omega)).trans dsp.symm), hC1, kp0 _, kq0 _⟩ | (exfalso; simp_all; done)
        · have c5 := of_decide_eq_true c5
          refine Rj_iload_n (q := 9) d_M_door_8 rfl rfl rfl ?_
          refine Rj_i2l (q := 10) d_M_door_9 rfl (by first | assumption | exact ⟨by omega, by omega⟩) ?_
          refine Rj_lconst (q := 11) (z := 0) d_M_door_10 rfl rfl ?_
          refine Rj_ldc2 (q := 14) k_M_356 d_M_door_11 rfl ?_
          refine Rj_cs (q := 17) (z := y_M_in) (as := [vL b, vL 0, vL 5]) (rest := []) (la := [vL b, vU, vL 0, vU, vL 5, vU]) ml_M_138 mw_M_in ms_M_in d_M_door_14 rfl rfl rfl rfl rfl ?_
          refine s_M_in ⟨by omega, by omega⟩ (by decide) (by decide) ?_
          refine Rj_b_ne (q := 20) (t := 22) d_M_door_17 rfl (by decide) (fun c17 => ?_) (fun c17 => ?_)
          · have c17 := of_decide_eq_true c17
            refine Rj_iload_n (q := 23) d_M_door_22 rfl rfl rfl ?_
            refine Rj_iconst (q := 24) d_M_door_23 rfl ?_
            refine Rj_icmp_ge (q := 27) (t := 41) d_M_door_24 rfl (by decide) (by first | assumption | exact ⟨by omega, by omega⟩) (by decide) (fun c24 => ?_) (fun c24 => ?_)
            · refine Rj_iload_n (q := 42) d_M_door_41 rfl rfl rfl ?_
              refine Rj_iconst (q := 43) d_M_door_42 rfl ?_
              refine Rj_icmp_ne (q := 46) (t := 65) d_M_door_43 rfl (by decide) (by first | assumption | exact ⟨by omega, by omega⟩) (by decide) (fun c43 => ?_) (fun c43 => ?_)
              · refine Rj_iload_n (q := 66) d_M_door_65 rfl rfl rfl ?_
                refine Rj_iconst (q := 67) d_M_door_66 rfl ?_
                refine Rj_icmp_ne (q := 70) (t := 86) d_M_door_67 rfl (by decide) (by first | assumption | exact ⟨by omega, by omega⟩) (by decide) (fun c67 => ?_) (fun c67 => ?_)
                · refine Rj_iload_n (q := 87) d_M_door_86 rfl rfl rfl ?_
                  refine Rj_iconst (q := 88) d_M_door_87 rfl ?_
                  refine Rj_icmp_ne (q := 91) (t := 108) d_M_door_88 rfl (by decide) (by first | assumption | exact ⟨by omega, by omega⟩) (by decide) (fun c88 => ?_) (fun c88 => ?_)
                  · refine Rj_aload_n (q := 109) d_M_door_108 rfl rfl rfl ?_
                    refine Rj_gr (q := 112) (zd := 14) gM_M_51_0 rfl rfl d_M_door_109 rfl ?_
                    refine Rj_iload_n (q := 113) d_M_door_112 rfl rfl rfl ?_
                    refine Rj_ia (q := 114) (v := ν 14 a) aM_14 rfl (by omega) rfl d_M_door_113 rfl ?_
                    refine Rj_iret d_M_door_114 rfl ?_
                    first | exact ⟨sm_I (by omega), hC1, kp0 _, kq0 _⟩ | exact ⟨sm_I (by rw [hs14]; first | exact (congrArg (ν 11) (by omega)).trans dt.symm | exact (congrArg (ν 11) (by omega)).trans dsp.symm), hC1, kp0 _, kq0 _⟩ | (exfalso; simp_all; done)
                  · refine Rj_aload_n (q := 92) d_M_door_91 rfl rfl rfl ?_
                    refine Rj_gr (q := 95) (zd := 17) gM_M_60_0 rfl rfl d_M_door_92 rfl ?_
                    refine Rj_iload_n (q := 96) d_M_door_95 rfl rfl rfl ?_
                    refine Rj_za (q := 97) (v := ν 17 a) aM_17 rfl (by omega) rfl d_M_door_96 rfl ?_
                    refine Rj_if_eq (q := 100) (t := 104) d_M_door_97 rfl (by decide) (by first | assumption | exact ⟨by omega, by omega⟩) (fun c97 => ?_) (fun c97 => ?_)
                    · refine Rj_iconst (q := 105) d_M_door_104 rfl ?_
                      refine Rj_goto (t := 114) d_M_door_105 (by decide) ?_
                      refine Rj_iret d_M_door_114 rfl ?_
                      first | exact ⟨sm_I (by omega), hC1, kp0 _, kq0 _⟩ | exact ⟨sm_I (by rw [hs14]; first | exact (congrArg (ν 11) (by omega)).trans dt.symm | exact (congrArg (ν 11) (by omega)).trans dsp.symm), hC1, kp0 _, kq0 _⟩ | (exfalso; simp_all; done)
                    · refine Rj_iconst (q := 101) d_M_door_100 rfl ?_
                      refine Rj_goto (t := 114) d_M_door_101 (by decide) ?_
                      refine Rj_iret d_M_door_114 rfl ?_
                      first | exact ⟨sm_I (by omega), hC1, kp0 _, kq0 _⟩ | exact ⟨sm_I (by rw [hs14]; first | exact (congrArg (ν 11) (by omega)).trans dt.symm | exact (congrArg (ν 11) (by omega)).trans dsp.symm), hC1, kp0 _, kq0 _⟩ | (exfalso; simp_all; done)
                · refine Rj_aload_n (q := 71) d_M_door_70 rfl rfl rfl ?_
                  refine Rj_iload_n (q := 72) d_M_door_71 rfl rfl rfl ?_
                  refine Rj_vo (q := 75) (z := y_M_isOpen) (as := [vI a]) (rest := []) (la := [vA 0, vI a]) oM_0_M_isOpen ml_M_350 mw_M_isOpen mv_M_isOpen rfl d_M_door_72 rfl rfl rfl rfl rfl ?_
                  refine s_M_isOpen hM ⟨by omega, by omega⟩ ?_
                  refine Rj_b_eq (q := 78) (t := 82) d_M_door_75 rfl (by decide) (fun c75 => ?_) (fun c75 => ?_)
                  · refine Rj_iconst (q := 83) d_M_door_82 rfl ?_
                    refine Rj_goto (t := 114) d_M_door_83 (by decide) ?_
                    refine Rj_iret d_M_door_114 rfl ?_
                    first | exact ⟨sm_I (by omega), hC1, kp0 _, kq0 _⟩ | exact ⟨sm_I (by rw [hs14]; first | exact (congrArg (ν 11) (by omega)).trans dt.symm | exact (congrArg (ν 11) (by omega)).trans dsp.symm), hC1, kp0 _, kq0 _⟩ | (exfalso; simp_all; done)
                  · refine Rj_iconst (q := 79) d_M_door_78 rfl ?_
                    refine Rj_goto (t := 114) d_M_door_79 (by decide) ?_
                    refine Rj_iret d_M_door_114 rfl ?_
                    first | exact ⟨sm_I (by omega), hC1, kp0 _, kq0 _⟩ | exact ⟨sm_I (by rw [hs14]; first | exact (congrArg (ν 11) (by omega)).trans dt.symm | exact (congrArg (ν 11) (by omega)).trans dsp.symm), hC1, kp0 _, kq0 _⟩ | (exfalso; simp_all; done)
              · refine Rj_aload_n (q := 47) d_M_door_46 rfl rfl rfl ?_
                refine Rj_gr (q := 50) (zd := 11) gM_M_42_0 rfl rfl d_M_door_47 rfl ?_
                refine Rj_iconst (q := 51) d_M_door_50 rfl ?_
                refine Rj_ia (q := 52) (v := ν 11 2) aM_11 rfl (by decide) rfl d_M_door_51 rfl ?_
                refine Rj_iload_n (q := 53) d_M_door_52 rfl rfl rfl ?_
                refine Rj_cs (q := 56) (z := y_M_isOf) (as := [vI (ν 11 2), vI a]) (rest := []) (la := [vI (ν 11 2), vI a]) ml_M_317 mw_M_isOf ms_M_isOf d_M_door_53 rfl rfl rfl rfl rfl ?_
                refine s_M_isOf (by first | assumption | exact ⟨by omega, by omega⟩) (by omega) ?_
                refine Rj_b_eq (q := 59) (t := 63) d_M_door_56 rfl (by decide) (fun c56 => ?_) (fun c56 => ?_)
                · have c56 := of_decide_eq_false c56
                  rw [← z4] at c56
                  refine Rj_iconst (q := 64) d_M_door_63 rfl ?_
                  refine Rj_iret d_M_door_64 rfl ?_
                  first | exact ⟨sm_I (by omega), hC1, kp0 _, kq0 _⟩ | exact ⟨sm_I (by rw [hs14]; first | exact (congrArg (ν 11) (by omega)).trans dt.symm | exact (congrArg (ν 11) (by omega)).trans dsp.symm), hC1, kp0 _, kq0 _⟩ | (exfalso; simp_all; done)
                · have c56 := of_decide_eq_true c56
                  rw [← z4] at c56
                  refine Rj_iconst (q := 60) d_M_door_59 rfl ?_
                  refine Rj_goto (t := 64) d_M_door_60 (by decide) ?_
                  refine Rj_iret d_M_door_64 rfl ?_
                  first | exact ⟨sm_I (by omega), hC1, kp0 _, kq0 _⟩ | exact ⟨sm_I (by rw [hs14]; first | exact (congrArg (ν 11) (by omega)).trans dt.symm | exact (congrArg (ν 11) (by omega)).trans dsp.symm), hC1, kp0 _, kq0 _⟩ | (exfalso; simp_all; done)
            · refine Rj_aload_n (q := 28) d_M_door_27 rfl rfl rfl ?_
              refine Rj_gr (q := 31) (zd := 11) gM_M_42_0 rfl rfl d_M_door_28 rfl ?_
              refine Rj_bipush (q := 33) d_M_door_31 rfl (by decide +kernel) ?_
              refine Rj_iconst (q := 34) d_M_door_33 rfl ?_
              refine Rj_iload_n (q := 35) d_M_door_34 rfl rfl rfl ?_
              refine Rj_imul (q := 36) d_M_door_35 rfl ?_
              refine Rj_iadd (q := 37) d_M_door_36 rfl ?_
              refine Rj_iload_n (q := 38) d_M_door_37 rfl rfl rfl ?_
              refine Rj_iadd (q := 39) d_M_door_38 rfl ?_
              refine Rj_ia (q := 40) (v := ν 11 ((10 + (2 * a)) + b)) aM_11 rfl (by omega) rfl d_M_door_39 rfl ?_
              refine Rj_iret d_M_door_40 rfl ?_
              first | exact ⟨sm_I (by omega), hC1, kp0 _, kq0 _⟩ | exact ⟨sm_I (by rw [hs14]; first | exact (congrArg (ν 11) (by omega)).trans dt.symm | exact (congrArg (ν 11) (by omega)).trans dsp.symm), hC1, kp0 _, kq0 _⟩ | (exfalso; simp_all; done)
          · have c17 := of_decide_eq_false c17
            refine Rj_iconst (q := 21) d_M_door_20 rfl ?_
            refine Rj_iret d_M_door_21 rfl ?_
            first | exact ⟨sm_I (by omega), hC1, kp0 _, kq0 _⟩ | exact ⟨sm_I (by rw [hs14]; first | exact (congrArg (ν 11) (by omega)).trans dt.symm | exact (congrArg (ν 11) (by omega)).trans dsp.symm), hC1, kp0 _, kq0 _⟩ | (exfalso; simp_all; done)
      · refine Rj_tsO (t := 123) d_D_door_14 (by first | assumption | exact ⟨by omega, by omega⟩) hs14 (by decide) ?_
        refine Rj_iconst (q := 124) d_D_door_123 rfl ?_
        refine Rj_iret d_D_door_124 rfl ?_
        refine Rj_aload_n (q := 1) d_M_door_0 rfl rfl rfl ?_
        refine Rj_iload_n (q := 2) d_M_door_1 rfl rfl rfl ?_
        refine Rj_vo (q := 5) (z := y_M_isDoor) (as := [vI a]) (rest := []) (la := [vA 0, vI a]) oM_0_M_isDoor ml_M_353 mw_M_isDoor mv_M_isDoor rfl d_M_door_2 rfl rfl rfl rfl rfl ?_
        refine s_M_isDoor hD (by first | assumption | omega) ?_
        refine Rj_b_eq (q := 8) (t := 20) d_M_door_5 rfl (by decide) (fun c5 => ?_) (fun c5 => ?_)
        · have c5 := of_decide_eq_false c5
          refine Rj_iconst (q := 21) d_M_door_20 rfl ?_
          refine Rj_iret d_M_door_21 rfl ?_
          first | exact ⟨sm_I (by omega), hC1, kp0 _, kq0 _⟩ | exact ⟨sm_I (by rw [hs14]; first | exact (congrArg (ν 11) (by omega)).trans dt.symm | exact (congrArg (ν 11) (by omega)).trans dsp.symm), hC1, kp0 _, kq0 _⟩ | (exfalso; simp_all; done)
        · have c5 := of_decide_eq_true c5
          refine Rj_iload_n (q := 9) d_M_door_8 rfl rfl rfl ?_
          refine Rj_i2l (q := 10) d_M_door_9 rfl (by first | assumption | exact ⟨by omega, by omega⟩) ?_
          refine Rj_lconst (q := 11) (z := 0) d_M_door_10 rfl rfl ?_
          refine Rj_ldc2 (q := 14) k_M_356 d_M_door_11 rfl ?_
          refine Rj_cs (q := 17) (z := y_M_in) (as := [vL b, vL 0, vL 5]) (rest := []) (la := [vL b, vU, vL 0, vU, vL 5, vU]) ml_M_138 mw_M_in ms_M_in d_M_door_14 rfl rfl rfl rfl rfl ?_
          refine s_M_in ⟨by omega, by omega⟩ (by decide) (by decide) ?_
          refine Rj_b_ne (q := 20) (t := 22) d_M_door_17 rfl (by decide) (fun c17 => ?_) (fun c17 => ?_)
          · have c17 := of_decide_eq_true c17
            refine Rj_iload_n (q := 23) d_M_door_22 rfl rfl rfl ?_
            refine Rj_iconst (q := 24) d_M_door_23 rfl ?_
            refine Rj_icmp_ge (q := 27) (t := 41) d_M_door_24 rfl (by decide) (by first | assumption | exact ⟨by omega, by omega⟩) (by decide) (fun c24 => ?_) (fun c24 => ?_)
            · refine Rj_iload_n (q := 42) d_M_door_41 rfl rfl rfl ?_
              refine Rj_iconst (q := 43) d_M_door_42 rfl ?_
              refine Rj_icmp_ne (q := 46) (t := 65) d_M_door_43 rfl (by decide) (by first | assumption | exact ⟨by omega, by omega⟩) (by decide) (fun c43 => ?_) (fun c43 => ?_)
              · refine Rj_iload_n (q := 66) d_M_door_65 rfl rfl rfl ?_
                refine Rj_iconst (q := 67) d_M_door_66 rfl ?_
                refine Rj_icmp_ne (q := 70) (t := 86) d_M_door_67 rfl (by decide) (by first | assumption | exact ⟨by omega, by omega⟩) (by decide) (fun c67 => ?_) (fun c67 => ?_)
                · refine Rj_iload_n (q := 87) d_M_door_86 rfl rfl rfl ?_
                  refine Rj_iconst (q := 88) d_M_door_87 rfl ?_
                  refine Rj_icmp_ne (q := 91) (t := 108) d_M_door_88 rfl (by decide) (by first | assumption | exact ⟨by omega, by omega⟩) (by decide) (fun c88 => ?_) (fun c88 => ?_)
                  · refine Rj_aload_n (q := 109) d_M_door_108 rfl rfl rfl ?_
                    refine Rj_gr (q := 112) (zd := 14) gM_M_51_0 rfl rfl d_M_door_109 rfl ?_
                    refine Rj_iload_n (q := 113) d_M_door_112 rfl rfl rfl ?_
                    refine Rj_ia (q := 114) (v := ν 14 a) aM_14 rfl (by omega) rfl d_M_door_113 rfl ?_
                    refine Rj_iret d_M_door_114 rfl ?_
                    first | exact ⟨sm_I (by omega), hC1, kp0 _, kq0 _⟩ | exact ⟨sm_I (by rw [hs14]; first | exact (congrArg (ν 11) (by omega)).trans dt.symm | exact (congrArg (ν 11) (by omega)).trans dsp.symm), hC1, kp0 _, kq0 _⟩ | (exfalso; simp_all; done)
                  · refine Rj_aload_n (q := 92) d_M_door_91 rfl rfl rfl ?_
                    refine Rj_gr (q := 95) (zd := 17) gM_M_60_0 rfl rfl d_M_door_92 rfl ?_
                    refine Rj_iload_n (q := 96) d_M_door_95 rfl rfl rfl ?_
                    refine Rj_za (q := 97) (v := ν 17 a) aM_17 rfl (by omega) rfl d_M_door_96 rfl ?_
                    refine Rj_if_eq (q := 100) (t := 104) d_M_door_97 rfl (by decide) (by first | assumption | exact ⟨by omega, by omega⟩) (fun c97 => ?_) (fun c97 => ?_)
                    · refine Rj_iconst (q := 105) d_M_door_104 rfl ?_
                      refine Rj_goto (t := 114) d_M_door_105 (by decide) ?_
                      refine Rj_iret d_M_door_114 rfl ?_
                      first | exact ⟨sm_I (by omega), hC1, kp0 _, kq0 _⟩ | exact ⟨sm_I (by rw [hs14]; first | exact (congrArg (ν 11) (by omega)).trans dt.symm | exact (congrArg (ν 11) (by omega)).trans dsp.symm), hC1, kp0 _, kq0 _⟩ | (exfalso; simp_all; done)
                    · refine Rj_iconst (q := 101) d_M_door_100 rfl ?_
                      refine Rj_goto (t := 114) d_M_door_101 (by decide) ?_
                      refine Rj_iret d_M_door_114 rfl ?_
                      first | exact ⟨sm_I (by omega), hC1, kp0 _, kq0 _⟩ | exact ⟨sm_I (by rw [hs14]; first | exact (congrArg (ν 11) (by omega)).trans dt.symm | exact (congrArg (ν 11) (by omega)).trans dsp.symm), hC1, kp0 _, kq0 _⟩ | (exfalso; simp_all; done)
                · refine Rj_aload_n (q := 71) d_M_door_70 rfl rfl rfl ?_
                  refine Rj_iload_n (q := 72) d_M_door_71 rfl rfl rfl ?_
                  refine Rj_vo (q := 75) (z := y_M_isOpen) (as := [vI a]) (rest := []) (la := [vA 0, vI a]) oM_0_M_isOpen ml_M_350 mw_M_isOpen mv_M_isOpen rfl d_M_door_72 rfl rfl rfl rfl rfl ?_
                  refine s_M_isOpen hM ⟨by omega, by omega⟩ ?_
                  refine Rj_b_eq (q := 78) (t := 82) d_M_door_75 rfl (by decide) (fun c75 => ?_) (fun c75 => ?_)
                  · refine Rj_iconst (q := 83) d_M_door_82 rfl ?_
                    refine Rj_goto (t := 114) d_M_door_83 (by decide) ?_
                    refine Rj_iret d_M_door_114 rfl ?_
                    first | exact ⟨sm_I (by omega), hC1, kp0 _, kq0 _⟩ | exact ⟨sm_I (by rw [hs14]; first | exact (congrArg (ν 11) (by omega)).trans dt.symm | exact (congrArg (ν 11) (by omega)).trans dsp.symm), hC1, kp0 _, kq0 _⟩ | (exfalso; simp_all; done)
                  · refine Rj_iconst (q := 79) d_M_door_78 rfl ?_
                    refine Rj_goto (t := 114) d_M_door_79 (by decide) ?_
                    refine Rj_iret d_M_door_114 rfl ?_
                    first | exact ⟨sm_I (by omega), hC1, kp0 _, kq0 _⟩ | exact ⟨sm_I (by rw [hs14]; first | exact (congrArg (ν 11) (by omega)).trans dt.symm | exact (congrArg (ν 11) (by omega)).trans dsp.symm), hC1, kp0 _, kq0 _⟩ | (exfalso; simp_all; done)
              · refine Rj_aload_n (q := 47) d_M_door_46 rfl rfl rfl ?_
                refine Rj_gr (q := 50) (zd := 11) gM_M_42_0 rfl rfl d_M_door_47 rfl ?_
                refine Rj_iconst (q := 51) d_M_door_50 rfl ?_
                refine Rj_ia (q := 52) (v := ν 11 2) aM_11 rfl (by decide) rfl d_M_door_51 rfl ?_
                refine Rj_iload_n (q := 53) d_M_door_52 rfl rfl rfl ?_
                refine Rj_cs (q := 56) (z := y_M_isOf) (as := [vI (ν 11 2), vI a]) (rest := []) (la := [vI (ν 11 2), vI a]) ml_M_317 mw_M_isOf ms_M_isOf d_M_door_53 rfl rfl rfl rfl rfl ?_
                refine s_M_isOf (by first | assumption | exact ⟨by omega, by omega⟩) (by omega) ?_
                refine Rj_b_eq (q := 59) (t := 63) d_M_door_56 rfl (by decide) (fun c56 => ?_) (fun c56 => ?_)
                · have c56 := of_decide_eq_false c56
                  rw [← z4] at c56
                  refine Rj_iconst (q := 64) d_M_door_63 rfl ?_
                  refine Rj_iret d_M_door_64 rfl ?_
                  first | exact ⟨sm_I (by omega), hC1, kp0 _, kq0 _⟩ | exact ⟨sm_I (by rw [hs14]; first | exact (congrArg (ν 11) (by omega)).trans dt.symm | exact (congrArg (ν 11) (by omega)).trans dsp.symm), hC1, kp0 _, kq0 _⟩ | (exfalso; simp_all; done)
                · have c56 := of_decide_eq_true c56
                  rw [← z4] at c56
                  refine Rj_iconst (q := 60) d_M_door_59 rfl ?_
                  refine Rj_goto (t := 64) d_M_door_60 (by decide) ?_
                  refine Rj_iret d_M_door_64 rfl ?_
                  first | exact ⟨sm_I (by omega), hC1, kp0 _, kq0 _⟩ | exact ⟨sm_I (by rw [hs14]; first | exact (congrArg (ν 11) (by omega)).trans dt.symm | exact (congrArg (ν 11) (by omega)).trans dsp.symm), hC1, kp0 _, kq0 _⟩ | (exfalso; simp_all; done)
            · refine Rj_aload_n (q := 28) d_M_door_27 rfl rfl rfl ?_
              refine Rj_gr (q := 31) (zd := 11) gM_M_42_0 rfl rfl d_M_door_28 rfl ?_
              refine Rj_bipush (q := 33) d_M_door_31 rfl (by decide +kernel) ?_
              refine Rj_iconst (q := 34) d_M_door_33 rfl ?_
              refine Rj_iload_n (q := 35) d_M_door_34 rfl rfl rfl ?_
              refine Rj_imul (q := 36) d_M_door_35 rfl ?_
              refine Rj_iadd (q := 37) d_M_door_36 rfl ?_
              refine Rj_iload_n (q := 38) d_M_door_37 rfl rfl rfl ?_
              refine Rj_iadd (q := 39) d_M_door_38 rfl ?_
              refine Rj_ia (q := 40) (v := ν 11 ((10 + (2 * a)) + b)) aM_11 rfl (by omega) rfl d_M_door_39 rfl ?_
              refine Rj_iret d_M_door_40 rfl ?_
              first | exact ⟨sm_I (by omega), hC1, kp0 _, kq0 _⟩ | exact ⟨sm_I (by rw [hs14]; first | exact (congrArg (ν 11) (by omega)).trans dt.symm | exact (congrArg (ν 11) (by omega)).trans dsp.symm), hC1, kp0 _, kq0 _⟩ | (exfalso; simp_all; done)
          · have c17 := of_decide_eq_false c17
            refine Rj_iconst (q := 21) d_M_door_20 rfl ?_
            refine Rj_iret d_M_door_21 rfl ?_
            first | exact ⟨sm_I (by omega), hC1, kp0 _, kq0 _⟩ | exact ⟨sm_I (by rw [hs14]; first | exact (congrArg (ν 11) (by omega)).trans dt.symm | exact (congrArg (ν 11) (by omega)).trans dsp.symm), hC1, kp0 _, kq0 _⟩ | (exfalso; simp_all; done)
set_option maxHeartbeats 8000000 in
theorem C_place {n : Nat} {μ ν : Mem} {a b : Int} (hC : Cor n μ ν) (hn : n ≤ 511) (ha : i32 a) (hb : i32 b)  : Rj YD y_D_place 0 [vA 0, vI a, vI b] [] μ (fun r μ' => Rj YM y_M_place 0 [vA 0, vI a, vI b] [] ν (fun r' ν' => Sm 2 r' r ∧ Cor (n + 1) μ' ν' ∧ Kp μ μ' ∧ Kq ν ν')) := by
  obtain ⟨hTP, hK, hSc, h, hM, hSB, hBK, hIM⟩ := id hC
  have hC1 := hC.next
  obtain ⟨z0, z1, z2, z3, z4, z5, z6, z7⟩ := h.z
  obtain ⟨hS, hH, hP, hB, hFx⟩ := id hM
  have hD := z0
  have hJ := z1
  refine Rj_aload_n (q := 1) d_D_place_0 rfl rfl rfl ?_
  refine Rj_gr (q := 4) (zd := 3) gD_D_25_0 rfl rfl d_D_place_1 rfl ?_
  refine Rj_iload_n (q := 5) d_D_place_4 rfl rfl rfl ?_
  refine Rj_vo (q := 8) (z := y_Sc_isDoor) (as := [vI a]) (rest := []) (la := [vA 3, vI a]) oD_3_Sc_isDoor ml_D_144 mw_Sc_isDoor mv_Sc_isDoor rfl d_D_place_5 rfl rfl rfl rfl rfl ?_
  refine Rj_iload_n (q := 1) d_Sc_isDoor_0 rfl rfl rfl ?_
  refine Rj_if_lt (q := 4) (t := 16) d_Sc_isDoor_1 rfl (by decide) (by first | assumption | exact ⟨by omega, by omega⟩) (fun c5_1 => ?_) (fun c5_1 => ?_)
  · refine Rj_iconst (q := 17) d_Sc_isDoor_16 rfl ?_
    refine Rj_bret0 d_Sc_isDoor_17 rfl ?_
    refine Rj_if_eq (q := 11) (t := 18) d_D_place_8 rfl (by decide) (by decide) (fun _ => ?_) (fun c => absurd c (by decide))
    refine Rj_ldc2 (q := 21) k_D_173 d_D_place_18 rfl ?_
    refine Rj_lret d_D_place_21 rfl ?_
    refine Rj_aload_n (q := 1) d_M_place_0 rfl rfl rfl ?_
    refine Rj_iload_n (q := 2) d_M_place_1 rfl rfl rfl ?_
    refine Rj_vo (q := 5) (z := y_M_isDoor) (as := [vI a]) (rest := []) (la := [vA 0, vI a]) oM_0_M_isDoor ml_M_353 mw_M_isDoor mv_M_isDoor rfl d_M_place_2 rfl rfl rfl rfl rfl ?_
    refine s_M_isDoor hD (by first | assumption | omega) ?_
    refine Rj_b_eq (q := 8) (t := 35) d_M_place_5 rfl (by decide) (fun c5 => ?_) (fun c5 => ?_)
    · have c5 := of_decide_eq_false c5
      refine Rj_ldc2 (q := 38) k_M_358 d_M_place_35 rfl ?_
      refine Rj_lret d_M_place_38 rfl ?_
      first | exact ⟨sm_L rfl, hC1, kp0 _, kq0 _⟩ | exact ⟨sm_L (by omega), hC1, kp0 _, kq0 _⟩ | exact ⟨sm_L ((lw_eq br.1 (by omega) sc).symm), hC1, kp0 _, kq0 _⟩
    · have c5 := of_decide_eq_true c5
      refine Rj_iload_n (q := 9) d_M_place_8 rfl rfl rfl ?_
      refine Rj_i2l (q := 10) d_M_place_9 rfl (by first | assumption | exact ⟨by omega, by omega⟩) ?_
      refine Rj_lconst (q := 11) (z := 0) d_M_place_10 rfl rfl ?_
      refine Rj_lconst (q := 12) (z := 1) d_M_place_11 rfl rfl ?_
      refine Rj_cs (q := 15) (z := y_M_in) (as := [vL b, vL 0, vL 1]) (rest := []) (la := [vL b, vU, vL 0, vU, vL 1, vU]) ml_M_138 mw_M_in ms_M_in d_M_place_12 rfl rfl rfl rfl rfl ?_
      refine s_M_in ⟨by omega, by omega⟩ (by decide) (by decide) ?_
      refine Rj_b_eq (q := 18) (t := 35) d_M_place_15 rfl (by decide) (fun c15 => ?_) (fun c15 => ?_)
      · have c15 := of_decide_eq_false c15
        refine Rj_ldc2 (q := 38) k_M_358 d_M_place_35 rfl ?_
        refine Rj_lret d_M_place_38 rfl ?_
        first | exact ⟨sm_L rfl, hC1, kp0 _, kq0 _⟩ | exact ⟨sm_L (by omega), hC1, kp0 _, kq0 _⟩ | exact ⟨sm_L ((lw_eq br.1 (by omega) sc).symm), hC1, kp0 _, kq0 _⟩
      · have c15 := of_decide_eq_true c15
        refine Rj_aload_n (q := 19) d_M_place_18 rfl rfl rfl ?_
        refine Rj_gr (q := 22) (zd := 12) gM_M_45_0 rfl rfl d_M_place_19 rfl ?_
        refine Rj_iload_n (q := 23) d_M_place_22 rfl rfl rfl ?_
        refine Rj_la (q := 24) (v := ν 12 a) aM_12 rfl (by omega) rfl d_M_place_23 rfl ?_
        refine Rj_aload_n (q := 25) d_M_place_24 rfl rfl rfl ?_
        refine Rj_gl (q := 28) (ki := 32) (v := pts (ν 11)) gM_M_64_0 rfl rfl hP d_M_place_25 rfl ?_
        refine Rj_iload_n (q := 29) d_M_place_28 rfl rfl rfl ?_
        refine Rj_cs (q := 32) (z := y_M_lowest) (as := [vL (ν 12 a), vL (pts (ν 11)), vI b]) (rest := []) (la := [vL (ν 12 a), vU, vL (pts (ν 11)), vU, vI b]) ml_M_313 mw_M_lowest ms_M_lowest d_M_place_29 rfl rfl rfl rfl rfl ?_
        refine s_M_lowest (by omega) (by omega) (by omega) (by first | assumption | exact ⟨by omega, by omega⟩) ?_
        refine Rj_goto (t := 38) d_M_place_32 (by decide) ?_
        refine Rj_lret d_M_place_38 rfl ?_
        first | exact ⟨sm_L rfl, hC1, kp0 _, kq0 _⟩ | exact ⟨sm_L (by omega), hC1, kp0 _, kq0 _⟩ | exact ⟨sm_L ((lw_eq br.1 (by omega) sc).symm), hC1, kp0 _, kq0 _⟩
  · refine Rj_iload_n (q := 5) d_Sc_isDoor_4 rfl rfl rfl ?_
    refine Rj_aload_n (q := 6) d_Sc_isDoor_5 rfl rfl rfl ?_
    refine Rj_gi (q := 9) (ki := 0) (v := μ 3 0) gD_Sc_37_3 rfl rfl rfl d_Sc_isDoor_6 rfl ?_
    refine Rj_icmp_ge (q := 12) (t := 16) d_Sc_isDoor_9 rfl (by decide) (by first | assumption | exact ⟨by omega, by omega⟩) (by first | assumption | exact ⟨by omega, by omega⟩) (fun c5_9 => ?_) (fun c5_9 => ?_)
    · refine Rj_iconst (q := 17) d_Sc_isDoor_16 rfl ?_
      refine Rj_bret0 d_Sc_isDoor_17 rfl ?_
      refine Rj_if_eq (q := 11) (t := 18) d_D_place_8 rfl (by decide) (by decide) (fun _ => ?_) (fun c => absurd c (by decide))
      refine Rj_ldc2 (q := 21) k_D_173 d_D_place_18 rfl ?_
      refine Rj_lret d_D_place_21 rfl ?_
      refine Rj_aload_n (q := 1) d_M_place_0 rfl rfl rfl ?_
      refine Rj_iload_n (q := 2) d_M_place_1 rfl rfl rfl ?_
      refine Rj_vo (q := 5) (z := y_M_isDoor) (as := [vI a]) (rest := []) (la := [vA 0, vI a]) oM_0_M_isDoor ml_M_353 mw_M_isDoor mv_M_isDoor rfl d_M_place_2 rfl rfl rfl rfl rfl ?_
      refine s_M_isDoor hD (by first | assumption | omega) ?_
      refine Rj_b_eq (q := 8) (t := 35) d_M_place_5 rfl (by decide) (fun c5 => ?_) (fun c5 => ?_)
      · have c5 := of_decide_eq_false c5
        refine Rj_ldc2 (q := 38) k_M_358 d_M_place_35 rfl ?_
        refine Rj_lret d_M_place_38 rfl ?_
        first | exact ⟨sm_L rfl, hC1, kp0 _, kq0 _⟩ | exact ⟨sm_L (by omega), hC1, kp0 _, kq0 _⟩ | exact ⟨sm_L ((lw_eq br.1 (by omega) sc).symm), hC1, kp0 _, kq0 _⟩
      · have c5 := of_decide_eq_true c5
        refine Rj_iload_n (q := 9) d_M_place_8 rfl rfl rfl ?_
        refine Rj_i2l (q := 10) d_M_place_9 rfl (by first | assumption | exact ⟨by omega, by omega⟩) ?_
        refine Rj_lconst (q := 11) (z := 0) d_M_place_10 rfl rfl ?_
        refine Rj_lconst (q := 12) (z := 1) d_M_place_11 rfl rfl ?_
        refine Rj_cs (q := 15) (z := y_M_in) (as := [vL b, vL 0, vL 1]) (rest := []) (la := [vL b, vU, vL 0, vU, vL 1, vU]) ml_M_138 mw_M_in ms_M_in d_M_place_12 rfl rfl rfl rfl rfl ?_
        refine s_M_in ⟨by omega, by omega⟩ (by decide) (by decide) ?_
        refine Rj_b_eq (q := 18) (t := 35) d_M_place_15 rfl (by decide) (fun c15 => ?_) (fun c15 => ?_)
        · have c15 := of_decide_eq_false c15
          refine Rj_ldc2 (q := 38) k_M_358 d_M_place_35 rfl ?_
          refine Rj_lret d_M_place_38 rfl ?_
          first | exact ⟨sm_L rfl, hC1, kp0 _, kq0 _⟩ | exact ⟨sm_L (by omega), hC1, kp0 _, kq0 _⟩ | exact ⟨sm_L ((lw_eq br.1 (by omega) sc).symm), hC1, kp0 _, kq0 _⟩
        · have c15 := of_decide_eq_true c15
          refine Rj_aload_n (q := 19) d_M_place_18 rfl rfl rfl ?_
          refine Rj_gr (q := 22) (zd := 12) gM_M_45_0 rfl rfl d_M_place_19 rfl ?_
          refine Rj_iload_n (q := 23) d_M_place_22 rfl rfl rfl ?_
          refine Rj_la (q := 24) (v := ν 12 a) aM_12 rfl (by omega) rfl d_M_place_23 rfl ?_
          refine Rj_aload_n (q := 25) d_M_place_24 rfl rfl rfl ?_
          refine Rj_gl (q := 28) (ki := 32) (v := pts (ν 11)) gM_M_64_0 rfl rfl hP d_M_place_25 rfl ?_
          refine Rj_iload_n (q := 29) d_M_place_28 rfl rfl rfl ?_
          refine Rj_cs (q := 32) (z := y_M_lowest) (as := [vL (ν 12 a), vL (pts (ν 11)), vI b]) (rest := []) (la := [vL (ν 12 a), vU, vL (pts (ν 11)), vU, vI b]) ml_M_313 mw_M_lowest ms_M_lowest d_M_place_29 rfl rfl rfl rfl rfl ?_
          refine s_M_lowest (by omega) (by omega) (by omega) (by first | assumption | exact ⟨by omega, by omega⟩) ?_
          refine Rj_goto (t := 38) d_M_place_32 (by decide) ?_
          refine Rj_lret d_M_place_38 rfl ?_
          first | exact ⟨sm_L rfl, hC1, kp0 _, kq0 _⟩ | exact ⟨sm_L (by omega), hC1, kp0 _, kq0 _⟩ | exact ⟨sm_L ((lw_eq br.1 (by omega) sc).symm), hC1, kp0 _, kq0 _⟩
    · obtain ⟨dt, dsp, tr, sr, br, bp, sc, lr, lq, mr, pr, kr, zk⟩ := h.d ⟨by omega, by omega⟩
      refine Rj_iconst (q := 13) d_Sc_isDoor_12 rfl ?_
      refine Rj_goto (t := 17) d_Sc_isDoor_13 (by decide) ?_
      refine Rj_bret1 d_Sc_isDoor_17 rfl ?_
      refine Rj_if_eq (q := 11) (t := 18) d_D_place_8 rfl (by decide) (by decide) (fun c => absurd c (by decide)) (fun _ => ?_)
      refine Rj_iload_n (q := 12) d_D_place_11 rfl rfl rfl ?_
      refine Rj_cs (q := 15) (z := y_D_isPart) (as := [vI b]) (rest := []) (la := [vI b]) ml_D_170 mw_D_isPart ms_D_isPart d_D_place_12 rfl rfl rfl rfl rfl ?_
      refine Rj_iload_n (q := 1) d_D_isPart_0 rfl rfl rfl ?_
      refine Rj_if_eq (q := 4) (t := 9) d_D_isPart_1 rfl (by decide) (by first | assumption | exact ⟨by omega, by omega⟩) (fun c12_1 => ?_) (fun c12_1 => ?_)
      · refine Rj_iconst (q := 10) d_D_isPart_9 rfl ?_
        refine Rj_goto (t := 14) d_D_isPart_10 (by decide) ?_
        refine Rj_bret1 d_D_isPart_14 rfl ?_
        refine Rj_if_ne (q := 18) (t := 22) d_D_place_15 rfl (by decide) (by decide) (fun _ => ?_) (fun c => absurd c (by decide))
        refine Rj_aload_n (q := 23) d_D_place_22 rfl rfl rfl ?_
        refine Rj_gr (q := 26) (zd := 3) gD_D_25_0 rfl rfl d_D_place_23 rfl ?_
        refine Rj_gr (q := 29) (zd := 9) gD_D_175_3 rfl rfl d_D_place_26 rfl ?_
        refine Rj_iload_n (q := 30) d_D_place_29 rfl rfl rfl ?_
        refine Rj_la (q := 31) (v := μ 9 a) aD_9 rfl (by omega) rfl d_D_place_30 rfl ?_
        refine Rj_aload_n (q := 32) d_D_place_31 rfl rfl rfl ?_
        refine Rj_gr (q := 35) (zd := 59) gD_D_45_0 rfl rfl d_D_place_32 rfl ?_
        refine Rj_gr (q := 38) (zd := 63) gD_D_179_59 rfl rfl d_D_place_35 rfl ?_
        refine Rj_iload_n (q := 39) d_D_place_38 rfl rfl rfl ?_
        refine Rj_la (q := 40) (v := μ 63 a) aD_63 rfl (by omega) rfl d_D_place_39 rfl ?_
        refine Rj_iload_n (q := 41) d_D_place_40 rfl rfl rfl ?_
        refine Rj_cs (q := 44) (z := y_D_lowest) (as := [vL (μ 9 a), vL (μ 63 a), vI b]) (rest := []) (la := [vL (μ 9 a), vU, vL (μ 63 a), vU, vI b]) ml_D_182 mw_D_lowest ms_D_lowest d_D_place_41 rfl rfl rfl rfl rfl ?_
        refine s_D_lowest (by omega) (by omega) (by omega) (by first | assumption | exact ⟨by omega, by omega⟩) ?_
        refine Rj_lret d_D_place_44 rfl ?_
        refine Rj_aload_n (q := 1) d_M_place_0 rfl rfl rfl ?_
        refine Rj_iload_n (q := 2) d_M_place_1 rfl rfl rfl ?_
        refine Rj_vo (q := 5) (z := y_M_isDoor) (as := [vI a]) (rest := []) (la := [vA 0, vI a]) oM_0_M_isDoor ml_M_353 mw_M_isDoor mv_M_isDoor rfl d_M_place_2 rfl rfl rfl rfl rfl ?_
        refine s_M_isDoor hD (by first | assumption | omega) ?_
        refine Rj_b_eq (q := 8) (t := 35) d_M_place_5 rfl (by decide) (fun c5 => ?_) (fun c5 => ?_)
        · have c5 := of_decide_eq_false c5
          refine Rj_ldc2 (q := 38) k_M_358 d_M_place_35 rfl ?_
          refine Rj_lret d_M_place_38 rfl ?_
          first | exact ⟨sm_L rfl, hC1, kp0 _, kq0 _⟩ | exact ⟨sm_L (by omega), hC1, kp0 _, kq0 _⟩ | exact ⟨sm_L ((lw_eq br.1 (by omega) sc).symm), hC1, kp0 _, kq0 _⟩
        · have c5 := of_decide_eq_true c5
          refine Rj_iload_n (q := 9) d_M_place_8 rfl rfl rfl ?_
          refine Rj_i2l (q := 10) d_M_place_9 rfl (by first | assumption | exact ⟨by omega, by omega⟩) ?_
          refine Rj_lconst (q := 11) (z := 0) d_M_place_10 rfl rfl ?_
          refine Rj_lconst (q := 12) (z := 1) d_M_place_11 rfl rfl ?_
          refine Rj_cs (q := 15) (z := y_M_in) (as := [vL b, vL 0, vL 1]) (rest := []) (la := [vL b, vU, vL 0, vU, vL 1, vU]) ml_M_138 mw_M_in ms_M_in d_M_place_12 rfl rfl rfl rfl rfl ?_
          refine s_M_in ⟨by omega, by omega⟩ (by decide) (by decide) ?_
          refine Rj_b_eq (q := 18) (t := 35) d_M_place_15 rfl (by decide) (fun c15 => ?_) (fun c15 => ?_)
          · have c15 := of_decide_eq_false c15
            refine Rj_ldc2 (q := 38) k_M_358 d_M_place_35 rfl ?_
            refine Rj_lret d_M_place_38 rfl ?_
            first | exact ⟨sm_L rfl, hC1, kp0 _, kq0 _⟩ | exact ⟨sm_L (by omega), hC1, kp0 _, kq0 _⟩ | exact ⟨sm_L ((lw_eq br.1 (by omega) sc).symm), hC1, kp0 _, kq0 _⟩
          · have c15 := of_decide_eq_true c15
            refine Rj_aload_n (q := 19) d_M_place_18 rfl rfl rfl ?_
            refine Rj_gr (q := 22) (zd := 12) gM_M_45_0 rfl rfl d_M_place_19 rfl ?_
            refine Rj_iload_n (q := 23) d_M_place_22 rfl rfl rfl ?_
            refine Rj_la (q := 24) (v := ν 12 a) aM_12 rfl (by omega) rfl d_M_place_23 rfl ?_
            refine Rj_aload_n (q := 25) d_M_place_24 rfl rfl rfl ?_
            refine Rj_gl (q := 28) (ki := 32) (v := pts (ν 11)) gM_M_64_0 rfl rfl hP d_M_place_25 rfl ?_
            refine Rj_iload_n (q := 29) d_M_place_28 rfl rfl rfl ?_
            refine Rj_cs (q := 32) (z := y_M_lowest) (as := [vL (ν 12 a), vL (pts (ν 11)), vI b]) (rest := []) (la := [vL (ν 12 a), vU, vL (pts (ν 11)), vU, vI b]) ml_M_313 mw_M_lowest ms_M_lowest d_M_place_29 rfl rfl rfl rfl rfl ?_
            refine s_M_lowest (by omega) (by omega) (by omega) (by first | assumption | exact ⟨by omega, by omega⟩) ?_
            refine Rj_goto (t := 38) d_M_place_32 (by decide) ?_
            refine Rj_lret d_M_place_38 rfl ?_
            first | exact ⟨sm_L rfl, hC1, kp0 _, kq0 _⟩ | exact ⟨sm_L (by omega), hC1, kp0 _, kq0 _⟩ | exact ⟨sm_L ((lw_eq br.1 (by omega) sc).symm), hC1, kp0 _, kq0 _⟩
      · refine Rj_iload_n (q := 5) d_D_isPart_4 rfl rfl rfl ?_
        refine Rj_iconst (q := 6) d_D_isPart_5 rfl ?_
        refine Rj_icmp_ne (q := 9) (t := 13) d_D_isPart_6 rfl (by decide) (by first | assumption | exact ⟨by omega, by omega⟩) (by decide) (fun c12_6 => ?_) (fun c12_6 => ?_)
        · refine Rj_iconst (q := 14) d_D_isPart_13 rfl ?_
          refine Rj_bret0 d_D_isPart_14 rfl ?_
          refine Rj_if_ne (q := 18) (t := 22) d_D_place_15 rfl (by decide) (by decide) (fun c => absurd c (by decide)) (fun _ => ?_)
          refine Rj_ldc2 (q := 21) k_D_173 d_D_place_18 rfl ?_
          refine Rj_lret d_D_place_21 rfl ?_
          refine Rj_aload_n (q := 1) d_M_place_0 rfl rfl rfl ?_
          refine Rj_iload_n (q := 2) d_M_place_1 rfl rfl rfl ?_
          refine Rj_vo (q := 5) (z := y_M_isDoor) (as := [vI a]) (rest := []) (la := [vA 0, vI a]) oM_0_M_isDoor ml_M_353 mw_M_isDoor mv_M_isDoor rfl d_M_place_2 rfl rfl rfl rfl rfl ?_
          refine s_M_isDoor hD (by first | assumption | omega) ?_
          refine Rj_b_eq (q := 8) (t := 35) d_M_place_5 rfl (by decide) (fun c5 => ?_) (fun c5 => ?_)
          · have c5 := of_decide_eq_false c5
            refine Rj_ldc2 (q := 38) k_M_358 d_M_place_35 rfl ?_
            refine Rj_lret d_M_place_38 rfl ?_
            first | exact ⟨sm_L rfl, hC1, kp0 _, kq0 _⟩ | exact ⟨sm_L (by omega), hC1, kp0 _, kq0 _⟩ | exact ⟨sm_L ((lw_eq br.1 (by omega) sc).symm), hC1, kp0 _, kq0 _⟩
          · have c5 := of_decide_eq_true c5
            refine Rj_iload_n (q := 9) d_M_place_8 rfl rfl rfl ?_
            refine Rj_i2l (q := 10) d_M_place_9 rfl (by first | assumption | exact ⟨by omega, by omega⟩) ?_
            refine Rj_lconst (q := 11) (z := 0) d_M_place_10 rfl rfl ?_
            refine Rj_lconst (q := 12) (z := 1) d_M_place_11 rfl rfl ?_
            refine Rj_cs (q := 15) (z := y_M_in) (as := [vL b, vL 0, vL 1]) (rest := []) (la := [vL b, vU, vL 0, vU, vL 1, vU]) ml_M_138 mw_M_in ms_M_in d_M_place_12 rfl rfl rfl rfl rfl ?_
            refine s_M_in ⟨by omega, by omega⟩ (by decide) (by decide) ?_
            refine Rj_b_eq (q := 18) (t := 35) d_M_place_15 rfl (by decide) (fun c15 => ?_) (fun c15 => ?_)
            · have c15 := of_decide_eq_false c15
              refine Rj_ldc2 (q := 38) k_M_358 d_M_place_35 rfl ?_
              refine Rj_lret d_M_place_38 rfl ?_
              first | exact ⟨sm_L rfl, hC1, kp0 _, kq0 _⟩ | exact ⟨sm_L (by omega), hC1, kp0 _, kq0 _⟩ | exact ⟨sm_L ((lw_eq br.1 (by omega) sc).symm), hC1, kp0 _, kq0 _⟩
            · have c15 := of_decide_eq_true c15
              refine Rj_aload_n (q := 19) d_M_place_18 rfl rfl rfl ?_
              refine Rj_gr (q := 22) (zd := 12) gM_M_45_0 rfl rfl d_M_place_19 rfl ?_
              refine Rj_iload_n (q := 23) d_M_place_22 rfl rfl rfl ?_
              refine Rj_la (q := 24) (v := ν 12 a) aM_12 rfl (by omega) rfl d_M_place_23 rfl ?_
              refine Rj_aload_n (q := 25) d_M_place_24 rfl rfl rfl ?_
              refine Rj_gl (q := 28) (ki := 32) (v := pts (ν 11)) gM_M_64_0 rfl rfl hP d_M_place_25 rfl ?_
              refine Rj_iload_n (q := 29) d_M_place_28 rfl rfl rfl ?_
              refine Rj_cs (q := 32) (z := y_M_lowest) (as := [vL (ν 12 a), vL (pts (ν 11)), vI b]) (rest := []) (la := [vL (ν 12 a), vU, vL (pts (ν 11)), vU, vI b]) ml_M_313 mw_M_lowest ms_M_lowest d_M_place_29 rfl rfl rfl rfl rfl ?_
              refine s_M_lowest (by omega) (by omega) (by omega) (by first | assumption | exact ⟨by omega, by omega⟩) ?_
              refine Rj_goto (t := 38) d_M_place_32 (by decide) ?_
              refine Rj_lret d_M_place_38 rfl ?_
              first | exact ⟨sm_L rfl, hC1, kp0 _, kq0 _⟩ | exact ⟨sm_L (by omega), hC1, kp0 _, kq0 _⟩ | exact ⟨sm_L ((lw_eq br.1 (by omega) sc).symm), hC1, kp0 _, kq0 _⟩
        · refine Rj_iconst (q := 10) d_D_isPart_9 rfl ?_
          refine Rj_goto (t := 14) d_D_isPart_10 (by decide) ?_
          refine Rj_bret1 d_D_isPart_14 rfl ?_
          refine Rj_if_ne (q := 18) (t := 22) d_D_place_15 rfl (by decide) (by decide) (fun _ => ?_) (fun c => absurd c (by decide))
          refine Rj_aload_n (q := 23) d_D_place_22 rfl rfl rfl ?_
          refine Rj_gr (q := 26) (zd := 3) gD_D_25_0 rfl rfl d_D_place_23 rfl ?_
          refine Rj_gr (q := 29) (zd := 9) gD_D_175_3 rfl rfl d_D_place_26 rfl ?_
          refine Rj_iload_n (q := 30) d_D_place_29 rfl rfl rfl ?_
          refine Rj_la (q := 31) (v := μ 9 a) aD_9 rfl (by omega) rfl d_D_place_30 rfl ?_
          refine Rj_aload_n (q := 32) d_D_place_31 rfl rfl rfl ?_
          refine Rj_gr (q := 35) (zd := 59) gD_D_45_0 rfl rfl d_D_place_32 rfl ?_
          refine Rj_gr (q := 38) (zd := 63) gD_D_179_59 rfl rfl d_D_place_35 rfl ?_
          refine Rj_iload_n (q := 39) d_D_place_38 rfl rfl rfl ?_
          refine Rj_la (q := 40) (v := μ 63 a) aD_63 rfl (by omega) rfl d_D_place_39 rfl ?_
          refine Rj_iload_n (q := 41) d_D_place_40 rfl rfl rfl ?_
          refine Rj_cs (q := 44) (z := y_D_lowest) (as := [vL (μ 9 a), vL (μ 63 a), vI b]) (rest := []) (la := [vL (μ 9 a), vU, vL (μ 63 a), vU, vI b]) ml_D_182 mw_D_lowest ms_D_lowest d_D_place_41 rfl rfl rfl rfl rfl ?_
          refine s_D_lowest (by omega) (by omega) (by omega) (by first | assumption | exact ⟨by omega, by omega⟩) ?_
          refine Rj_lret d_D_place_44 rfl ?_
          refine Rj_aload_n (q := 1) d_M_place_0 rfl rfl rfl ?_
          refine Rj_iload_n (q := 2) d_M_place_1 rfl rfl rfl ?_
          refine Rj_vo (q := 5) (z := y_M_isDoor) (as := [vI a]) (rest := []) (la := [vA 0, vI a]) oM_0_M_isDoor ml_M_353 mw_M_isDoor mv_M_isDoor rfl d_M_place_2 rfl rfl rfl rfl rfl ?_
          refine s_M_isDoor hD (by first | assumption | omega) ?_
          refine Rj_b_eq (q := 8) (t := 35) d_M_place_5 rfl (by decide) (fun c5 => ?_) (fun c5 => ?_)
          · have c5 := of_decide_eq_false c5
            refine Rj_ldc2 (q := 38) k_M_358 d_M_place_35 rfl ?_
            refine Rj_lret d_M_place_38 rfl ?_
            first | exact ⟨sm_L rfl, hC1, kp0 _, kq0 _⟩ | exact ⟨sm_L (by omega), hC1, kp0 _, kq0 _⟩ | exact ⟨sm_L ((lw_eq br.1 (by omega) sc).symm), hC1, kp0 _, kq0 _⟩
          · have c5 := of_decide_eq_true c5
            refine Rj_iload_n (q := 9) d_M_place_8 rfl rfl rfl ?_
            refine Rj_i2l (q := 10) d_M_place_9 rfl (by first | assumption | exact ⟨by omega, by omega⟩) ?_
            refine Rj_lconst (q := 11) (z := 0) d_M_place_10 rfl rfl ?_
            refine Rj_lconst (q := 12) (z := 1) d_M_place_11 rfl rfl ?_
            refine Rj_cs (q := 15) (z := y_M_in) (as := [vL b, vL 0, vL 1]) (rest := []) (la := [vL b, vU, vL 0, vU, vL 1, vU]) ml_M_138 mw_M_in ms_M_in d_M_place_12 rfl rfl rfl rfl rfl ?_
            refine s_M_in ⟨by omega, by omega⟩ (by decide) (by decide) ?_
            refine Rj_b_eq (q := 18) (t := 35) d_M_place_15 rfl (by decide) (fun c15 => ?_) (fun c15 => ?_)
            · have c15 := of_decide_eq_false c15
              refine Rj_ldc2 (q := 38) k_M_358 d_M_place_35 rfl ?_
              refine Rj_lret d_M_place_38 rfl ?_
              first | exact ⟨sm_L rfl, hC1, kp0 _, kq0 _⟩ | exact ⟨sm_L (by omega), hC1, kp0 _, kq0 _⟩ | exact ⟨sm_L ((lw_eq br.1 (by omega) sc).symm), hC1, kp0 _, kq0 _⟩
            · have c15 := of_decide_eq_true c15
              refine Rj_aload_n (q := 19) d_M_place_18 rfl rfl rfl ?_
              refine Rj_gr (q := 22) (zd := 12) gM_M_45_0 rfl rfl d_M_place_19 rfl ?_
              refine Rj_iload_n (q := 23) d_M_place_22 rfl rfl rfl ?_
              refine Rj_la (q := 24) (v := ν 12 a) aM_12 rfl (by omega) rfl d_M_place_23 rfl ?_
              refine Rj_aload_n (q := 25) d_M_place_24 rfl rfl rfl ?_
              refine Rj_gl (q := 28) (ki := 32) (v := pts (ν 11)) gM_M_64_0 rfl rfl hP d_M_place_25 rfl ?_
              refine Rj_iload_n (q := 29) d_M_place_28 rfl rfl rfl ?_
              refine Rj_cs (q := 32) (z := y_M_lowest) (as := [vL (ν 12 a), vL (pts (ν 11)), vI b]) (rest := []) (la := [vL (ν 12 a), vU, vL (pts (ν 11)), vU, vI b]) ml_M_313 mw_M_lowest ms_M_lowest d_M_place_29 rfl rfl rfl rfl rfl ?_
              refine s_M_lowest (by omega) (by omega) (by omega) (by first | assumption | exact ⟨by omega, by omega⟩) ?_
              refine Rj_goto (t := 38) d_M_place_32 (by decide) ?_
              refine Rj_lret d_M_place_38 rfl ?_
              first | exact ⟨sm_L rfl, hC1, kp0 _, kq0 _⟩ | exact ⟨sm_L (by omega), hC1, kp0 _, kq0 _⟩ | exact ⟨sm_L ((lw_eq br.1 (by omega) sc).symm), hC1, kp0 _, kq0 _⟩
set_option maxHeartbeats 8000000 in
theorem C_join {n : Nat} {μ ν : Mem} {a b : Int} (hC : Cor n μ ν) (hn : n ≤ 511) (ha : i32 a) (hb : i32 b)  : Rj YD y_D_join 0 [vA 0, vI a, vI b] [] μ (fun r μ' => Rj YM y_M_join 0 [vA 0, vI a, vI b] [] ν (fun r' ν' => Sm 1 r' r ∧ Cor (n + 1) μ' ν' ∧ Kp μ μ' ∧ Kq ν ν')) := by
  obtain ⟨hTP, hK, hSc, h, hM, hSB, hBK, hIM⟩ := id hC
  have hC1 := hC.next
  obtain ⟨z0, z1, z2, z3, z4, z5, z6, z7⟩ := h.z
  obtain ⟨hS, hH, hP, hB, hFx⟩ := id hM
  have hD := z0
  have hJ := z1
  refine Rj_iload_n (q := 1) d_D_join_0 rfl rfl rfl ?_
  refine Rj_if_lt (q := 4) (t := 15) d_D_join_1 rfl (by decide) (by first | assumption | exact ⟨by omega, by omega⟩) (fun c1 => ?_) (fun c1 => ?_)
  · refine Rj_iconst (q := 16) d_D_join_15 rfl ?_
    refine Rj_iret d_D_join_16 rfl ?_
    refine Rj_aload_n (q := 1) d_M_join_0 rfl rfl rfl ?_
    refine Rj_iload_n (q := 2) d_M_join_1 rfl rfl rfl ?_
    refine Rj_vo (q := 5) (z := y_M_isJoin) (as := [vI a]) (rest := []) (la := [vA 0, vI a]) oM_0_M_isJoin ml_M_360 mw_M_isJoin mv_M_isJoin rfl d_M_join_2 rfl rfl rfl rfl rfl ?_
    refine s_M_isJoin hJ (by first | assumption | omega) ?_
    refine Rj_b_eq (q := 8) (t := 29) d_M_join_5 rfl (by decide) (fun c5 => ?_) (fun c5 => ?_)
    · have c5 := of_decide_eq_false c5
      refine Rj_iconst (q := 30) d_M_join_29 rfl ?_
      refine Rj_iret d_M_join_30 rfl ?_
      first | exact ⟨sm_I (by omega), hC1, kp0 _, kq0 _⟩ | (first | (subst hs18; exact ⟨sm_I (by have := hSc.2.2.2.2.2.2.2.2.2.1 a (by omega) (by omega); first | exact this.1.symm | exact this.2.1.symm | exact this.2.2.symm), hC1, kp0 _, kq0 _⟩))
    · have c5 := of_decide_eq_true c5
      refine Rj_iload_n (q := 9) d_M_join_8 rfl rfl rfl ?_
      refine Rj_i2l (q := 10) d_M_join_9 rfl (by first | assumption | exact ⟨by omega, by omega⟩) ?_
      refine Rj_lconst (q := 11) (z := 0) d_M_join_10 rfl rfl ?_
      refine Rj_ldc2 (q := 14) k_M_341 d_M_join_11 rfl ?_
      refine Rj_cs (q := 17) (z := y_M_in) (as := [vL b, vL 0, vL 2]) (rest := []) (la := [vL b, vU, vL 0, vU, vL 2, vU]) ml_M_138 mw_M_in ms_M_in d_M_join_14 rfl rfl rfl rfl rfl ?_
      refine s_M_in ⟨by omega, by omega⟩ (by decide) (by decide) ?_
      refine Rj_b_eq (q := 20) (t := 29) d_M_join_17 rfl (by decide) (fun c17 => ?_) (fun c17 => ?_)
      · have c17 := of_decide_eq_false c17
        refine Rj_iconst (q := 30) d_M_join_29 rfl ?_
        refine Rj_iret d_M_join_30 rfl ?_
        first | exact ⟨sm_I (by omega), hC1, kp0 _, kq0 _⟩ | (first | (subst hs18; exact ⟨sm_I (by have := hSc.2.2.2.2.2.2.2.2.2.1 a (by omega) (by omega); first | exact this.1.symm | exact this.2.1.symm | exact this.2.2.symm), hC1, kp0 _, kq0 _⟩))
      · have c17 := of_decide_eq_true c17
        refine Rj_aload_n (q := 21) d_M_join_20 rfl rfl rfl ?_
        refine Rj_iload_n (q := 22) d_M_join_21 rfl rfl rfl ?_
        refine Rj_iload_n (q := 23) d_M_join_22 rfl rfl rfl ?_
        refine Rj_vo (q := 26) (z := y_M_joinOf) (as := [vI a, vI b]) (rest := []) (la := [vA 0, vI a, vI b]) oM_0_M_joinOf ml_M_297 mw_M_joinOf mv_M_joinOf rfl d_M_join_23 rfl rfl rfl rfl rfl ?_
        refine s_M_joinOf (by omega) (by omega) ?_
        refine Rj_goto (t := 30) d_M_join_26 (by decide) ?_
        refine Rj_iret d_M_join_30 rfl ?_
        first | exact ⟨sm_I (by omega), hC1, kp0 _, kq0 _⟩ | (first | (subst hs18; exact ⟨sm_I (by have := hSc.2.2.2.2.2.2.2.2.2.1 a (by omega) (by omega); first | exact this.1.symm | exact this.2.1.symm | exact this.2.2.symm), hC1, kp0 _, kq0 _⟩))
  · refine Rj_iload_n (q := 5) d_D_join_4 rfl rfl rfl ?_
    refine Rj_aload_n (q := 6) d_D_join_5 rfl rfl rfl ?_
    refine Rj_gr (q := 9) (zd := 3) gD_D_25_0 rfl rfl d_D_join_6 rfl ?_
    refine Rj_gi (q := 12) (ki := 4) (v := μ 3 4) gD_D_186_3 rfl rfl rfl d_D_join_9 rfl ?_
    refine Rj_icmp_lt (q := 15) (t := 17) d_D_join_12 rfl (by decide) (by first | assumption | exact ⟨by omega, by omega⟩) (by first | assumption | exact ⟨by omega, by omega⟩) (fun c12 => ?_) (fun c12 => ?_)
    · refine Rj_iload_n (q := 18) d_D_join_17 rfl rfl rfl ?_
      rcases (show b = 0 ∨ b = 1 ∨ b = 2 ∨ (b < 0 ∨ 2 < b) by omega) with hs18 | hs18 | hs18 | hs18
      · refine Rj_tsI (t := 44) d_D_join_18 (by first | assumption | exact ⟨by omega, by omega⟩) (by omega) (by omega) (by rw [hs18]; rfl) (by decide) ?_
        refine Rj_aload_n (q := 45) d_D_join_44 rfl rfl rfl ?_
        refine Rj_gr (q := 48) (zd := 3) gD_D_25_0 rfl rfl d_D_join_45 rfl ?_
        refine Rj_gr (q := 51) (zd := 6) gD_D_189_3 rfl rfl d_D_join_48 rfl ?_
        refine Rj_iload_n (q := 52) d_D_join_51 rfl rfl rfl ?_
        refine Rj_ia (q := 53) (v := μ 6 a) aD_6 rfl (by omega) rfl d_D_join_52 rfl ?_
        refine Rj_iret d_D_join_53 rfl ?_
        refine Rj_aload_n (q := 1) d_M_join_0 rfl rfl rfl ?_
        refine Rj_iload_n (q := 2) d_M_join_1 rfl rfl rfl ?_
        refine Rj_vo (q := 5) (z := y_M_isJoin) (as := [vI a]) (rest := []) (la := [vA 0, vI a]) oM_0_M_isJoin ml_M_360 mw_M_isJoin mv_M_isJoin rfl d_M_join_2 rfl rfl rfl rfl rfl ?_
        refine s_M_isJoin hJ (by first | assumption | omega) ?_
        refine Rj_b_eq (q := 8) (t := 29) d_M_join_5 rfl (by decide) (fun c5 => ?_) (fun c5 => ?_)
        · have c5 := of_decide_eq_false c5
          refine Rj_iconst (q := 30) d_M_join_29 rfl ?_
          refine Rj_iret d_M_join_30 rfl ?_
          first | exact ⟨sm_I (by omega), hC1, kp0 _, kq0 _⟩ | (first | (subst hs18; exact ⟨sm_I (by have := hSc.2.2.2.2.2.2.2.2.2.1 a (by omega) (by omega); first | exact this.1.symm | exact this.2.1.symm | exact this.2.2.symm), hC1, kp0 _, kq0 _⟩))
        · have c5 := of_decide_eq_true c5
          refine Rj_iload_n (q := 9) d_M_join_8 rfl rfl rfl ?_
          refine Rj_i2l (q := 10) d_M_join_9 rfl (by first | assumption | exact ⟨by omega, by omega⟩) ?_
          refine Rj_lconst (q := 11) (z := 0) d_M_join_10 rfl rfl ?_
          refine Rj_ldc2 (q := 14) k_M_341 d_M_join_11 rfl ?_
          refine Rj_cs (q := 17) (z := y_M_in) (as := [vL b, vL 0, vL 2]) (rest := []) (la := [vL b, vU, vL 0, vU, vL 2, vU]) ml_M_138 mw_M_in ms_M_in d_M_join_14 rfl rfl rfl rfl rfl ?_
          refine s_M_in ⟨by omega, by omega⟩ (by decide) (by decide) ?_
          refine Rj_b_eq (q := 20) (t := 29) d_M_join_17 rfl (by decide) (fun c17 => ?_) (fun c17 => ?_)
          · have c17 := of_decide_eq_false c17
            refine Rj_iconst (q := 30) d_M_join_29 rfl ?_
            refine Rj_iret d_M_join_30 rfl ?_
            first | exact ⟨sm_I (by omega), hC1, kp0 _, kq0 _⟩ | (first | (subst hs18; exact ⟨sm_I (by have := hSc.2.2.2.2.2.2.2.2.2.1 a (by omega) (by omega); first | exact this.1.symm | exact this.2.1.symm | exact this.2.2.symm), hC1, kp0 _, kq0 _⟩))
          · have c17 := of_decide_eq_true c17
            refine Rj_aload_n (q := 21) d_M_join_20 rfl rfl rfl ?_
            refine Rj_iload_n (q := 22) d_M_join_21 rfl rfl rfl ?_
            refine Rj_iload_n (q := 23) d_M_join_22 rfl rfl rfl ?_
            refine Rj_vo (q := 26) (z := y_M_joinOf) (as := [vI a, vI b]) (rest := []) (la := [vA 0, vI a, vI b]) oM_0_M_joinOf ml_M_297 mw_M_joinOf mv_M_joinOf rfl d_M_join_23 rfl rfl rfl rfl rfl ?_
            refine s_M_joinOf (by omega) (by omega) ?_
            refine Rj_goto (t := 30) d_M_join_26 (by decide) ?_
            refine Rj_iret d_M_join_30 rfl ?_
            first | exact ⟨sm_I (by omega), hC1, kp0 _, kq0 _⟩ | (first | (subst hs18; exact ⟨sm_I (by have := hSc.2.2.2.2.2.2.2.2.2.1 a (by omega) (by omega); first | exact this.1.symm | exact this.2.1.symm | exact this.2.2.symm), hC1, kp0 _, kq0 _⟩))
      · refine Rj_tsI (t := 54) d_D_join_18 (by first | assumption | exact ⟨by omega, by omega⟩) (by omega) (by omega) (by rw [hs18]; rfl) (by decide) ?_
        refine Rj_aload_n (q := 55) d_D_join_54 rfl rfl rfl ?_
        refine Rj_gr (q := 58) (zd := 3) gD_D_25_0 rfl rfl d_D_join_55 rfl ?_
        refine Rj_gr (q := 61) (zd := 7) gD_D_192_3 rfl rfl d_D_join_58 rfl ?_
        refine Rj_iload_n (q := 62) d_D_join_61 rfl rfl rfl ?_
        refine Rj_ia (q := 63) (v := μ 7 a) aD_7 rfl (by omega) rfl d_D_join_62 rfl ?_
        refine Rj_iret d_D_join_63 rfl ?_
        refine Rj_aload_n (q := 1) d_M_join_0 rfl rfl rfl ?_
        refine Rj_iload_n (q := 2) d_M_join_1 rfl rfl rfl ?_
        refine Rj_vo (q := 5) (z := y_M_isJoin) (as := [vI a]) (rest := []) (la := [vA 0, vI a]) oM_0_M_isJoin ml_M_360 mw_M_isJoin mv_M_isJoin rfl d_M_join_2 rfl rfl rfl rfl rfl ?_
        refine s_M_isJoin hJ (by first | assumption | omega) ?_
        refine Rj_b_eq (q := 8) (t := 29) d_M_join_5 rfl (by decide) (fun c5 => ?_) (fun c5 => ?_)
        · have c5 := of_decide_eq_false c5
          refine Rj_iconst (q := 30) d_M_join_29 rfl ?_
          refine Rj_iret d_M_join_30 rfl ?_
          first | exact ⟨sm_I (by omega), hC1, kp0 _, kq0 _⟩ | (first | (subst hs18; exact ⟨sm_I (by have := hSc.2.2.2.2.2.2.2.2.2.1 a (by omega) (by omega); first | exact this.1.symm | exact this.2.1.symm | exact this.2.2.symm), hC1, kp0 _, kq0 _⟩))
        · have c5 := of_decide_eq_true c5
          refine Rj_iload_n (q := 9) d_M_join_8 rfl rfl rfl ?_
          refine Rj_i2l (q := 10) d_M_join_9 rfl (by first | assumption | exact ⟨by omega, by omega⟩) ?_
          refine Rj_lconst (q := 11) (z := 0) d_M_join_10 rfl rfl ?_
          refine Rj_ldc2 (q := 14) k_M_341 d_M_join_11 rfl ?_
          refine Rj_cs (q := 17) (z := y_M_in) (as := [vL b, vL 0, vL 2]) (rest := []) (la := [vL b, vU, vL 0, vU, vL 2, vU]) ml_M_138 mw_M_in ms_M_in d_M_join_14 rfl rfl rfl rfl rfl ?_
          refine s_M_in ⟨by omega, by omega⟩ (by decide) (by decide) ?_
          refine Rj_b_eq (q := 20) (t := 29) d_M_join_17 rfl (by decide) (fun c17 => ?_) (fun c17 => ?_)
          · have c17 := of_decide_eq_false c17
            refine Rj_iconst (q := 30) d_M_join_29 rfl ?_
            refine Rj_iret d_M_join_30 rfl ?_
            first | exact ⟨sm_I (by omega), hC1, kp0 _, kq0 _⟩ | (first | (subst hs18; exact ⟨sm_I (by have := hSc.2.2.2.2.2.2.2.2.2.1 a (by omega) (by omega); first | exact this.1.symm | exact this.2.1.symm | exact this.2.2.symm), hC1, kp0 _, kq0 _⟩))
          · have c17 := of_decide_eq_true c17
            refine Rj_aload_n (q := 21) d_M_join_20 rfl rfl rfl ?_
            refine Rj_iload_n (q := 22) d_M_join_21 rfl rfl rfl ?_
            refine Rj_iload_n (q := 23) d_M_join_22 rfl rfl rfl ?_
            refine Rj_vo (q := 26) (z := y_M_joinOf) (as := [vI a, vI b]) (rest := []) (la := [vA 0, vI a, vI b]) oM_0_M_joinOf ml_M_297 mw_M_joinOf mv_M_joinOf rfl d_M_join_23 rfl rfl rfl rfl rfl ?_
            refine s_M_joinOf (by omega) (by omega) ?_
            refine Rj_goto (t := 30) d_M_join_26 (by decide) ?_
            refine Rj_iret d_M_join_30 rfl ?_
            first | exact ⟨sm_I (by omega), hC1, kp0 _, kq0 _⟩ | (first | (subst hs18; exact ⟨sm_I (by have := hSc.2.2.2.2.2.2.2.2.2.1 a (by omega) (by omega); first | exact this.1.symm | exact this.2.1.symm | exact this.2.2.symm), hC1, kp0 _, kq0 _⟩))
      · refine Rj_tsI (t := 64) d_D_join_18 (by first | assumption | exact ⟨by omega, by omega⟩) (by omega) (by omega) (by rw [hs18]; rfl) (by decide) ?_
        refine Rj_aload_n (q := 65) d_D_join_64 rfl rfl rfl ?_
        refine Rj_gr (q := 68) (zd := 3) gD_D_25_0 rfl rfl d_D_join_65 rfl ?_
        refine Rj_gr (q := 71) (zd := 8) gD_D_195_3 rfl rfl d_D_join_68 rfl ?_
        refine Rj_iload_n (q := 72) d_D_join_71 rfl rfl rfl ?_
        refine Rj_ia (q := 73) (v := μ 8 a) aD_8 rfl (by omega) rfl d_D_join_72 rfl ?_
        refine Rj_iret d_D_join_73 rfl ?_
        refine Rj_aload_n (q := 1) d_M_join_0 rfl rfl rfl ?_
        refine Rj_iload_n (q := 2) d_M_join_1 rfl rfl rfl ?_
        refine Rj_vo (q := 5) (z := y_M_isJoin) (as := [vI a]) (rest := []) (la := [vA 0, vI a]) oM_0_M_isJoin ml_M_360 mw_M_isJoin mv_M_isJoin rfl d_M_join_2 rfl rfl rfl rfl rfl ?_
        refine s_M_isJoin hJ (by first | assumption | omega) ?_
        refine Rj_b_eq (q := 8) (t := 29) d_M_join_5 rfl (by decide) (fun c5 => ?_) (fun c5 => ?_)
        · have c5 := of_decide_eq_false c5
          refine Rj_iconst (q := 30) d_M_join_29 rfl ?_
          refine Rj_iret d_M_join_30 rfl ?_
          first | exact ⟨sm_I (by omega), hC1, kp0 _, kq0 _⟩ | (first | (subst hs18; exact ⟨sm_I (by have := hSc.2.2.2.2.2.2.2.2.2.1 a (by omega) (by omega); first | exact this.1.symm | exact this.2.1.symm | exact this.2.2.symm), hC1, kp0 _, kq0 _⟩))
        · have c5 := of_decide_eq_true c5
          refine Rj_iload_n (q := 9) d_M_join_8 rfl rfl rfl ?_
          refine Rj_i2l (q := 10) d_M_join_9 rfl (by first | assumption | exact ⟨by omega, by omega⟩) ?_
          refine Rj_lconst (q := 11) (z := 0) d_M_join_10 rfl rfl ?_
          refine Rj_ldc2 (q := 14) k_M_341 d_M_join_11 rfl ?_
          refine Rj_cs (q := 17) (z := y_M_in) (as := [vL b, vL 0, vL 2]) (rest := []) (la := [vL b, vU, vL 0, vU, vL 2, vU]) ml_M_138 mw_M_in ms_M_in d_M_join_14 rfl rfl rfl rfl rfl ?_
          refine s_M_in ⟨by omega, by omega⟩ (by decide) (by decide) ?_
          refine Rj_b_eq (q := 20) (t := 29) d_M_join_17 rfl (by decide) (fun c17 => ?_) (fun c17 => ?_)
          · have c17 := of_decide_eq_false c17
            refine Rj_iconst (q := 30) d_M_join_29 rfl ?_
            refine Rj_iret d_M_join_30 rfl ?_
            first | exact ⟨sm_I (by omega), hC1, kp0 _, kq0 _⟩ | (first | (subst hs18; exact ⟨sm_I (by have := hSc.2.2.2.2.2.2.2.2.2.1 a (by omega) (by omega); first | exact this.1.symm | exact this.2.1.symm | exact this.2.2.symm), hC1, kp0 _, kq0 _⟩))
          · have c17 := of_decide_eq_true c17
            refine Rj_aload_n (q := 21) d_M_join_20 rfl rfl rfl ?_
            refine Rj_iload_n (q := 22) d_M_join_21 rfl rfl rfl ?_
            refine Rj_iload_n (q := 23) d_M_join_22 rfl rfl rfl ?_
            refine Rj_vo (q := 26) (z := y_M_joinOf) (as := [vI a, vI b]) (rest := []) (la := [vA 0, vI a, vI b]) oM_0_M_joinOf ml_M_297 mw_M_joinOf mv_M_joinOf rfl d_M_join_23 rfl rfl rfl rfl rfl ?_
            refine s_M_joinOf (by omega) (by omega) ?_
            refine Rj_goto (t := 30) d_M_join_26 (by decide) ?_
            refine Rj_iret d_M_join_30 rfl ?_
            first | exact ⟨sm_I (by omega), hC1, kp0 _, kq0 _⟩ | (first | (subst hs18; exact ⟨sm_I (by have := hSc.2.2.2.2.2.2.2.2.2.1 a (by omega) (by omega); first | exact this.1.symm | exact this.2.1.symm | exact this.2.2.symm), hC1, kp0 _, kq0 _⟩))
      · refine Rj_tsO (t := 74) d_D_join_18 (by first | assumption | exact ⟨by omega, by omega⟩) hs18 (by decide) ?_
        refine Rj_iconst (q := 75) d_D_join_74 rfl ?_
        refine Rj_iret d_D_join_75 rfl ?_
        refine Rj_aload_n (q := 1) d_M_join_0 rfl rfl rfl ?_
        refine Rj_iload_n (q := 2) d_M_join_1 rfl rfl rfl ?_
        refine Rj_vo (q := 5) (z := y_M_isJoin) (as := [vI a]) (rest := []) (la := [vA 0, vI a]) oM_0_M_isJoin ml_M_360 mw_M_isJoin mv_M_isJoin rfl d_M_join_2 rfl rfl rfl rfl rfl ?_
        refine s_M_isJoin hJ (by first | assumption | omega) ?_
        refine Rj_b_eq (q := 8) (t := 29) d_M_join_5 rfl (by decide) (fun c5 => ?_) (fun c5 => ?_)
        · have c5 := of_decide_eq_false c5
          refine Rj_iconst (q := 30) d_M_join_29 rfl ?_
          refine Rj_iret d_M_join_30 rfl ?_
          first | exact ⟨sm_I (by omega), hC1, kp0 _, kq0 _⟩ | (first | (subst hs18; exact ⟨sm_I (by have := hSc.2.2.2.2.2.2.2.2.2.1 a (by omega) (by omega); first | exact this.1.symm | exact this.2.1.symm | exact this.2.2.symm), hC1, kp0 _, kq0 _⟩))
        · have c5 := of_decide_eq_true c5
          refine Rj_iload_n (q := 9) d_M_join_8 rfl rfl rfl ?_
          refine Rj_i2l (q := 10) d_M_join_9 rfl (by first | assumption | exact ⟨by omega, by omega⟩) ?_
          refine Rj_lconst (q := 11) (z := 0) d_M_join_10 rfl rfl ?_
          refine Rj_ldc2 (q := 14) k_M_341 d_M_join_11 rfl ?_
          refine Rj_cs (q := 17) (z := y_M_in) (as := [vL b, vL 0, vL 2]) (rest := []) (la := [vL b, vU, vL 0, vU, vL 2, vU]) ml_M_138 mw_M_in ms_M_in d_M_join_14 rfl rfl rfl rfl rfl ?_
          refine s_M_in ⟨by omega, by omega⟩ (by decide) (by decide) ?_
          refine Rj_b_eq (q := 20) (t := 29) d_M_join_17 rfl (by decide) (fun c17 => ?_) (fun c17 => ?_)
          · have c17 := of_decide_eq_false c17
            refine Rj_iconst (q := 30) d_M_join_29 rfl ?_
            refine Rj_iret d_M_join_30 rfl ?_
            first | exact ⟨sm_I (by omega), hC1, kp0 _, kq0 _⟩ | (first | (subst hs18; exact ⟨sm_I (by have := hSc.2.2.2.2.2.2.2.2.2.1 a (by omega) (by omega); first | exact this.1.symm | exact this.2.1.symm | exact this.2.2.symm), hC1, kp0 _, kq0 _⟩))
          · have c17 := of_decide_eq_true c17
            refine Rj_aload_n (q := 21) d_M_join_20 rfl rfl rfl ?_
            refine Rj_iload_n (q := 22) d_M_join_21 rfl rfl rfl ?_
            refine Rj_iload_n (q := 23) d_M_join_22 rfl rfl rfl ?_
            refine Rj_vo (q := 26) (z := y_M_joinOf) (as := [vI a, vI b]) (rest := []) (la := [vA 0, vI a, vI b]) oM_0_M_joinOf ml_M_297 mw_M_joinOf mv_M_joinOf rfl d_M_join_23 rfl rfl rfl rfl rfl ?_
            refine s_M_joinOf (by omega) (by omega) ?_
            refine Rj_goto (t := 30) d_M_join_26 (by decide) ?_
            refine Rj_iret d_M_join_30 rfl ?_
            first | exact ⟨sm_I (by omega), hC1, kp0 _, kq0 _⟩ | (first | (subst hs18; exact ⟨sm_I (by have := hSc.2.2.2.2.2.2.2.2.2.1 a (by omega) (by omega); first | exact this.1.symm | exact this.2.1.symm | exact this.2.2.symm), hC1, kp0 _, kq0 _⟩))
    · refine Rj_iconst (q := 16) d_D_join_15 rfl ?_
      refine Rj_iret d_D_join_16 rfl ?_
      refine Rj_aload_n (q := 1) d_M_join_0 rfl rfl rfl ?_
      refine Rj_iload_n (q := 2) d_M_join_1 rfl rfl rfl ?_
      refine Rj_vo (q := 5) (z := y_M_isJoin) (as := [vI a]) (rest := []) (la := [vA 0, vI a]) oM_0_M_isJoin ml_M_360 mw_M_isJoin mv_M_isJoin rfl d_M_join_2 rfl rfl rfl rfl rfl ?_
      refine s_M_isJoin hJ (by first | assumption | omega) ?_
      refine Rj_b_eq (q := 8) (t := 29) d_M_join_5 rfl (by decide) (fun c5 => ?_) (fun c5 => ?_)
      · have c5 := of_decide_eq_false c5
        refine Rj_iconst (q := 30) d_M_join_29 rfl ?_
        refine Rj_iret d_M_join_30 rfl ?_
        first | exact ⟨sm_I (by omega), hC1, kp0 _, kq0 _⟩ | (first | (subst hs18; exact ⟨sm_I (by have := hSc.2.2.2.2.2.2.2.2.2.1 a (by omega) (by omega); first | exact this.1.symm | exact this.2.1.symm | exact this.2.2.symm), hC1, kp0 _, kq0 _⟩))
      · have c5 := of_decide_eq_true c5
        refine Rj_iload_n (q := 9) d_M_join_8 rfl rfl rfl ?_
        refine Rj_i2l (q := 10) d_M_join_9 rfl (by first | assumption | exact ⟨by omega, by omega⟩) ?_
        refine Rj_lconst (q := 11) (z := 0) d_M_join_10 rfl rfl ?_
        refine Rj_ldc2 (q := 14) k_M_341 d_M_join_11 rfl ?_
        refine Rj_cs (q := 17) (z := y_M_in) (as := [vL b, vL 0, vL 2]) (rest := []) (la := [vL b, vU, vL 0, vU, vL 2, vU]) ml_M_138 mw_M_in ms_M_in d_M_join_14 rfl rfl rfl rfl rfl ?_
        refine s_M_in ⟨by omega, by omega⟩ (by decide) (by decide) ?_
        refine Rj_b_eq (q := 20) (t := 29) d_M_join_17 rfl (by decide) (fun c17 => ?_) (fun c17 => ?_)
        · have c17 := of_decide_eq_false c17
          refine Rj_iconst (q := 30) d_M_join_29 rfl ?_
          refine Rj_iret d_M_join_30 rfl ?_
          first | exact ⟨sm_I (by omega), hC1, kp0 _, kq0 _⟩ | (first | (subst hs18; exact ⟨sm_I (by have := hSc.2.2.2.2.2.2.2.2.2.1 a (by omega) (by omega); first | exact this.1.symm | exact this.2.1.symm | exact this.2.2.symm), hC1, kp0 _, kq0 _⟩))
        · have c17 := of_decide_eq_true c17
          refine Rj_aload_n (q := 21) d_M_join_20 rfl rfl rfl ?_
          refine Rj_iload_n (q := 22) d_M_join_21 rfl rfl rfl ?_
          refine Rj_iload_n (q := 23) d_M_join_22 rfl rfl rfl ?_
          refine Rj_vo (q := 26) (z := y_M_joinOf) (as := [vI a, vI b]) (rest := []) (la := [vA 0, vI a, vI b]) oM_0_M_joinOf ml_M_297 mw_M_joinOf mv_M_joinOf rfl d_M_join_23 rfl rfl rfl rfl rfl ?_
          refine s_M_joinOf (by omega) (by omega) ?_
          refine Rj_goto (t := 30) d_M_join_26 (by decide) ?_
          refine Rj_iret d_M_join_30 rfl ?_
          first | exact ⟨sm_I (by omega), hC1, kp0 _, kq0 _⟩ | (first | (subst hs18; exact ⟨sm_I (by have := hSc.2.2.2.2.2.2.2.2.2.1 a (by omega) (by omega); first | exact this.1.symm | exact this.2.1.symm | exact this.2.2.symm), hC1, kp0 _, kq0 _⟩))
/-- what was told beside: wanted sets, comings, what was seen, x -/
def W3 (μ ν : Mem) : Prop := (0 ≤ ν 11 3 ∧ ν 11 3 < 2 ^ (ν 11 0).toNat) ∧ μ 3 10 = ν 11 3 ∧ (0 ≤ ν 11 4 ∧ ν 11 4 < 2 ^ (ν 11 0).toNat) ∧ μ 3 11 = ν 11 4
def W5 (μ ν : Mem) : Prop := (0 ≤ ν 11 5 ∧ ν 11 5 ≤ 40) ∧ μ 3 14 = ν 11 5 ∧ ∀ i, 0 ≤ i → i < ν 11 5 → (0 ≤ ν 11 (94 + i) ∧ ν 11 (94 + i) < ν 11 0) ∧ μ 11 i = ν 11 (94 + i)
def W6 (μ ν : Mem) : Prop := (0 ≤ ν 11 6 ∧ ν 11 6 < 4096) ∧ μ 3 12 = ν 11 6 ∧ ∀ d, 0 ≤ d → d < ν 11 0 → zbit (ν 11 6) d = 1 → (-9999 ≤ ν 11 (82 + d) ∧ ν 11 (82 + d) ≤ 9999) ∧ μ 10 d = ν 11 (82 + d)
def W8 (μ ν : Mem) : Prop := (0 ≤ ν 11 8 ∧ ν 11 8 ≤ 2147483647) ∧ μ 3 16 = ν 11 8
theorem Cor.w {n : Nat} {μ ν : Mem} (h : Cor n μ ν) : W3 μ ν ∧ W5 μ ν ∧ W6 μ ν ∧ W8 μ ν := by
  obtain ⟨-, ⟨k1, k2, k3, k4, k5, k6, k7, k8, k9⟩, ⟨s1, s2, s3, s4, s5, s6, s7, s8, s9, s10, s11, s12⟩, -⟩ := h
  exact ⟨⟨k3, s4, k4, s5⟩, ⟨k5, s6, fun i i0 i1 => ⟨k6 i i0 i1, s12 i i0 i1⟩⟩, ⟨k7, s7, fun d d0 d1 d2 => ⟨k8 d d0 d1 d2, s11 d d0 d1 d2⟩⟩, k9, s8⟩
theorem W3.keep {μ ν μ' ν' : Mem} (h : W3 μ ν) (a : μ' 3 10 = μ 3 10) (b : μ' 3 11 = μ 3 11) (c : ν' 11 3 = ν 11 3) (d : ν' 11 4 = ν 11 4) (e : ν' 11 0 = ν 11 0) : W3 μ' ν' := by
  unfold W3; rw [a, b, c, d, e]; exact h
theorem W5.keep {μ ν μ' ν' : Mem} (h : W5 μ ν) (a : μ' 3 14 = μ 3 14) (b : μ' 11 = μ 11) (c : ν' 11 5 = ν 11 5) (d : ∀ i, 94 ≤ i → i < 134 → ν' 11 i = ν 11 i) (e : ν' 11 0 = ν 11 0) : W5 μ' ν' := by
  obtain ⟨h1, h2, h3⟩ := h
  unfold W5; rw [a, b, c, e]
  refine ⟨h1, h2, fun i i0 i1 => ?_⟩
  rw [d (94 + i) (by omega) (by omega)]
  exact h3 i i0 i1
theorem W6.keep {μ ν μ' ν' : Mem} (h : W6 μ ν) (h0 : ν 11 0 ≤ 12) (a : μ' 3 12 = μ 3 12) (b : μ' 10 = μ 10) (c : ν' 11 6 = ν 11 6) (d : ∀ i, 82 ≤ i → i < 94 → ν' 11 i = ν 11 i) (e : ν' 11 0 = ν 11 0) : W6 μ' ν' := by
  obtain ⟨h1, h2, h3⟩ := h
  unfold W6; rw [a, b, c, e]
  refine ⟨h1, h2, fun i i0 i1 i2 => ?_⟩
  rw [d (82 + i) (by omega) (by omega)]
  exact h3 i i0 i1 i2
theorem Cor.told2 {n : Nat} {μ ν μ' ν' : Mem} (h : Cor n μ ν) (f : ∀ c i, ¬ ((c = 3 ∧ (10 ≤ i ∧ i ≤ 16)) ∨ c = 10 ∨ c = 11) → c ≤ 64 → μ' c i = μ c i) (g : ∀ c i, c ≠ 11 → cqm c i → ν' c i = ν c i) (ag : AG (ν 11) (ν' 11)) (w3 : W3 μ' ν') (w5 : W5 μ' ν') (w6 : W6 μ' ν') (w8 : W8 μ' ν') : Cor (n + 1) μ' ν' := by
  obtain ⟨hTP, ⟨k1, k2, -⟩, ⟨s1, s2, s3, -, -, -, -, -, s9, s10, -, -⟩, hG, -⟩ := id h
  have hS := hG.1
  have h0 := hS.1
  have h1 := hS.2.1
  refine h.told f g ag ⟨ag.str k1, by rw [ag.a2]; exact k2, w3.1, w3.2.2.1, w5.1, fun i i0 i1 => (w5.2.2 i i0 i1).1, w6.1, fun d d0 d1 d2 => (w6.2.2 d d0 d1 d2).1, w8.1⟩ ⟨?_, ?_, ?_, w3.2.1, w3.2.2.2, w5.2.1, w6.2.1, w8.2, fun d d0 d1 => ?_, fun j j0 j1 => ?_, fun d d0 d1 d2 => (w6.2.2 d d0 d1 d2).2, fun i i0 i1 => (w5.2.2 i i0 i1).2⟩
  · rw [ag.a0, f 3 0 (by omega) (by decide)]; exact s1
  · rw [ag.a2, f 3 3 (by omega) (by decide)]; exact s2
  · rw [ag.a1, f 3 4 (by omega) (by decide)]; exact s3
  · rw [ag.a0] at d1
    rw [ag.qtee d0 (by omega), ag.qspn d0 (by omega), f 4 d (by omega) (by decide), f 5 d (by omega) (by decide)]; exact s9 d d0 d1
  · rw [ag.a1] at j1
    rw [ag.qjn j0 (by omega) (by decide) (by decide), ag.qjn j0 (by omega) (by decide) (by decide), ag.qjn j0 (by omega) (by decide) (by decide), f 6 j (by omega) (by decide), f 7 j (by omega) (by decide), f 8 j (by omega) (by decide)]; exact s10 j j0 j1
set_option maxHeartbeats 8000000 in
theorem C_seed {n : Nat} {μ ν : Mem} {a : Int} (hC : Cor n μ ν) (hn : n ≤ 511) (ha : i32 a)  : Rj YD y_D_seed 0 [vA 0, vI a] [] μ (fun r μ' => Rj YM y_M_seed 0 [vA 0, vI a] [] ν (fun r' ν' => Sm 1 r' r ∧ Cor (n + 1) μ' ν' ∧ Kp μ μ' ∧ Kq ν ν')) := by
  obtain ⟨hTP, hK, hSc, h, hM, hSB, hBK, hIM⟩ := id hC
  have hC1 := hC.next
  obtain ⟨z0, z1, z2, z3, z4, z5, z6, z7⟩ := h.z
  obtain ⟨hS, hH, hP, hB, hFx⟩ := id hM
  have hD := z0
  have hJ := z1
  refine Rj_iload_n (q := 1) d_D_seed_0 rfl rfl rfl ?_
  refine Rj_if_ge (q := 4) (t := 6) d_D_seed_1 rfl (by decide) (by first | assumption | exact ⟨by omega, by omega⟩) (fun c1 => ?_) (fun c1 => ?_)
  · refine Rj_aload_n (q := 7) d_D_seed_6 rfl rfl rfl ?_
    refine Rj_gr (q := 10) (zd := 3) gD_D_25_0 rfl rfl d_D_seed_7 rfl ?_
    refine Rj_gi (q := 13) (ki := 16) (v := μ 3 16) gD_D_121_3 rfl rfl rfl d_D_seed_10 rfl ?_
    refine Rj_istore_n (q := 14) (ls' := [vA 0, vI a, vI (μ 3 16)]) d_D_seed_13 rfl rfl (by decide) rfl ?_
    refine Rj_aload_n (q := 15) d_D_seed_14 rfl rfl rfl ?_
    refine Rj_gr (q := 18) (zd := 3) gD_D_25_0 rfl rfl d_D_seed_15 rfl ?_
    refine Rj_iload_n (q := 19) d_D_seed_18 rfl rfl rfl ?_
    refine Rj_pi (q := 22) (ki := 16) pD_D_121_3 rfl rfl d_D_seed_19 rfl ?_
    refine Rj_iload_n (q := 23) d_D_seed_22 rfl rfl rfl ?_
    refine Rj_iret d_D_seed_23 rfl ?_
    refine Rj_iload_n (q := 1) d_M_seed_0 rfl rfl rfl ?_
    refine Rj_if_ge (q := 4) (t := 6) d_M_seed_1 rfl (by decide) (by first | assumption | exact ⟨by omega, by omega⟩) (fun c1 => ?_) (fun c1 => ?_)
    · refine Rj_aload_n (q := 7) d_M_seed_6 rfl rfl rfl ?_
      refine Rj_gr (q := 10) (zd := 11) gM_M_42_0 rfl rfl d_M_seed_7 rfl ?_
      refine Rj_bipush (q := 12) d_M_seed_10 rfl (by decide +kernel) ?_
      refine Rj_ia (q := 13) (v := ν 11 8) aM_11 rfl (by decide) rfl d_M_seed_12 rfl ?_
      refine Rj_istore_n (q := 14) (ls' := [vA 0, vI a, vI (ν 11 8)]) d_M_seed_13 rfl rfl (by decide) rfl ?_
      refine Rj_aload_n (q := 15) d_M_seed_14 rfl rfl rfl ?_
      refine Rj_gr (q := 18) (zd := 11) gM_M_42_0 rfl rfl d_M_seed_15 rfl ?_
      refine Rj_bipush (q := 20) d_M_seed_18 rfl (by decide +kernel) ?_
      refine Rj_iload_n (q := 21) d_M_seed_20 rfl rfl rfl ?_
      refine Rj_is (q := 22) aM_11 rfl (by decide) d_M_seed_21 rfl ?_
      refine Rj_iload_n (q := 23) d_M_seed_22 rfl rfl rfl ?_
      refine Rj_iret d_M_seed_23 rfl ?_
      obtain ⟨w3, w5, w6, w8⟩ := hC.w
      refine ⟨sm_I w8.2.symm, hC.told2 (fun c i q1 q2 => mset_o (by omega)) (fun c i q1 q2 => mset_o (by omega)) (fun i q => mset_o (by unfold sti at q; omega)) (w3.keep rfl rfl rfl rfl rfl) (w5.keep rfl rfl rfl (fun i i0 i1 => mset_o (by omega)) rfl) (w6.keep z0.2 rfl rfl rfl (fun i i0 i1 => mset_o (by omega)) rfl) ⟨?_, rfl⟩, fun c i q => mset_o (by omega), fun c i q => mset_o (by omega)⟩
      rw [mset_same]; exact ⟨by omega, ha.2⟩
    · refine Rj_iconst (q := 5) d_M_seed_4 rfl ?_
      refine Rj_iret d_M_seed_5 rfl ?_
      exfalso; omega
  · refine Rj_iconst (q := 5) d_D_seed_4 rfl ?_
    refine Rj_iret d_D_seed_5 rfl ?_
    refine Rj_iload_n (q := 1) d_M_seed_0 rfl rfl rfl ?_
    refine Rj_if_ge (q := 4) (t := 6) d_M_seed_1 rfl (by decide) (by first | assumption | exact ⟨by omega, by omega⟩) (fun c1 => ?_) (fun c1 => ?_)
    · refine Rj_aload_n (q := 7) d_M_seed_6 rfl rfl rfl ?_
      refine Rj_gr (q := 10) (zd := 11) gM_M_42_0 rfl rfl d_M_seed_7 rfl ?_
      refine Rj_bipush (q := 12) d_M_seed_10 rfl (by decide +kernel) ?_
      refine Rj_ia (q := 13) (v := ν 11 8) aM_11 rfl (by decide) rfl d_M_seed_12 rfl ?_
      refine Rj_istore_n (q := 14) (ls' := [vA 0, vI a, vI (ν 11 8)]) d_M_seed_13 rfl rfl (by decide) rfl ?_
      refine Rj_aload_n (q := 15) d_M_seed_14 rfl rfl rfl ?_
      refine Rj_gr (q := 18) (zd := 11) gM_M_42_0 rfl rfl d_M_seed_15 rfl ?_
      refine Rj_bipush (q := 20) d_M_seed_18 rfl (by decide +kernel) ?_
      refine Rj_iload_n (q := 21) d_M_seed_20 rfl rfl rfl ?_
      refine Rj_is (q := 22) aM_11 rfl (by decide) d_M_seed_21 rfl ?_
      refine Rj_iload_n (q := 23) d_M_seed_22 rfl rfl rfl ?_
      refine Rj_iret d_M_seed_23 rfl ?_
      exfalso; omega
    · refine Rj_iconst (q := 5) d_M_seed_4 rfl ?_
      refine Rj_iret d_M_seed_5 rfl ?_
      exact ⟨sm_I rfl, hC1, kp0 _, kq0 _⟩
