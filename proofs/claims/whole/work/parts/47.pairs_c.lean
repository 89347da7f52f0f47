theorem oD_3_Sc_isSet : OI YD 3 y_Sc_isSet := ⟨by decide, _, _, _, cD_3, rfl⟩
theorem oM_0_M_isSet : OI YM 0 y_M_isSet := ⟨by decide, _, _, _, cM_0, rfl⟩
theorem pD_D_223_3 : PI YD "DoorsOnCogs" 223 3 10 none .int := ⟨by decide, _, _, _, fl_D_223, fp_6_10, cD_3, by decide, rfl⟩
theorem pD_D_226_3 : PI YD "DoorsOnCogs" 226 3 11 none .int := ⟨by decide, _, _, _, fl_D_226, fp_6_11, cD_3, by decide, rfl⟩
theorem oM_0_M_pushes : OI YM 0 y_M_pushes := ⟨by decide, _, _, _, cM_0, rfl⟩
theorem oD_59_Ge_tryPush : OI YD 59 y_Ge_tryPush := ⟨by decide, _, _, _, cD_59, rfl⟩
theorem oD_0_D_can : OI YD 0 y_D_can := ⟨by decide, _, _, _, cD_0, rfl⟩
theorem oM_0_M_can : OI YM 0 y_M_can := ⟨by decide, _, _, _, cM_0, rfl⟩
theorem oM_0_M_turnsAll : OI YM 0 y_M_turnsAll := ⟨by decide, _, _, _, cM_0, rfl⟩
theorem oD_59_Ge_turnSet : OI YD 59 y_Ge_turnSet := ⟨by decide, _, _, _, cD_59, rfl⟩
theorem gD_D_104_0 : GI YD "DoorsOnCogs" 104 0 1 none := ⟨by decide, _, _, _, fl_D_104, cD_0, by decide, rfl⟩
theorem pD_D_104_0 : PI YD "DoorsOnCogs" 104 0 1 none .int := ⟨by decide, _, _, _, fl_D_104, fp_9_1, cD_0, by decide, rfl⟩
/-! pairs of calls: want, can, push, slip, ratio, end -/
set_option maxHeartbeats 8000000 in
theorem C_want {n : Nat} {μ ν : Mem} {a b : Int} (hC : Cor n μ ν) (hn : n ≤ 511) (ha : i32 a) (hb : i32 b)  : Rj YD y_D_want 0 [vA 0, vI a, vI b] [] μ (fun r μ' => Rj YM y_M_want 0 [vA 0, vI a, vI b] [] ν (fun r' ν' => Sm 1 r' r ∧ Cor (n + 1) μ' ν' ∧ Kp μ μ' ∧ Kq ν ν')) := by
  obtain ⟨hTP, hK, hSc, h, hM, hSB, hBK, hIM⟩ := id hC
  have hC1 := hC.next
  obtain ⟨z0, z1, z2, z3, z4, z5, z6, z7⟩ := h.z
  obtain ⟨hS, hH, hP, hB, hFx⟩ := id hM
  have hD := z0
  have hJ := z1
  have p2k := p2_32 z0.2
  have da := dp_iff (a := a) (k := (ν 11 0).toNat)
  have db := dp_iff (a := b) (k := (ν 11 0).toNat)
  refine Rj_aload_n (q := 1) d_D_want_0 rfl rfl rfl ?_
  refine Rj_gr (q := 4) (zd := 3) gD_D_25_0 rfl rfl d_D_want_1 rfl ?_
  refine Rj_iload_n (q := 5) d_D_want_4 rfl rfl rfl ?_
  refine Rj_vo (q := 8) (z := y_Sc_isSet) (as := [vI a]) (rest := []) (la := [vA 3, vI a]) oD_3_Sc_isSet ml_D_220 mw_Sc_isSet mv_Sc_isSet rfl d_D_want_5 rfl rfl rfl rfl rfl ?_
  refine Rj_iload_n (q := 1) d_Sc_isSet_0 rfl rfl rfl ?_
  refine Rj_if_lt (q := 4) (t := 17) d_Sc_isSet_1 rfl (by decide) (by first | assumption | exact ⟨by omega, by omega⟩) (fun c5_1 => ?_) (fun c5_1 => ?_)
  · refine Rj_iconst (q := 18) d_Sc_isSet_17 rfl ?_
    refine Rj_bret0 d_Sc_isSet_18 rfl ?_
    refine Rj_if_eq (q := 11) (t := 28) d_D_want_8 rfl (by decide) (by decide) (fun _ => ?_) (fun c => absurd c (by decide))
    refine Rj_iconst (q := 29) d_D_want_28 rfl ?_
    refine Rj_bret0 d_D_want_29 rfl ?_
    refine Rj_aload_n (q := 1) d_M_want_0 rfl rfl rfl ?_
    refine Rj_iload_n (q := 2) d_M_want_1 rfl rfl rfl ?_
    refine Rj_vo (q := 5) (z := y_M_isSet) (as := [vI a]) (rest := []) (la := [vA 0, vI a]) oM_0_M_isSet ml_M_388 mw_M_isSet mv_M_isSet rfl d_M_want_2 rfl rfl rfl rfl rfl ?_
    refine Rj_iload_n (q := 1) d_M_isSet_0 rfl rfl rfl ?_
    refine Rj_if_lt (q := 4) (t := 20) d_M_isSet_1 rfl (by decide) (by first | assumption | exact ⟨by omega, by omega⟩) (fun c2_1 => ?_) (fun c2_1 => ?_)
    · refine Rj_iconst (q := 21) d_M_isSet_20 rfl ?_
      refine Rj_bret0 d_M_isSet_21 rfl ?_
      refine Rj_if_eq (q := 8) (t := 22) d_M_want_5 rfl (by decide) (by decide) (fun _ => ?_) (fun c => absurd c (by decide))
      refine Rj_iconst (q := 23) d_M_want_22 rfl ?_
      refine Rj_bret0 d_M_want_23 rfl ?_
      exact ⟨sm_I rfl, hC1, kp0 _, kq0 _⟩
    · refine Rj_iload_n (q := 5) d_M_isSet_4 rfl rfl rfl ?_
      refine Rj_iconst (q := 6) d_M_isSet_5 rfl ?_
      refine Rj_aload_n (q := 7) d_M_isSet_6 rfl rfl rfl ?_
      refine Rj_gr (q := 10) (zd := 11) gM_M_42_0 rfl rfl d_M_isSet_7 rfl ?_
      refine Rj_iconst (q := 11) d_M_isSet_10 rfl ?_
      refine Rj_ia (q := 12) (v := ν 11 0) aM_11 rfl (by decide) rfl d_M_isSet_11 rfl ?_
      refine Rj_ishl (q := 13) (z := 2 ^ (ν 11 0).toNat) d_M_isSet_12 rfl (z_shl_p ⟨by omega, by omega⟩) ?_
      refine Rj_icmp_ge (q := 16) (t := 20) d_M_isSet_13 rfl (by decide) (by first | exact ha | exact hb | exact p2k.1) (by first | exact ha | exact hb | exact p2k.1) (fun c2_13 => ?_) (fun c2_13 => ?_)
      · refine Rj_iconst (q := 21) d_M_isSet_20 rfl ?_
        refine Rj_bret0 d_M_isSet_21 rfl ?_
        refine Rj_if_eq (q := 8) (t := 22) d_M_want_5 rfl (by decide) (by decide) (fun _ => ?_) (fun c => absurd c (by decide))
        refine Rj_iconst (q := 23) d_M_want_22 rfl ?_
        refine Rj_bret0 d_M_want_23 rfl ?_
        exact ⟨sm_I rfl, hC1, kp0 _, kq0 _⟩
      · refine Rj_iconst (q := 17) d_M_isSet_16 rfl ?_
        refine Rj_goto (t := 21) d_M_isSet_17 (by decide) ?_
        refine Rj_bret1 d_M_isSet_21 rfl ?_
        refine Rj_if_eq (q := 8) (t := 22) d_M_want_5 rfl (by decide) (by decide) (fun c => absurd c (by decide)) (fun _ => ?_)
        refine Rj_aload_n (q := 9) d_M_want_8 rfl rfl rfl ?_
        refine Rj_iload_n (q := 10) d_M_want_9 rfl rfl rfl ?_
        refine Rj_vo (q := 13) (z := y_M_isSet) (as := [vI b]) (rest := []) (la := [vA 0, vI b]) oM_0_M_isSet ml_M_388 mw_M_isSet mv_M_isSet rfl d_M_want_10 rfl rfl rfl rfl rfl ?_
        refine Rj_iload_n (q := 1) d_M_isSet_0 rfl rfl rfl ?_
        refine Rj_if_lt (q := 4) (t := 20) d_M_isSet_1 rfl (by decide) (by first | assumption | exact ⟨by omega, by omega⟩) (fun c10_1 => ?_) (fun c10_1 => ?_)
        · refine Rj_iconst (q := 21) d_M_isSet_20 rfl ?_
          refine Rj_bret0 d_M_isSet_21 rfl ?_
          refine Rj_if_eq (q := 16) (t := 22) d_M_want_13 rfl (by decide) (by decide) (fun _ => ?_) (fun c => absurd c (by decide))
          refine Rj_iconst (q := 23) d_M_want_22 rfl ?_
          refine Rj_bret0 d_M_want_23 rfl ?_
          exact ⟨sm_I rfl, hC1, kp0 _, kq0 _⟩
        · refine Rj_iload_n (q := 5) d_M_isSet_4 rfl rfl rfl ?_
          refine Rj_iconst (q := 6) d_M_isSet_5 rfl ?_
          refine Rj_aload_n (q := 7) d_M_isSet_6 rfl rfl rfl ?_
          refine Rj_gr (q := 10) (zd := 11) gM_M_42_0 rfl rfl d_M_isSet_7 rfl ?_
          refine Rj_iconst (q := 11) d_M_isSet_10 rfl ?_
          refine Rj_ia (q := 12) (v := ν 11 0) aM_11 rfl (by decide) rfl d_M_isSet_11 rfl ?_
          refine Rj_ishl (q := 13) (z := 2 ^ (ν 11 0).toNat) d_M_isSet_12 rfl (z_shl_p ⟨by omega, by omega⟩) ?_
          refine Rj_icmp_ge (q := 16) (t := 20) d_M_isSet_13 rfl (by decide) (by first | exact ha | exact hb | exact p2k.1) (by first | exact ha | exact hb | exact p2k.1) (fun c10_13 => ?_) (fun c10_13 => ?_)
          · refine Rj_iconst (q := 21) d_M_isSet_20 rfl ?_
            refine Rj_bret0 d_M_isSet_21 rfl ?_
            refine Rj_if_eq (q := 16) (t := 22) d_M_want_13 rfl (by decide) (by decide) (fun _ => ?_) (fun c => absurd c (by decide))
            refine Rj_iconst (q := 23) d_M_want_22 rfl ?_
            refine Rj_bret0 d_M_want_23 rfl ?_
            exact ⟨sm_I rfl, hC1, kp0 _, kq0 _⟩
          · refine Rj_iconst (q := 17) d_M_isSet_16 rfl ?_
            refine Rj_goto (t := 21) d_M_isSet_17 (by decide) ?_
            refine Rj_bret1 d_M_isSet_21 rfl ?_
            refine Rj_if_eq (q := 16) (t := 22) d_M_want_13 rfl (by decide) (by decide) (fun c => absurd c (by decide)) (fun _ => ?_)
            refine Rj_iload_n (q := 17) d_M_want_16 rfl rfl rfl ?_
            refine Rj_iload_n (q := 18) d_M_want_17 rfl rfl rfl ?_
            refine Rj_iand (q := 19) (z := z_and a b) d_M_want_18 rfl rfl ?_
            refine Rj_if_eq (q := 22) (t := 24) d_M_want_19 rfl (by decide) (t32 _) (fun c19 => ?_) (fun c19 => ?_)
            · refine Rj_aload_n (q := 25) d_M_want_24 rfl rfl rfl ?_
              refine Rj_gr (q := 28) (zd := 11) gM_M_42_0 rfl rfl d_M_want_25 rfl ?_
              refine Rj_iconst (q := 29) d_M_want_28 rfl ?_
              refine Rj_iload_n (q := 30) d_M_want_29 rfl rfl rfl ?_
              refine Rj_is (q := 31) aM_11 rfl (by decide) d_M_want_30 rfl ?_
              refine Rj_aload_n (q := 32) d_M_want_31 rfl rfl rfl ?_
              refine Rj_gr (q := 35) (zd := 11) gM_M_42_0 rfl rfl d_M_want_32 rfl ?_
              refine Rj_iconst (q := 36) d_M_want_35 rfl ?_
              refine Rj_iload_n (q := 37) d_M_want_36 rfl rfl rfl ?_
              refine Rj_is (q := 38) aM_11 rfl (by decide) d_M_want_37 rfl ?_
              refine Rj_iconst (q := 39) d_M_want_38 rfl ?_
              refine Rj_bret1 d_M_want_39 rfl ?_
              exfalso; omega
            · refine Rj_iconst (q := 23) d_M_want_22 rfl ?_
              refine Rj_bret0 d_M_want_23 rfl ?_
              exact ⟨sm_I rfl, hC1, kp0 _, kq0 _⟩
  · refine Rj_iload_n (q := 5) d_Sc_isSet_4 rfl rfl rfl ?_
    refine Rj_aload_n (q := 6) d_Sc_isSet_5 rfl rfl rfl ?_
    refine Rj_gi (q := 9) (ki := 0) (v := ν 11 0) gD_Sc_37_3 rfl rfl z2 d_Sc_isSet_6 rfl ?_
    refine Rj_iushr (q := 10) (z := a / 2 ^ (ν 11 0).toNat) d_Sc_isSet_9 rfl (z_ush0 ⟨by omega, by omega⟩ (by omega) (by omega)) ?_
    refine Rj_if_ne (q := 13) (t := 17) d_Sc_isSet_10 rfl (by decide) (by first | exact dp_32 (by omega) ha | exact dp_32 (by omega) hb) (fun c5_10 => ?_) (fun c5_10 => ?_)
    · refine Rj_iconst (q := 18) d_Sc_isSet_17 rfl ?_
      refine Rj_bret0 d_Sc_isSet_18 rfl ?_
      refine Rj_if_eq (q := 11) (t := 28) d_D_want_8 rfl (by decide) (by decide) (fun _ => ?_) (fun c => absurd c (by decide))
      refine Rj_iconst (q := 29) d_D_want_28 rfl ?_
      refine Rj_bret0 d_D_want_29 rfl ?_
      refine Rj_aload_n (q := 1) d_M_want_0 rfl rfl rfl ?_
      refine Rj_iload_n (q := 2) d_M_want_1 rfl rfl rfl ?_
      refine Rj_vo (q := 5) (z := y_M_isSet) (as := [vI a]) (rest := []) (la := [vA 0, vI a]) oM_0_M_isSet ml_M_388 mw_M_isSet mv_M_isSet rfl d_M_want_2 rfl rfl rfl rfl rfl ?_
      refine Rj_iload_n (q := 1) d_M_isSet_0 rfl rfl rfl ?_
      refine Rj_if_lt (q := 4) (t := 20) d_M_isSet_1 rfl (by decide) (by first | assumption | exact ⟨by omega, by omega⟩) (fun c2_1 => ?_) (fun c2_1 => ?_)
      · refine Rj_iconst (q := 21) d_M_isSet_20 rfl ?_
        refine Rj_bret0 d_M_isSet_21 rfl ?_
        refine Rj_if_eq (q := 8) (t := 22) d_M_want_5 rfl (by decide) (by decide) (fun _ => ?_) (fun c => absurd c (by decide))
        refine Rj_iconst (q := 23) d_M_want_22 rfl ?_
        refine Rj_bret0 d_M_want_23 rfl ?_
        exact ⟨sm_I rfl, hC1, kp0 _, kq0 _⟩
      · refine Rj_iload_n (q := 5) d_M_isSet_4 rfl rfl rfl ?_
        refine Rj_iconst (q := 6) d_M_isSet_5 rfl ?_
        refine Rj_aload_n (q := 7) d_M_isSet_6 rfl rfl rfl ?_
        refine Rj_gr (q := 10) (zd := 11) gM_M_42_0 rfl rfl d_M_isSet_7 rfl ?_
        refine Rj_iconst (q := 11) d_M_isSet_10 rfl ?_
        refine Rj_ia (q := 12) (v := ν 11 0) aM_11 rfl (by decide) rfl d_M_isSet_11 rfl ?_
        refine Rj_ishl (q := 13) (z := 2 ^ (ν 11 0).toNat) d_M_isSet_12 rfl (z_shl_p ⟨by omega, by omega⟩) ?_
        refine Rj_icmp_ge (q := 16) (t := 20) d_M_isSet_13 rfl (by decide) (by first | exact ha | exact hb | exact p2k.1) (by first | exact ha | exact hb | exact p2k.1) (fun c2_13 => ?_) (fun c2_13 => ?_)
        · refine Rj_iconst (q := 21) d_M_isSet_20 rfl ?_
          refine Rj_bret0 d_M_isSet_21 rfl ?_
          refine Rj_if_eq (q := 8) (t := 22) d_M_want_5 rfl (by decide) (by decide) (fun _ => ?_) (fun c => absurd c (by decide))
          refine Rj_iconst (q := 23) d_M_want_22 rfl ?_
          refine Rj_bret0 d_M_want_23 rfl ?_
          exact ⟨sm_I rfl, hC1, kp0 _, kq0 _⟩
        · refine Rj_iconst (q := 17) d_M_isSet_16 rfl ?_
          refine Rj_goto (t := 21) d_M_isSet_17 (by decide) ?_
          refine Rj_bret1 d_M_isSet_21 rfl ?_
          refine Rj_if_eq (q := 8) (t := 22) d_M_want_5 rfl (by decide) (by decide) (fun c => absurd c (by decide)) (fun _ => ?_)
          refine Rj_aload_n (q := 9) d_M_want_8 rfl rfl rfl ?_
          refine Rj_iload_n (q := 10) d_M_want_9 rfl rfl rfl ?_
          refine Rj_vo (q := 13) (z := y_M_isSet) (as := [vI b]) (rest := []) (la := [vA 0, vI b]) oM_0_M_isSet ml_M_388 mw_M_isSet mv_M_isSet rfl d_M_want_10 rfl rfl rfl rfl rfl ?_
          refine Rj_iload_n (q := 1) d_M_isSet_0 rfl rfl rfl ?_
          refine Rj_if_lt (q := 4) (t := 20) d_M_isSet_1 rfl (by decide) (by first | assumption | exact ⟨by omega, by omega⟩) (fun c10_1 => ?_) (fun c10_1 => ?_)
          · refine Rj_iconst (q := 21) d_M_isSet_20 rfl ?_
            refine Rj_bret0 d_M_isSet_21 rfl ?_
            refine Rj_if_eq (q := 16) (t := 22) d_M_want_13 rfl (by decide) (by decide) (fun _ => ?_) (fun c => absurd c (by decide))
            refine Rj_iconst (q := 23) d_M_want_22 rfl ?_
            refine Rj_bret0 d_M_want_23 rfl ?_
            exact ⟨sm_I rfl, hC1, kp0 _, kq0 _⟩
          · refine Rj_iload_n (q := 5) d_M_isSet_4 rfl rfl rfl ?_
            refine Rj_iconst (q := 6) d_M_isSet_5 rfl ?_
            refine Rj_aload_n (q := 7) d_M_isSet_6 rfl rfl rfl ?_
            refine Rj_gr (q := 10) (zd := 11) gM_M_42_0 rfl rfl d_M_isSet_7 rfl ?_
            refine Rj_iconst (q := 11) d_M_isSet_10 rfl ?_
            refine Rj_ia (q := 12) (v := ν 11 0) aM_11 rfl (by decide) rfl d_M_isSet_11 rfl ?_
            refine Rj_ishl (q := 13) (z := 2 ^ (ν 11 0).toNat) d_M_isSet_12 rfl (z_shl_p ⟨by omega, by omega⟩) ?_
            refine Rj_icmp_ge (q := 16) (t := 20) d_M_isSet_13 rfl (by decide) (by first | exact ha | exact hb | exact p2k.1) (by first | exact ha | exact hb | exact p2k.1) (fun c10_13 => ?_) (fun c10_13 => ?_)
            · refine Rj_iconst (q := 21) d_M_isSet_20 rfl ?_
              refine Rj_bret0 d_M_isSet_21 rfl ?_
              refine Rj_if_eq (q := 16) (t := 22) d_M_want_13 rfl (by decide) (by decide) (fun _ => ?_) (fun c => absurd c (by decide))
              refine Rj_iconst (q := 23) d_M_want_22 rfl ?_
              refine Rj_bret0 d_M_want_23 rfl ?_
              exact ⟨sm_I rfl, hC1, kp0 _, kq0 _⟩
            · refine Rj_iconst (q := 17) d_M_isSet_16 rfl ?_
              refine Rj_goto (t := 21) d_M_isSet_17 (by decide) ?_
              refine Rj_bret1 d_M_isSet_21 rfl ?_
              refine Rj_if_eq (q := 16) (t := 22) d_M_want_13 rfl (by decide) (by decide) (fun c => absurd c (by decide)) (fun _ => ?_)
              refine Rj_iload_n (q := 17) d_M_want_16 rfl rfl rfl ?_
              refine Rj_iload_n (q := 18) d_M_want_17 rfl rfl rfl ?_
              refine Rj_iand (q := 19) (z := z_and a b) d_M_want_18 rfl rfl ?_
              refine Rj_if_eq (q := 22) (t := 24) d_M_want_19 rfl (by decide) (t32 _) (fun c19 => ?_) (fun c19 => ?_)
              · refine Rj_aload_n (q := 25) d_M_want_24 rfl rfl rfl ?_
                refine Rj_gr (q := 28) (zd := 11) gM_M_42_0 rfl rfl d_M_want_25 rfl ?_
                refine Rj_iconst (q := 29) d_M_want_28 rfl ?_
                refine Rj_iload_n (q := 30) d_M_want_29 rfl rfl rfl ?_
                refine Rj_is (q := 31) aM_11 rfl (by decide) d_M_want_30 rfl ?_
                refine Rj_aload_n (q := 32) d_M_want_31 rfl rfl rfl ?_
                refine Rj_gr (q := 35) (zd := 11) gM_M_42_0 rfl rfl d_M_want_32 rfl ?_
                refine Rj_iconst (q := 36) d_M_want_35 rfl ?_
                refine Rj_iload_n (q := 37) d_M_want_36 rfl rfl rfl ?_
                refine Rj_is (q := 38) aM_11 rfl (by decide) d_M_want_37 rfl ?_
                refine Rj_iconst (q := 39) d_M_want_38 rfl ?_
                refine Rj_bret1 d_M_want_39 rfl ?_
                exfalso; omega
              · refine Rj_iconst (q := 23) d_M_want_22 rfl ?_
                refine Rj_bret0 d_M_want_23 rfl ?_
                exact ⟨sm_I rfl, hC1, kp0 _, kq0 _⟩
    · refine Rj_iconst (q := 14) d_Sc_isSet_13 rfl ?_
      refine Rj_goto (t := 18) d_Sc_isSet_14 (by decide) ?_
      refine Rj_bret1 d_Sc_isSet_18 rfl ?_
      refine Rj_if_eq (q := 11) (t := 28) d_D_want_8 rfl (by decide) (by decide) (fun c => absurd c (by decide)) (fun _ => ?_)
      refine Rj_aload_n (q := 12) d_D_want_11 rfl rfl rfl ?_
      refine Rj_gr (q := 15) (zd := 3) gD_D_25_0 rfl rfl d_D_want_12 rfl ?_
      refine Rj_iload_n (q := 16) d_D_want_15 rfl rfl rfl ?_
      refine Rj_vo (q := 19) (z := y_Sc_isSet) (as := [vI b]) (rest := []) (la := [vA 3, vI b]) oD_3_Sc_isSet ml_D_220 mw_Sc_isSet mv_Sc_isSet rfl d_D_want_16 rfl rfl rfl rfl rfl ?_
      refine Rj_iload_n (q := 1) d_Sc_isSet_0 rfl rfl rfl ?_
      refine Rj_if_lt (q := 4) (t := 17) d_Sc_isSet_1 rfl (by decide) (by first | assumption | exact ⟨by omega, by omega⟩) (fun c16_1 => ?_) (fun c16_1 => ?_)
      · refine Rj_iconst (q := 18) d_Sc_isSet_17 rfl ?_
        refine Rj_bret0 d_Sc_isSet_18 rfl ?_
        refine Rj_if_eq (q := 22) (t := 28) d_D_want_19 rfl (by decide) (by decide) (fun _ => ?_) (fun c => absurd c (by decide))
        refine Rj_iconst (q := 29) d_D_want_28 rfl ?_
        refine Rj_bret0 d_D_want_29 rfl ?_
        refine Rj_aload_n (q := 1) d_M_want_0 rfl rfl rfl ?_
        refine Rj_iload_n (q := 2) d_M_want_1 rfl rfl rfl ?_
        refine Rj_vo (q := 5) (z := y_M_isSet) (as := [vI a]) (rest := []) (la := [vA 0, vI a]) oM_0_M_isSet ml_M_388 mw_M_isSet mv_M_isSet rfl d_M_want_2 rfl rfl rfl rfl rfl ?_
        refine Rj_iload_n (q := 1) d_M_isSet_0 rfl rfl rfl ?_
        refine Rj_if_lt (q := 4) (t := 20) d_M_isSet_1 rfl (by decide) (by first | assumption | exact ⟨by omega, by omega⟩) (fun c2_1 => ?_) (fun c2_1 => ?_)
        · refine Rj_iconst (q := 21) d_M_isSet_20 rfl ?_
          refine Rj_bret0 d_M_isSet_21 rfl ?_
          refine Rj_if_eq (q := 8) (t := 22) d_M_want_5 rfl (by decide) (by decide) (fun _ => ?_) (fun c => absurd c (by decide))
          refine Rj_iconst (q := 23) d_M_want_22 rfl ?_
          refine Rj_bret0 d_M_want_23 rfl ?_
          exact ⟨sm_I rfl, hC1, kp0 _, kq0 _⟩
        · refine Rj_iload_n (q := 5) d_M_isSet_4 rfl rfl rfl ?_
          refine Rj_iconst (q := 6) d_M_isSet_5 rfl ?_
          refine Rj_aload_n (q := 7) d_M_isSet_6 rfl rfl rfl ?_
          refine Rj_gr (q := 10) (zd := 11) gM_M_42_0 rfl rfl d_M_isSet_7 rfl ?_
          refine Rj_iconst (q := 11) d_M_isSet_10 rfl ?_
          refine Rj_ia (q := 12) (v := ν 11 0) aM_11 rfl (by decide) rfl d_M_isSet_11 rfl ?_
          refine Rj_ishl (q := 13) (z := 2 ^ (ν 11 0).toNat) d_M_isSet_12 rfl (z_shl_p ⟨by omega, by omega⟩) ?_
          refine Rj_icmp_ge (q := 16) (t := 20) d_M_isSet_13 rfl (by decide) (by first | exact ha | exact hb | exact p2k.1) (by first | exact ha | exact hb | exact p2k.1) (fun c2_13 => ?_) (fun c2_13 => ?_)
          · refine Rj_iconst (q := 21) d_M_isSet_20 rfl ?_
            refine Rj_bret0 d_M_isSet_21 rfl ?_
            refine Rj_if_eq (q := 8) (t := 22) d_M_want_5 rfl (by decide) (by decide) (fun _ => ?_) (fun c => absurd c (by decide))
            refine Rj_iconst (q := 23) d_M_want_22 rfl ?_
            refine Rj_bret0 d_M_want_23 rfl ?_
            exact ⟨sm_I rfl, hC1, kp0 _, kq0 _⟩
          · refine Rj_iconst (q := 17) d_M_isSet_16 rfl ?_
            refine Rj_goto (t := 21) d_M_isSet_17 (by decide) ?_
            refine Rj_bret1 d_M_isSet_21 rfl ?_
            refine Rj_if_eq (q := 8) (t := 22) d_M_want_5 rfl (by decide) (by decide) (fun c => absurd c (by decide)) (fun _ => ?_)
            refine Rj_aload_n (q := 9) d_M_want_8 rfl rfl rfl ?_
            refine Rj_iload_n (q := 10) d_M_want_9 rfl rfl rfl ?_
            refine Rj_vo (q := 13) (z := y_M_isSet) (as := [vI b]) (rest := []) (la := [vA 0, vI b]) oM_0_M_isSet ml_M_388 mw_M_isSet mv_M_isSet rfl d_M_want_10 rfl rfl rfl rfl rfl ?_
            refine Rj_iload_n (q := 1) d_M_isSet_0 rfl rfl rfl ?_
            refine Rj_if_lt (q := 4) (t := 20) d_M_isSet_1 rfl (by decide) (by first | assumption | exact ⟨by omega, by omega⟩) (fun c10_1 => ?_) (fun c10_1 => ?_)
            · refine Rj_iconst (q := 21) d_M_isSet_20 rfl ?_
              refine Rj_bret0 d_M_isSet_21 rfl ?_
              refine Rj_if_eq (q := 16) (t := 22) d_M_want_13 rfl (by decide) (by decide) (fun _ => ?_) (fun c => absurd c (by decide))
              refine Rj_iconst (q := 23) d_M_want_22 rfl ?_
              refine Rj_bret0 d_M_want_23 rfl ?_
              exact ⟨sm_I rfl, hC1, kp0 _, kq0 _⟩
            · refine Rj_iload_n (q := 5) d_M_isSet_4 rfl rfl rfl ?_
              refine Rj_iconst (q := 6) d_M_isSet_5 rfl ?_
              refine Rj_aload_n (q := 7) d_M_isSet_6 rfl rfl rfl ?_
              refine Rj_gr (q := 10) (zd := 11) gM_M_42_0 rfl rfl d_M_isSet_7 rfl ?_
              refine Rj_iconst (q := 11) d_M_isSet_10 rfl ?_
              refine Rj_ia (q := 12) (v := ν 11 0) aM_11 rfl (by decide) rfl d_M_isSet_11 rfl ?_
              refine Rj_ishl (q := 13) (z := 2 ^ (ν 11 0).toNat) d_M_isSet_12 rfl (z_shl_p ⟨by omega, by omega⟩) ?_
              refine Rj_icmp_ge (q := 16) (t := 20) d_M_isSet_13 rfl (by decide) (by first | exact ha | exact hb | exact p2k.1) (by first | exact ha | exact hb | exact p2k.1) (fun c10_13 => ?_) (fun c10_13 => ?_)
              · refine Rj_iconst (q := 21) d_M_isSet_20 rfl ?_
                refine Rj_bret0 d_M_isSet_21 rfl ?_
                refine Rj_if_eq (q := 16) (t := 22) d_M_want_13 rfl (by decide) (by decide) (fun _ => ?_) (fun c => absurd c (by decide))
                refine Rj_iconst (q := 23) d_M_want_22 rfl ?_
                refine Rj_bret0 d_M_want_23 rfl ?_
                exact ⟨sm_I rfl, hC1, kp0 _, kq0 _⟩
              · refine Rj_iconst (q := 17) d_M_isSet_16 rfl ?_
                refine Rj_goto (t := 21) d_M_isSet_17 (by decide) ?_
                refine Rj_bret1 d_M_isSet_21 rfl ?_
                refine Rj_if_eq (q := 16) (t := 22) d_M_want_13 rfl (by decide) (by decide) (fun c => absurd c (by decide)) (fun _ => ?_)
                refine Rj_iload_n (q := 17) d_M_want_16 rfl rfl rfl ?_
                refine Rj_iload_n (q := 18) d_M_want_17 rfl rfl rfl ?_
                refine Rj_iand (q := 19) (z := z_and a b) d_M_want_18 rfl rfl ?_
                refine Rj_if_eq (q := 22) (t := 24) d_M_want_19 rfl (by decide) (t32 _) (fun c19 => ?_) (fun c19 => ?_)
                · refine Rj_aload_n (q := 25) d_M_want_24 rfl rfl rfl ?_
                  refine Rj_gr (q := 28) (zd := 11) gM_M_42_0 rfl rfl d_M_want_25 rfl ?_
                  refine Rj_iconst (q := 29) d_M_want_28 rfl ?_
                  refine Rj_iload_n (q := 30) d_M_want_29 rfl rfl rfl ?_
                  refine Rj_is (q := 31) aM_11 rfl (by decide) d_M_want_30 rfl ?_
                  refine Rj_aload_n (q := 32) d_M_want_31 rfl rfl rfl ?_
                  refine Rj_gr (q := 35) (zd := 11) gM_M_42_0 rfl rfl d_M_want_32 rfl ?_
                  refine Rj_iconst (q := 36) d_M_want_35 rfl ?_
                  refine Rj_iload_n (q := 37) d_M_want_36 rfl rfl rfl ?_
                  refine Rj_is (q := 38) aM_11 rfl (by decide) d_M_want_37 rfl ?_
                  refine Rj_iconst (q := 39) d_M_want_38 rfl ?_
                  refine Rj_bret1 d_M_want_39 rfl ?_
                  exfalso; omega
                · refine Rj_iconst (q := 23) d_M_want_22 rfl ?_
                  refine Rj_bret0 d_M_want_23 rfl ?_
                  exact ⟨sm_I rfl, hC1, kp0 _, kq0 _⟩
      · refine Rj_iload_n (q := 5) d_Sc_isSet_4 rfl rfl rfl ?_
        refine Rj_aload_n (q := 6) d_Sc_isSet_5 rfl rfl rfl ?_
        refine Rj_gi (q := 9) (ki := 0) (v := ν 11 0) gD_Sc_37_3 rfl rfl z2 d_Sc_isSet_6 rfl ?_
        refine Rj_iushr (q := 10) (z := b / 2 ^ (ν 11 0).toNat) d_Sc_isSet_9 rfl (z_ush0 ⟨by omega, by omega⟩ (by omega) (by omega)) ?_
        refine Rj_if_ne (q := 13) (t := 17) d_Sc_isSet_10 rfl (by decide) (by first | exact dp_32 (by omega) ha | exact dp_32 (by omega) hb) (fun c16_10 => ?_) (fun c16_10 => ?_)
        · refine Rj_iconst (q := 18) d_Sc_isSet_17 rfl ?_
          refine Rj_bret0 d_Sc_isSet_18 rfl ?_
          refine Rj_if_eq (q := 22) (t := 28) d_D_want_19 rfl (by decide) (by decide) (fun _ => ?_) (fun c => absurd c (by decide))
          refine Rj_iconst (q := 29) d_D_want_28 rfl ?_
          refine Rj_bret0 d_D_want_29 rfl ?_
          refine Rj_aload_n (q := 1) d_M_want_0 rfl rfl rfl ?_
          refine Rj_iload_n (q := 2) d_M_want_1 rfl rfl rfl ?_
          refine Rj_vo (q := 5) (z := y_M_isSet) (as := [vI a]) (rest := []) (la := [vA 0, vI a]) oM_0_M_isSet ml_M_388 mw_M_isSet mv_M_isSet rfl d_M_want_2 rfl rfl rfl rfl rfl ?_
          refine Rj_iload_n (q := 1) d_M_isSet_0 rfl rfl rfl ?_
          refine Rj_if_lt (q := 4) (t := 20) d_M_isSet_1 rfl (by decide) (by first | assumption | exact ⟨by omega, by omega⟩) (fun c2_1 => ?_) (fun c2_1 => ?_)
          · refine Rj_iconst (q := 21) d_M_isSet_20 rfl ?_
            refine Rj_bret0 d_M_isSet_21 rfl ?_
            refine Rj_if_eq (q := 8) (t := 22) d_M_want_5 rfl (by decide) (by decide) (fun _ => ?_) (fun c => absurd c (by decide))
            refine Rj_iconst (q := 23) d_M_want_22 rfl ?_
            refine Rj_bret0 d_M_want_23 rfl ?_
            exact ⟨sm_I rfl, hC1, kp0 _, kq0 _⟩
          · refine Rj_iload_n (q := 5) d_M_isSet_4 rfl rfl rfl ?_
            refine Rj_iconst (q := 6) d_M_isSet_5 rfl ?_
            refine Rj_aload_n (q := 7) d_M_isSet_6 rfl rfl rfl ?_
            refine Rj_gr (q := 10) (zd := 11) gM_M_42_0 rfl rfl d_M_isSet_7 rfl ?_
            refine Rj_iconst (q := 11) d_M_isSet_10 rfl ?_
            refine Rj_ia (q := 12) (v := ν 11 0) aM_11 rfl (by decide) rfl d_M_isSet_11 rfl ?_
            refine Rj_ishl (q := 13) (z := 2 ^ (ν 11 0).toNat) d_M_isSet_12 rfl (z_shl_p ⟨by omega, by omega⟩) ?_
            refine Rj_icmp_ge (q := 16) (t := 20) d_M_isSet_13 rfl (by decide) (by first | exact ha | exact hb | exact p2k.1) (by first | exact ha | exact hb | exact p2k.1) (fun c2_13 => ?_) (fun c2_13 => ?_)
            · refine Rj_iconst (q := 21) d_M_isSet_20 rfl ?_
              refine Rj_bret0 d_M_isSet_21 rfl ?_
              refine Rj_if_eq (q := 8) (t := 22) d_M_want_5 rfl (by decide) (by decide) (fun _ => ?_) (fun c => absurd c (by decide))
              refine Rj_iconst (q := 23) d_M_want_22 rfl ?_
              refine Rj_bret0 d_M_want_23 rfl ?_
              exact ⟨sm_I rfl, hC1, kp0 _, kq0 _⟩
            · refine Rj_iconst (q := 17) d_M_isSet_16 rfl ?_
              refine Rj_goto (t := 21) d_M_isSet_17 (by decide) ?_
              refine Rj_bret1 d_M_isSet_21 rfl ?_
              refine Rj_if_eq (q := 8) (t := 22) d_M_want_5 rfl (by decide) (by decide) (fun c => absurd c (by decide)) (fun _ => ?_)
              refine Rj_aload_n (q := 9) d_M_want_8 rfl rfl rfl ?_
              refine Rj_iload_n (q := 10) d_M_want_9 rfl rfl rfl ?_
              refine Rj_vo (q := 13) (z := y_M_isSet) (as := [vI b]) (rest := []) (la := [vA 0, vI b]) oM_0_M_isSet ml_M_388 mw_M_isSet mv_M_isSet rfl d_M_want_10 rfl rfl rfl rfl rfl ?_
              refine Rj_iload_n (q := 1) d_M_isSet_0 rfl rfl rfl ?_
              refine Rj_if_lt (q := 4) (t := 20) d_M_isSet_1 rfl (by decide) (by first | assumption | exact ⟨by omega, by omega⟩) (fun c10_1 => ?_) (fun c10_1 => ?_)
              · refine Rj_iconst (q := 21) d_M_isSet_20 rfl ?_
                refine Rj_bret0 d_M_isSet_21 rfl ?_
                refine Rj_if_eq (q := 16) (t := 22) d_M_want_13 rfl (by decide) (by decide) (fun _ => ?_) (fun c => absurd c (by decide))
                refine Rj_iconst (q := 23) d_M_want_22 rfl ?_
                refine Rj_bret0 d_M_want_23 rfl ?_
                exact ⟨sm_I rfl, hC1, kp0 _, kq0 _⟩
              · refine Rj_iload_n (q := 5) d_M_isSet_4 rfl rfl rfl ?_
                refine Rj_iconst (q := 6) d_M_isSet_5 rfl ?_
                refine Rj_aload_n (q := 7) d_M_isSet_6 rfl rfl rfl ?_
                refine Rj_gr (q := 10) (zd := 11) gM_M_42_0 rfl rfl d_M_isSet_7 rfl ?_
                refine Rj_iconst (q := 11) d_M_isSet_10 rfl ?_
                refine Rj_ia (q := 12) (v := ν 11 0) aM_11 rfl (by decide) rfl d_M_isSet_11 rfl ?_
                refine Rj_ishl (q := 13) (z := 2 ^ (ν 11 0).toNat) d_M_isSet_12 rfl (z_shl_p ⟨by omega, by omega⟩) ?_
                refine Rj_icmp_ge (q := 16) (t := 20) d_M_isSet_13 rfl (by decide) (by first | exact ha | exact hb | exact p2k.1) (by first | exact ha | exact hb | exact p2k.1) (fun c10_13 => ?_) (fun c10_13 => ?_)
                · refine Rj_iconst (q := 21) d_M_isSet_20 rfl ?_
                  refine Rj_bret0 d_M_isSet_21 rfl ?_
                  refine Rj_if_eq (q := 16) (t := 22) d_M_want_13 rfl (by decide) (by decide) (fun _ => ?_) (fun c => absurd c (by decide))
                  refine Rj_iconst (q := 23) d_M_want_22 rfl ?_
                  refine Rj_bret0 d_M_want_23 rfl ?_
                  exact ⟨sm_I rfl, hC1, kp0 _, kq0 _⟩
                · refine Rj_iconst (q := 17) d_M_isSet_16 rfl ?_
                  refine Rj_goto (t := 21) d_M_isSet_17 (by decide) ?_
                  refine Rj_bret1 d_M_isSet_21 rfl ?_
                  refine Rj_if_eq (q := 16) (t := 22) d_M_want_13 rfl (by decide) (by decide) (fun c => absurd c (by decide)) (fun _ => ?_)
                  refine Rj_iload_n (q := 17) d_M_want_16 rfl rfl rfl ?_
                  refine Rj_iload_n (q := 18) d_M_want_17 rfl rfl rfl ?_
                  refine Rj_iand (q := 19) (z := z_and a b) d_M_want_18 rfl rfl ?_
                  refine Rj_if_eq (q := 22) (t := 24) d_M_want_19 rfl (by decide) (t32 _) (fun c19 => ?_) (fun c19 => ?_)
                  · refine Rj_aload_n (q := 25) d_M_want_24 rfl rfl rfl ?_
                    refine Rj_gr (q := 28) (zd := 11) gM_M_42_0 rfl rfl d_M_want_25 rfl ?_
                    refine Rj_iconst (q := 29) d_M_want_28 rfl ?_
                    refine Rj_iload_n (q := 30) d_M_want_29 rfl rfl rfl ?_
                    refine Rj_is (q := 31) aM_11 rfl (by decide) d_M_want_30 rfl ?_
                    refine Rj_aload_n (q := 32) d_M_want_31 rfl rfl rfl ?_
                    refine Rj_gr (q := 35) (zd := 11) gM_M_42_0 rfl rfl d_M_want_32 rfl ?_
                    refine Rj_iconst (q := 36) d_M_want_35 rfl ?_
                    refine Rj_iload_n (q := 37) d_M_want_36 rfl rfl rfl ?_
                    refine Rj_is (q := 38) aM_11 rfl (by decide) d_M_want_37 rfl ?_
                    refine Rj_iconst (q := 39) d_M_want_38 rfl ?_
                    refine Rj_bret1 d_M_want_39 rfl ?_
                    exfalso; omega
                  · refine Rj_iconst (q := 23) d_M_want_22 rfl ?_
                    refine Rj_bret0 d_M_want_23 rfl ?_
                    exact ⟨sm_I rfl, hC1, kp0 _, kq0 _⟩
        · refine Rj_iconst (q := 14) d_Sc_isSet_13 rfl ?_
          refine Rj_goto (t := 18) d_Sc_isSet_14 (by decide) ?_
          refine Rj_bret1 d_Sc_isSet_18 rfl ?_
          refine Rj_if_eq (q := 22) (t := 28) d_D_want_19 rfl (by decide) (by decide) (fun c => absurd c (by decide)) (fun _ => ?_)
          refine Rj_iload_n (q := 23) d_D_want_22 rfl rfl rfl ?_
          refine Rj_iload_n (q := 24) d_D_want_23 rfl rfl rfl ?_
          refine Rj_iand (q := 25) (z := z_and a b) d_D_want_24 rfl rfl ?_
          refine Rj_if_eq (q := 28) (t := 30) d_D_want_25 rfl (by decide) (t32 _) (fun c25 => ?_) (fun c25 => ?_)
          · refine Rj_aload_n (q := 31) d_D_want_30 rfl rfl rfl ?_
            refine Rj_gr (q := 34) (zd := 3) gD_D_25_0 rfl rfl d_D_want_31 rfl ?_
            refine Rj_iload_n (q := 35) d_D_want_34 rfl rfl rfl ?_
            refine Rj_pi (q := 38) (ki := 10) pD_D_223_3 rfl rfl d_D_want_35 rfl ?_
            refine Rj_aload_n (q := 39) d_D_want_38 rfl rfl rfl ?_
            refine Rj_gr (q := 42) (zd := 3) gD_D_25_0 rfl rfl d_D_want_39 rfl ?_
            refine Rj_iload_n (q := 43) d_D_want_42 rfl rfl rfl ?_
            refine Rj_pi (q := 46) (ki := 11) pD_D_226_3 rfl rfl d_D_want_43 rfl ?_
            refine Rj_iconst (q := 47) d_D_want_46 rfl ?_
            refine Rj_bret1 d_D_want_47 rfl ?_
            refine Rj_aload_n (q := 1) d_M_want_0 rfl rfl rfl ?_
            refine Rj_iload_n (q := 2) d_M_want_1 rfl rfl rfl ?_
            refine Rj_vo (q := 5) (z := y_M_isSet) (as := [vI a]) (rest := []) (la := [vA 0, vI a]) oM_0_M_isSet ml_M_388 mw_M_isSet mv_M_isSet rfl d_M_want_2 rfl rfl rfl rfl rfl ?_
            refine Rj_iload_n (q := 1) d_M_isSet_0 rfl rfl rfl ?_
            refine Rj_if_lt (q := 4) (t := 20) d_M_isSet_1 rfl (by decide) (by first | assumption | exact ⟨by omega, by omega⟩) (fun c2_1 => ?_) (fun c2_1 => ?_)
            · refine Rj_iconst (q := 21) d_M_isSet_20 rfl ?_
              refine Rj_bret0 d_M_isSet_21 rfl ?_
              refine Rj_if_eq (q := 8) (t := 22) d_M_want_5 rfl (by decide) (by decide) (fun _ => ?_) (fun c => absurd c (by decide))
              refine Rj_iconst (q := 23) d_M_want_22 rfl ?_
              refine Rj_bret0 d_M_want_23 rfl ?_
              exfalso; omega
            · refine Rj_iload_n (q := 5) d_M_isSet_4 rfl rfl rfl ?_
              refine Rj_iconst (q := 6) d_M_isSet_5 rfl ?_
              refine Rj_aload_n (q := 7) d_M_isSet_6 rfl rfl rfl ?_
              refine Rj_gr (q := 10) (zd := 11) gM_M_42_0 rfl rfl d_M_isSet_7 rfl ?_
              refine Rj_iconst (q := 11) d_M_isSet_10 rfl ?_
              refine Rj_ia (q := 12) (v := ν 11 0) aM_11 rfl (by decide) rfl d_M_isSet_11 rfl ?_
              refine Rj_ishl (q := 13) (z := 2 ^ (ν 11 0).toNat) d_M_isSet_12 rfl (z_shl_p ⟨by omega, by omega⟩) ?_
              refine Rj_icmp_ge (q := 16) (t := 20) d_M_isSet_13 rfl (by decide) (by first | exact ha | exact hb | exact p2k.1) (by first | exact ha | exact hb | exact p2k.1) (fun c2_13 => ?_) (fun c2_13 => ?_)
              · refine Rj_iconst (q := 21) d_M_isSet_20 rfl ?_
                refine Rj_bret0 d_M_isSet_21 rfl ?_
                refine Rj_if_eq (q := 8) (t := 22) d_M_want_5 rfl (by decide) (by decide) (fun _ => ?_) (fun c => absurd c (by decide))
                refine Rj_iconst (q := 23) d_M_want_22 rfl ?_
                refine Rj_bret0 d_M_want_23 rfl ?_
                exfalso; omega
              · refine Rj_iconst (q := 17) d_M_isSet_16 rfl ?_
                refine Rj_goto (t := 21) d_M_isSet_17 (by decide) ?_
                refine Rj_bret1 d_M_isSet_21 rfl ?_
                refine Rj_if_eq (q := 8) (t := 22) d_M_want_5 rfl (by decide) (by decide) (fun c => absurd c (by decide)) (fun _ => ?_)
                refine Rj_aload_n (q := 9) d_M_want_8 rfl rfl rfl ?_
                refine Rj_iload_n (q := 10) d_M_want_9 rfl rfl rfl ?_
                refine Rj_vo (q := 13) (z := y_M_isSet) (as := [vI b]) (rest := []) (la := [vA 0, vI b]) oM_0_M_isSet ml_M_388 mw_M_isSet mv_M_isSet rfl d_M_want_10 rfl rfl rfl rfl rfl ?_
                refine Rj_iload_n (q := 1) d_M_isSet_0 rfl rfl rfl ?_
                refine Rj_if_lt (q := 4) (t := 20) d_M_isSet_1 rfl (by decide) (by first | assumption | exact ⟨by omega, by omega⟩) (fun c10_1 => ?_) (fun c10_1 => ?_)
                · refine Rj_iconst (q := 21) d_M_isSet_20 rfl ?_
                  refine Rj_bret0 d_M_isSet_21 rfl ?_
                  refine Rj_if_eq (q := 16) (t := 22) d_M_want_13 rfl (by decide) (by decide) (fun _ => ?_) (fun c => absurd c (by decide))
                  refine Rj_iconst (q := 23) d_M_want_22 rfl ?_
                  refine Rj_bret0 d_M_want_23 rfl ?_
                  exfalso; omega
                · refine Rj_iload_n (q := 5) d_M_isSet_4 rfl rfl rfl ?_
                  refine Rj_iconst (q := 6) d_M_isSet_5 rfl ?_
                  refine Rj_aload_n (q := 7) d_M_isSet_6 rfl rfl rfl ?_
                  refine Rj_gr (q := 10) (zd := 11) gM_M_42_0 rfl rfl d_M_isSet_7 rfl ?_
                  refine Rj_iconst (q := 11) d_M_isSet_10 rfl ?_
                  refine Rj_ia (q := 12) (v := ν 11 0) aM_11 rfl (by decide) rfl d_M_isSet_11 rfl ?_
                  refine Rj_ishl (q := 13) (z := 2 ^ (ν 11 0).toNat) d_M_isSet_12 rfl (z_shl_p ⟨by omega, by omega⟩) ?_
                  refine Rj_icmp_ge (q := 16) (t := 20) d_M_isSet_13 rfl (by decide) (by first | exact ha | exact hb | exact p2k.1) (by first | exact ha | exact hb | exact p2k.1) (fun c10_13 => ?_) (fun c10_13 => ?_)
                  · refine Rj_iconst (q := 21) d_M_isSet_20 rfl ?_
                    refine Rj_bret0 d_M_isSet_21 rfl ?_
                    refine Rj_if_eq (q := 16) (t := 22) d_M_want_13 rfl (by decide) (by decide) (fun _ => ?_) (fun c => absurd c (by decide))
                    refine Rj_iconst (q := 23) d_M_want_22 rfl ?_
                    refine Rj_bret0 d_M_want_23 rfl ?_
                    exfalso; omega
                  · refine Rj_iconst (q := 17) d_M_isSet_16 rfl ?_
                    refine Rj_goto (t := 21) d_M_isSet_17 (by decide) ?_
                    refine Rj_bret1 d_M_isSet_21 rfl ?_
                    refine Rj_if_eq (q := 16) (t := 22) d_M_want_13 rfl (by decide) (by decide) (fun c => absurd c (by decide)) (fun _ => ?_)
                    refine Rj_iload_n (q := 17) d_M_want_16 rfl rfl rfl ?_
                    refine Rj_iload_n (q := 18) d_M_want_17 rfl rfl rfl ?_
                    refine Rj_iand (q := 19) (z := z_and a b) d_M_want_18 rfl rfl ?_
                    refine Rj_if_eq (q := 22) (t := 24) d_M_want_19 rfl (by decide) (t32 _) (fun c19 => ?_) (fun c19 => ?_)
                    · refine Rj_aload_n (q := 25) d_M_want_24 rfl rfl rfl ?_
                      refine Rj_gr (q := 28) (zd := 11) gM_M_42_0 rfl rfl d_M_want_25 rfl ?_
                      refine Rj_iconst (q := 29) d_M_want_28 rfl ?_
                      refine Rj_iload_n (q := 30) d_M_want_29 rfl rfl rfl ?_
                      refine Rj_is (q := 31) aM_11 rfl (by decide) d_M_want_30 rfl ?_
                      refine Rj_aload_n (q := 32) d_M_want_31 rfl rfl rfl ?_
                      refine Rj_gr (q := 35) (zd := 11) gM_M_42_0 rfl rfl d_M_want_32 rfl ?_
                      refine Rj_iconst (q := 36) d_M_want_35 rfl ?_
                      refine Rj_iload_n (q := 37) d_M_want_36 rfl rfl rfl ?_
                      refine Rj_is (q := 38) aM_11 rfl (by decide) d_M_want_37 rfl ?_
                      refine Rj_iconst (q := 39) d_M_want_38 rfl ?_
                      refine Rj_bret1 d_M_want_39 rfl ?_
                      obtain ⟨w3, w5, w6, w8⟩ := hC.w
                      exact ⟨sm_I rfl, hC.told2 (fun c i q1 q2 => (mset_o (by omega)).trans (mset_o (by omega))) (fun c i q1 q2 => (mset_o (by omega)).trans (mset_o (by omega))) (fun i q => (mset_o (by unfold sti at q; omega)).trans (mset_o (by unfold sti at q; omega))) ⟨⟨show 0 ≤ a by omega, show a < 2 ^ (ν 11 0).toNat by omega⟩, rfl, ⟨show 0 ≤ b by omega, show b < 2 ^ (ν 11 0).toNat by omega⟩, rfl⟩ (w5.keep rfl rfl rfl (fun i i0 i1 => (mset_o (by omega)).trans (mset_o (by omega))) rfl) (w6.keep z0.2 rfl rfl rfl (fun i i0 i1 => (mset_o (by omega)).trans (mset_o (by omega))) rfl) w8, fun c i q => (mset_o (by omega)).trans (mset_o (by omega)), fun c i q => (mset_o (by omega)).trans (mset_o (by omega))⟩
                    · refine Rj_iconst (q := 23) d_M_want_22 rfl ?_
                      refine Rj_bret0 d_M_want_23 rfl ?_
                      exfalso; omega
          · refine Rj_iconst (q := 29) d_D_want_28 rfl ?_
            refine Rj_bret0 d_D_want_29 rfl ?_
            refine Rj_aload_n (q := 1) d_M_want_0 rfl rfl rfl ?_
            refine Rj_iload_n (q := 2) d_M_want_1 rfl rfl rfl ?_
            refine Rj_vo (q := 5) (z := y_M_isSet) (as := [vI a]) (rest := []) (la := [vA 0, vI a]) oM_0_M_isSet ml_M_388 mw_M_isSet mv_M_isSet rfl d_M_want_2 rfl rfl rfl rfl rfl ?_
            refine Rj_iload_n (q := 1) d_M_isSet_0 rfl rfl rfl ?_
            refine Rj_if_lt (q := 4) (t := 20) d_M_isSet_1 rfl (by decide) (by first | assumption | exact ⟨by omega, by omega⟩) (fun c2_1 => ?_) (fun c2_1 => ?_)
            · refine Rj_iconst (q := 21) d_M_isSet_20 rfl ?_
              refine Rj_bret0 d_M_isSet_21 rfl ?_
              refine Rj_if_eq (q := 8) (t := 22) d_M_want_5 rfl (by decide) (by decide) (fun _ => ?_) (fun c => absurd c (by decide))
              refine Rj_iconst (q := 23) d_M_want_22 rfl ?_
              refine Rj_bret0 d_M_want_23 rfl ?_
              exact ⟨sm_I rfl, hC1, kp0 _, kq0 _⟩
            · refine Rj_iload_n (q := 5) d_M_isSet_4 rfl rfl rfl ?_
              refine Rj_iconst (q := 6) d_M_isSet_5 rfl ?_
              refine Rj_aload_n (q := 7) d_M_isSet_6 rfl rfl rfl ?_
              refine Rj_gr (q := 10) (zd := 11) gM_M_42_0 rfl rfl d_M_isSet_7 rfl ?_
              refine Rj_iconst (q := 11) d_M_isSet_10 rfl ?_
              refine Rj_ia (q := 12) (v := ν 11 0) aM_11 rfl (by decide) rfl d_M_isSet_11 rfl ?_
              refine Rj_ishl (q := 13) (z := 2 ^ (ν 11 0).toNat) d_M_isSet_12 rfl (z_shl_p ⟨by omega, by omega⟩) ?_
              refine Rj_icmp_ge (q := 16) (t := 20) d_M_isSet_13 rfl (by decide) (by first | exact ha | exact hb | exact p2k.1) (by first | exact ha | exact hb | exact p2k.1) (fun c2_13 => ?_) (fun c2_13 => ?_)
              · refine Rj_iconst (q := 21) d_M_isSet_20 rfl ?_
                refine Rj_bret0 d_M_isSet_21 rfl ?_
                refine Rj_if_eq (q := 8) (t := 22) d_M_want_5 rfl (by decide) (by decide) (fun _ => ?_) (fun c => absurd c (by decide))
                refine Rj_iconst (q := 23) d_M_want_22 rfl ?_
                refine Rj_bret0 d_M_want_23 rfl ?_
                exact ⟨sm_I rfl, hC1, kp0 _, kq0 _⟩
              · refine Rj_iconst (q := 17) d_M_isSet_16 rfl ?_
                refine Rj_goto (t := 21) d_M_isSet_17 (by decide) ?_
                refine Rj_bret1 d_M_isSet_21 rfl ?_
                refine Rj_if_eq (q := 8) (t := 22) d_M_want_5 rfl (by decide) (by decide) (fun c => absurd c (by decide)) (fun _ => ?_)
                refine Rj_aload_n (q := 9) d_M_want_8 rfl rfl rfl ?_
                refine Rj_iload_n (q := 10) d_M_want_9 rfl rfl rfl ?_
                refine Rj_vo (q := 13) (z := y_M_isSet) (as := [vI b]) (rest := []) (la := [vA 0, vI b]) oM_0_M_isSet ml_M_388 mw_M_isSet mv_M_isSet rfl d_M_want_10 rfl rfl rfl rfl rfl ?_
                refine Rj_iload_n (q := 1) d_M_isSet_0 rfl rfl rfl ?_
                refine Rj_if_lt (q := 4) (t := 20) d_M_isSet_1 rfl (by decide) (by first | assumption | exact ⟨by omega, by omega⟩) (fun c10_1 => ?_) (fun c10_1 => ?_)
                · refine Rj_iconst (q := 21) d_M_isSet_20 rfl ?_
                  refine Rj_bret0 d_M_isSet_21 rfl ?_
                  refine Rj_if_eq (q := 16) (t := 22) d_M_want_13 rfl (by decide) (by decide) (fun _ => ?_) (fun c => absurd c (by decide))
                  refine Rj_iconst (q := 23) d_M_want_22 rfl ?_
                  refine Rj_bret0 d_M_want_23 rfl ?_
                  exact ⟨sm_I rfl, hC1, kp0 _, kq0 _⟩
                · refine Rj_iload_n (q := 5) d_M_isSet_4 rfl rfl rfl ?_
                  refine Rj_iconst (q := 6) d_M_isSet_5 rfl ?_
                  refine Rj_aload_n (q := 7) d_M_isSet_6 rfl rfl rfl ?_
                  refine Rj_gr (q := 10) (zd := 11) gM_M_42_0 rfl rfl d_M_isSet_7 rfl ?_
                  refine Rj_iconst (q := 11) d_M_isSet_10 rfl ?_
                  refine Rj_ia (q := 12) (v := ν 11 0) aM_11 rfl (by decide) rfl d_M_isSet_11 rfl ?_
                  refine Rj_ishl (q := 13) (z := 2 ^ (ν 11 0).toNat) d_M_isSet_12 rfl (z_shl_p ⟨by omega, by omega⟩) ?_
                  refine Rj_icmp_ge (q := 16) (t := 20) d_M_isSet_13 rfl (by decide) (by first | exact ha | exact hb | exact p2k.1) (by first | exact ha | exact hb | exact p2k.1) (fun c10_13 => ?_) (fun c10_13 => ?_)
                  · refine Rj_iconst (q := 21) d_M_isSet_20 rfl ?_
                    refine Rj_bret0 d_M_isSet_21 rfl ?_
                    refine Rj_if_eq (q := 16) (t := 22) d_M_want_13 rfl (by decide) (by decide) (fun _ => ?_) (fun c => absurd c (by decide))
                    refine Rj_iconst (q := 23) d_M_want_22 rfl ?_
                    refine Rj_bret0 d_M_want_23 rfl ?_
                    exact ⟨sm_I rfl, hC1, kp0 _, kq0 _⟩
                  · refine Rj_iconst (q := 17) d_M_isSet_16 rfl ?_
                    refine Rj_goto (t := 21) d_M_isSet_17 (by decide) ?_
                    refine Rj_bret1 d_M_isSet_21 rfl ?_
                    refine Rj_if_eq (q := 16) (t := 22) d_M_want_13 rfl (by decide) (by decide) (fun c => absurd c (by decide)) (fun _ => ?_)
                    refine Rj_iload_n (q := 17) d_M_want_16 rfl rfl rfl ?_
                    refine Rj_iload_n (q := 18) d_M_want_17 rfl rfl rfl ?_
                    refine Rj_iand (q := 19) (z := z_and a b) d_M_want_18 rfl rfl ?_
                    refine Rj_if_eq (q := 22) (t := 24) d_M_want_19 rfl (by decide) (t32 _) (fun c19 => ?_) (fun c19 => ?_)
                    · refine Rj_aload_n (q := 25) d_M_want_24 rfl rfl rfl ?_
                      refine Rj_gr (q := 28) (zd := 11) gM_M_42_0 rfl rfl d_M_want_25 rfl ?_
                      refine Rj_iconst (q := 29) d_M_want_28 rfl ?_
                      refine Rj_iload_n (q := 30) d_M_want_29 rfl rfl rfl ?_
                      refine Rj_is (q := 31) aM_11 rfl (by decide) d_M_want_30 rfl ?_
                      refine Rj_aload_n (q := 32) d_M_want_31 rfl rfl rfl ?_
                      refine Rj_gr (q := 35) (zd := 11) gM_M_42_0 rfl rfl d_M_want_32 rfl ?_
                      refine Rj_iconst (q := 36) d_M_want_35 rfl ?_
                      refine Rj_iload_n (q := 37) d_M_want_36 rfl rfl rfl ?_
                      refine Rj_is (q := 38) aM_11 rfl (by decide) d_M_want_37 rfl ?_
                      refine Rj_iconst (q := 39) d_M_want_38 rfl ?_
                      refine Rj_bret1 d_M_want_39 rfl ?_
                      exfalso; omega
                    · refine Rj_iconst (q := 23) d_M_want_22 rfl ?_
                      refine Rj_bret0 d_M_want_23 rfl ?_
                      exact ⟨sm_I rfl, hC1, kp0 _, kq0 _⟩
set_option maxHeartbeats 8000000 in
theorem C_can {n : Nat} {μ ν : Mem} {a b : Int} (hC : Cor n μ ν) (hn : n ≤ 511) (ha : i32 a) (hb : i32 b)  : Rj YD y_D_can 0 [vA 0, vI a, vI b] [] μ (fun r μ' => Rj YM y_M_can 0 [vA 0, vI a, vI b] [] ν (fun r' ν' => Sm 1 r' r ∧ Cor (n + 1) μ' ν' ∧ Kp μ μ' ∧ Kq ν ν')) := by
  obtain ⟨hTP, hK, hSc, h, hM, hSB, hBK, hIM⟩ := id hC
  have hC1 := hC.next
  obtain ⟨z0, z1, z2, z3, z4, z5, z6, z7⟩ := h.z
  obtain ⟨hS, hH, hP, hB, hFx⟩ := id hM
  have hD := z0
  have hJ := z1
  refine Rj_aload_n (q := 1) d_D_can_0 rfl rfl rfl ?_
  refine Rj_gr (q := 4) (zd := 3) gD_D_25_0 rfl rfl d_D_can_1 rfl ?_
  refine Rj_iload_n (q := 5) d_D_can_4 rfl rfl rfl ?_
  refine Rj_vo (q := 8) (z := y_Sc_isDoor) (as := [vI a]) (rest := []) (la := [vA 3, vI a]) oD_3_Sc_isDoor ml_D_144 mw_Sc_isDoor mv_Sc_isDoor rfl d_D_can_5 rfl rfl rfl rfl rfl ?_
  refine Rj_iload_n (q := 1) d_Sc_isDoor_0 rfl rfl rfl ?_
  refine Rj_if_lt (q := 4) (t := 16) d_Sc_isDoor_1 rfl (by decide) (by first | assumption | exact ⟨by omega, by omega⟩) (fun c5_1 => ?_) (fun c5_1 => ?_)
  · refine Rj_iconst (q := 17) d_Sc_isDoor_16 rfl ?_
    refine Rj_bret0 d_Sc_isDoor_17 rfl ?_
    refine Rj_if_eq (q := 11) (t := 24) d_D_can_8 rfl (by decide) (by decide) (fun _ => ?_) (fun c => absurd c (by decide))
    refine Rj_iconst (q := 25) d_D_can_24 rfl ?_
    refine Rj_iret d_D_can_25 rfl ?_
    refine Rj_aload_n (q := 1) d_M_can_0 rfl rfl rfl ?_
    refine Rj_iload_n (q := 2) d_M_can_1 rfl rfl rfl ?_
    refine Rj_vo (q := 5) (z := y_M_isDoor) (as := [vI a]) (rest := []) (la := [vA 0, vI a]) oM_0_M_isDoor ml_M_353 mw_M_isDoor mv_M_isDoor rfl d_M_can_2 rfl rfl rfl rfl rfl ?_
    refine s_M_isDoor hD (by first | assumption | omega) ?_
    refine Rj_b_eq (q := 8) (t := 24) d_M_can_5 rfl (by decide) (fun c5 => ?_) (fun c5 => ?_)
    · have c5 := of_decide_eq_false c5
      refine Rj_iconst (q := 25) d_M_can_24 rfl ?_
      refine Rj_iret d_M_can_25 rfl ?_
      exact ⟨sm_I rfl, hC1, kp0 _, kq0 _⟩
    · have c5 := of_decide_eq_true c5
      refine Rj_iload_n (q := 9) d_M_can_8 rfl rfl rfl ?_
      refine Rj_cs (q := 12) (z := y_M_isPush) (as := [vI b]) (rest := []) (la := [vI b]) ml_M_376 mw_M_isPush ms_M_isPush d_M_can_9 rfl rfl rfl rfl rfl ?_
      refine Rj_iload_n (q := 1) d_M_isPush_0 rfl rfl rfl ?_
      refine Rj_if_eq (q := 4) (t := 22) d_M_isPush_1 rfl (by decide) (by first | assumption | exact ⟨by omega, by omega⟩) (fun c9_1 => ?_) (fun c9_1 => ?_)
      · refine Rj_iconst (q := 23) d_M_isPush_22 rfl ?_
        refine Rj_bret0 d_M_isPush_23 rfl ?_
        refine Rj_if_eq (q := 15) (t := 24) d_M_can_12 rfl (by decide) (by decide) (fun _ => ?_) (fun c => absurd c (by decide))
        refine Rj_iconst (q := 25) d_M_can_24 rfl ?_
        refine Rj_iret d_M_can_25 rfl ?_
        exact ⟨sm_I rfl, hC1, kp0 _, kq0 _⟩
      · refine Rj_iload_n (q := 5) d_M_isPush_4 rfl rfl rfl ?_
        refine Rj_i2l (q := 6) d_M_isPush_5 rfl (by first | assumption | exact ⟨by omega, by omega⟩) ?_
        refine Rj_ldc2 (q := 9) k_M_372 d_M_isPush_6 rfl ?_
        refine Rj_ldc2 (q := 12) k_M_374 d_M_isPush_9 rfl ?_
        refine Rj_cs (q := 15) (z := y_M_in) (as := [vL b, vL (-60), vL 60]) (rest := []) (la := [vL b, vU, vL (-60), vU, vL 60, vU]) ml_M_138 mw_M_in ms_M_in d_M_isPush_12 rfl rfl rfl rfl rfl ?_
        refine s_M_in ⟨by omega, by omega⟩ (by decide) (by decide) ?_
        refine Rj_b_eq (q := 18) (t := 22) d_M_isPush_15 rfl (by decide) (fun c9_15 => ?_) (fun c9_15 => ?_)
        · have c9_15 := of_decide_eq_false c9_15
          refine Rj_iconst (q := 23) d_M_isPush_22 rfl ?_
          refine Rj_bret0 d_M_isPush_23 rfl ?_
          refine Rj_if_eq (q := 15) (t := 24) d_M_can_12 rfl (by decide) (by decide) (fun _ => ?_) (fun c => absurd c (by decide))
          refine Rj_iconst (q := 25) d_M_can_24 rfl ?_
          refine Rj_iret d_M_can_25 rfl ?_
          exact ⟨sm_I rfl, hC1, kp0 _, kq0 _⟩
        · have c9_15 := of_decide_eq_true c9_15
          refine Rj_iconst (q := 19) d_M_isPush_18 rfl ?_
          refine Rj_goto (t := 23) d_M_isPush_19 (by decide) ?_
          refine Rj_bret1 d_M_isPush_23 rfl ?_
          refine Rj_if_eq (q := 15) (t := 24) d_M_can_12 rfl (by decide) (by decide) (fun c => absurd c (by decide)) (fun _ => ?_)
          refine Rj_aload_n (q := 16) d_M_can_15 rfl rfl rfl ?_
          refine Rj_iload_n (q := 17) d_M_can_16 rfl rfl rfl ?_
          refine Rj_iload_n (q := 18) d_M_can_17 rfl rfl rfl ?_
          refine Rj_vo (q := 21) (z := y_M_pushes) (as := [vI a, vI b]) (rest := []) (la := [vA 0, vI a, vI b]) oM_0_M_pushes ml_M_379 mw_M_pushes mv_M_pushes rfl d_M_can_18 rfl rfl rfl rfl rfl ?_
          refine s_M_pushes hM ⟨by omega, by omega⟩ ⟨by omega, by omega⟩ ?_
          refine Rj_goto (t := 25) d_M_can_21 (by decide) ?_
          refine Rj_iret d_M_can_25 rfl ?_
          exact ⟨sm_I (by omega), hC1, kp0 _, kq0 _⟩
  · refine Rj_iload_n (q := 5) d_Sc_isDoor_4 rfl rfl rfl ?_
    refine Rj_aload_n (q := 6) d_Sc_isDoor_5 rfl rfl rfl ?_
    refine Rj_gi (q := 9) (ki := 0) (v := ν 11 0) gD_Sc_37_3 rfl rfl z2 d_Sc_isDoor_6 rfl ?_
    refine Rj_icmp_ge (q := 12) (t := 16) d_Sc_isDoor_9 rfl (by decide) (by first | assumption | exact ⟨by omega, by omega⟩) (by first | assumption | exact ⟨by omega, by omega⟩) (fun c5_9 => ?_) (fun c5_9 => ?_)
    · refine Rj_iconst (q := 17) d_Sc_isDoor_16 rfl ?_
      refine Rj_bret0 d_Sc_isDoor_17 rfl ?_
      refine Rj_if_eq (q := 11) (t := 24) d_D_can_8 rfl (by decide) (by decide) (fun _ => ?_) (fun c => absurd c (by decide))
      refine Rj_iconst (q := 25) d_D_can_24 rfl ?_
      refine Rj_iret d_D_can_25 rfl ?_
      refine Rj_aload_n (q := 1) d_M_can_0 rfl rfl rfl ?_
      refine Rj_iload_n (q := 2) d_M_can_1 rfl rfl rfl ?_
      refine Rj_vo (q := 5) (z := y_M_isDoor) (as := [vI a]) (rest := []) (la := [vA 0, vI a]) oM_0_M_isDoor ml_M_353 mw_M_isDoor mv_M_isDoor rfl d_M_can_2 rfl rfl rfl rfl rfl ?_
      refine s_M_isDoor hD (by first | assumption | omega) ?_
      refine Rj_b_eq (q := 8) (t := 24) d_M_can_5 rfl (by decide) (fun c5 => ?_) (fun c5 => ?_)
      · have c5 := of_decide_eq_false c5
        refine Rj_iconst (q := 25) d_M_can_24 rfl ?_
        refine Rj_iret d_M_can_25 rfl ?_
        exact ⟨sm_I rfl, hC1, kp0 _, kq0 _⟩
      · have c5 := of_decide_eq_true c5
        refine Rj_iload_n (q := 9) d_M_can_8 rfl rfl rfl ?_
        refine Rj_cs (q := 12) (z := y_M_isPush) (as := [vI b]) (rest := []) (la := [vI b]) ml_M_376 mw_M_isPush ms_M_isPush d_M_can_9 rfl rfl rfl rfl rfl ?_
        refine Rj_iload_n (q := 1) d_M_isPush_0 rfl rfl rfl ?_
        refine Rj_if_eq (q := 4) (t := 22) d_M_isPush_1 rfl (by decide) (by first | assumption | exact ⟨by omega, by omega⟩) (fun c9_1 => ?_) (fun c9_1 => ?_)
        · refine Rj_iconst (q := 23) d_M_isPush_22 rfl ?_
          refine Rj_bret0 d_M_isPush_23 rfl ?_
          refine Rj_if_eq (q := 15) (t := 24) d_M_can_12 rfl (by decide) (by decide) (fun _ => ?_) (fun c => absurd c (by decide))
          refine Rj_iconst (q := 25) d_M_can_24 rfl ?_
          refine Rj_iret d_M_can_25 rfl ?_
          exact ⟨sm_I rfl, hC1, kp0 _, kq0 _⟩
        · refine Rj_iload_n (q := 5) d_M_isPush_4 rfl rfl rfl ?_
          refine Rj_i2l (q := 6) d_M_isPush_5 rfl (by first | assumption | exact ⟨by omega, by omega⟩) ?_
          refine Rj_ldc2 (q := 9) k_M_372 d_M_isPush_6 rfl ?_
          refine Rj_ldc2 (q := 12) k_M_374 d_M_isPush_9 rfl ?_
          refine Rj_cs (q := 15) (z := y_M_in) (as := [vL b, vL (-60), vL 60]) (rest := []) (la := [vL b, vU, vL (-60), vU, vL 60, vU]) ml_M_138 mw_M_in ms_M_in d_M_isPush_12 rfl rfl rfl rfl rfl ?_
          refine s_M_in ⟨by omega, by omega⟩ (by decide) (by decide) ?_
          refine Rj_b_eq (q := 18) (t := 22) d_M_isPush_15 rfl (by decide) (fun c9_15 => ?_) (fun c9_15 => ?_)
          · have c9_15 := of_decide_eq_false c9_15
            refine Rj_iconst (q := 23) d_M_isPush_22 rfl ?_
            refine Rj_bret0 d_M_isPush_23 rfl ?_
            refine Rj_if_eq (q := 15) (t := 24) d_M_can_12 rfl (by decide) (by decide) (fun _ => ?_) (fun c => absurd c (by decide))
            refine Rj_iconst (q := 25) d_M_can_24 rfl ?_
            refine Rj_iret d_M_can_25 rfl ?_
            exact ⟨sm_I rfl, hC1, kp0 _, kq0 _⟩
          · have c9_15 := of_decide_eq_true c9_15
            refine Rj_iconst (q := 19) d_M_isPush_18 rfl ?_
            refine Rj_goto (t := 23) d_M_isPush_19 (by decide) ?_
            refine Rj_bret1 d_M_isPush_23 rfl ?_
            refine Rj_if_eq (q := 15) (t := 24) d_M_can_12 rfl (by decide) (by decide) (fun c => absurd c (by decide)) (fun _ => ?_)
            refine Rj_aload_n (q := 16) d_M_can_15 rfl rfl rfl ?_
            refine Rj_iload_n (q := 17) d_M_can_16 rfl rfl rfl ?_
            refine Rj_iload_n (q := 18) d_M_can_17 rfl rfl rfl ?_
            refine Rj_vo (q := 21) (z := y_M_pushes) (as := [vI a, vI b]) (rest := []) (la := [vA 0, vI a, vI b]) oM_0_M_pushes ml_M_379 mw_M_pushes mv_M_pushes rfl d_M_can_18 rfl rfl rfl rfl rfl ?_
            refine s_M_pushes hM ⟨by omega, by omega⟩ ⟨by omega, by omega⟩ ?_
            refine Rj_goto (t := 25) d_M_can_21 (by decide) ?_
            refine Rj_iret d_M_can_25 rfl ?_
            exact ⟨sm_I (by omega), hC1, kp0 _, kq0 _⟩
    · refine Rj_iconst (q := 13) d_Sc_isDoor_12 rfl ?_
      refine Rj_goto (t := 17) d_Sc_isDoor_13 (by decide) ?_
      refine Rj_bret1 d_Sc_isDoor_17 rfl ?_
      refine Rj_if_eq (q := 11) (t := 24) d_D_can_8 rfl (by decide) (by decide) (fun c => absurd c (by decide)) (fun _ => ?_)
      refine Rj_iload_n (q := 12) d_D_can_11 rfl rfl rfl ?_
      refine Rj_if_eq (q := 15) (t := 24) d_D_can_12 rfl (by decide) (by first | assumption | exact ⟨by omega, by omega⟩) (fun c12 => ?_) (fun c12 => ?_)
      · refine Rj_iconst (q := 25) d_D_can_24 rfl ?_
        refine Rj_iret d_D_can_25 rfl ?_
        refine Rj_aload_n (q := 1) d_M_can_0 rfl rfl rfl ?_
        refine Rj_iload_n (q := 2) d_M_can_1 rfl rfl rfl ?_
        refine Rj_vo (q := 5) (z := y_M_isDoor) (as := [vI a]) (rest := []) (la := [vA 0, vI a]) oM_0_M_isDoor ml_M_353 mw_M_isDoor mv_M_isDoor rfl d_M_can_2 rfl rfl rfl rfl rfl ?_
        refine s_M_isDoor hD (by first | assumption | omega) ?_
        refine Rj_b_eq (q := 8) (t := 24) d_M_can_5 rfl (by decide) (fun c5 => ?_) (fun c5 => ?_)
        · have c5 := of_decide_eq_false c5
          refine Rj_iconst (q := 25) d_M_can_24 rfl ?_
          refine Rj_iret d_M_can_25 rfl ?_
          exact ⟨sm_I rfl, hC1, kp0 _, kq0 _⟩
        · have c5 := of_decide_eq_true c5
          refine Rj_iload_n (q := 9) d_M_can_8 rfl rfl rfl ?_
          refine Rj_cs (q := 12) (z := y_M_isPush) (as := [vI b]) (rest := []) (la := [vI b]) ml_M_376 mw_M_isPush ms_M_isPush d_M_can_9 rfl rfl rfl rfl rfl ?_
          refine Rj_iload_n (q := 1) d_M_isPush_0 rfl rfl rfl ?_
          refine Rj_if_eq (q := 4) (t := 22) d_M_isPush_1 rfl (by decide) (by first | assumption | exact ⟨by omega, by omega⟩) (fun c9_1 => ?_) (fun c9_1 => ?_)
          · refine Rj_iconst (q := 23) d_M_isPush_22 rfl ?_
            refine Rj_bret0 d_M_isPush_23 rfl ?_
            refine Rj_if_eq (q := 15) (t := 24) d_M_can_12 rfl (by decide) (by decide) (fun _ => ?_) (fun c => absurd c (by decide))
            refine Rj_iconst (q := 25) d_M_can_24 rfl ?_
            refine Rj_iret d_M_can_25 rfl ?_
            exact ⟨sm_I rfl, hC1, kp0 _, kq0 _⟩
          · refine Rj_iload_n (q := 5) d_M_isPush_4 rfl rfl rfl ?_
            refine Rj_i2l (q := 6) d_M_isPush_5 rfl (by first | assumption | exact ⟨by omega, by omega⟩) ?_
            refine Rj_ldc2 (q := 9) k_M_372 d_M_isPush_6 rfl ?_
            refine Rj_ldc2 (q := 12) k_M_374 d_M_isPush_9 rfl ?_
            refine Rj_cs (q := 15) (z := y_M_in) (as := [vL b, vL (-60), vL 60]) (rest := []) (la := [vL b, vU, vL (-60), vU, vL 60, vU]) ml_M_138 mw_M_in ms_M_in d_M_isPush_12 rfl rfl rfl rfl rfl ?_
            refine s_M_in ⟨by omega, by omega⟩ (by decide) (by decide) ?_
            refine Rj_b_eq (q := 18) (t := 22) d_M_isPush_15 rfl (by decide) (fun c9_15 => ?_) (fun c9_15 => ?_)
            · have c9_15 := of_decide_eq_false c9_15
              refine Rj_iconst (q := 23) d_M_isPush_22 rfl ?_
              refine Rj_bret0 d_M_isPush_23 rfl ?_
              refine Rj_if_eq (q := 15) (t := 24) d_M_can_12 rfl (by decide) (by decide) (fun _ => ?_) (fun c => absurd c (by decide))
              refine Rj_iconst (q := 25) d_M_can_24 rfl ?_
              refine Rj_iret d_M_can_25 rfl ?_
              exact ⟨sm_I rfl, hC1, kp0 _, kq0 _⟩
            · have c9_15 := of_decide_eq_true c9_15
              refine Rj_iconst (q := 19) d_M_isPush_18 rfl ?_
              refine Rj_goto (t := 23) d_M_isPush_19 (by decide) ?_
              refine Rj_bret1 d_M_isPush_23 rfl ?_
              refine Rj_if_eq (q := 15) (t := 24) d_M_can_12 rfl (by decide) (by decide) (fun c => absurd c (by decide)) (fun _ => ?_)
              refine Rj_aload_n (q := 16) d_M_can_15 rfl rfl rfl ?_
              refine Rj_iload_n (q := 17) d_M_can_16 rfl rfl rfl ?_
              refine Rj_iload_n (q := 18) d_M_can_17 rfl rfl rfl ?_
              refine Rj_vo (q := 21) (z := y_M_pushes) (as := [vI a, vI b]) (rest := []) (la := [vA 0, vI a, vI b]) oM_0_M_pushes ml_M_379 mw_M_pushes mv_M_pushes rfl d_M_can_18 rfl rfl rfl rfl rfl ?_
              refine s_M_pushes hM ⟨by omega, by omega⟩ ⟨by omega, by omega⟩ ?_
              refine Rj_goto (t := 25) d_M_can_21 (by decide) ?_
              refine Rj_iret d_M_can_25 rfl ?_
              exact ⟨sm_I (by omega), hC1, kp0 _, kq0 _⟩
      · refine Rj_iload_n (q := 16) d_D_can_15 rfl rfl rfl ?_
        refine Rj_bipush (q := 18) d_D_can_16 rfl (by decide +kernel) ?_
        refine Rj_cs (q := 21) (z := y_D_isWithin) (as := [vI b, vI 60]) (rest := []) (la := [vI b, vI 60]) ml_D_209 mw_D_isWithin ms_D_isWithin d_D_can_18 rfl rfl rfl rfl rfl ?_
        refine Rj_iload_n (q := 1) d_D_isWithin_0 rfl rfl rfl ?_
        refine Rj_iload_n (q := 2) d_D_isWithin_1 rfl rfl rfl ?_
        refine Rj_ineg (q := 3) d_D_isWithin_2 rfl ?_
        refine Rj_icmp_lt (q := 6) (t := 15) d_D_isWithin_3 rfl (by decide) (by first | assumption | exact ⟨by omega, by omega⟩) (by decide) (fun c18_3 => ?_) (fun c18_3 => ?_)
        · refine Rj_iconst (q := 16) d_D_isWithin_15 rfl ?_
          refine Rj_bret0 d_D_isWithin_16 rfl ?_
          refine Rj_if_ne (q := 24) (t := 26) d_D_can_21 rfl (by decide) (by decide) (fun c => absurd c (by decide)) (fun _ => ?_)
          refine Rj_iconst (q := 25) d_D_can_24 rfl ?_
          refine Rj_iret d_D_can_25 rfl ?_
          refine Rj_aload_n (q := 1) d_M_can_0 rfl rfl rfl ?_
          refine Rj_iload_n (q := 2) d_M_can_1 rfl rfl rfl ?_
          refine Rj_vo (q := 5) (z := y_M_isDoor) (as := [vI a]) (rest := []) (la := [vA 0, vI a]) oM_0_M_isDoor ml_M_353 mw_M_isDoor mv_M_isDoor rfl d_M_can_2 rfl rfl rfl rfl rfl ?_
          refine s_M_isDoor hD (by first | assumption | omega) ?_
          refine Rj_b_eq (q := 8) (t := 24) d_M_can_5 rfl (by decide) (fun c5 => ?_) (fun c5 => ?_)
          · have c5 := of_decide_eq_false c5
            refine Rj_iconst (q := 25) d_M_can_24 rfl ?_
            refine Rj_iret d_M_can_25 rfl ?_
            exact ⟨sm_I rfl, hC1, kp0 _, kq0 _⟩
          · have c5 := of_decide_eq_true c5
            refine Rj_iload_n (q := 9) d_M_can_8 rfl rfl rfl ?_
            refine Rj_cs (q := 12) (z := y_M_isPush) (as := [vI b]) (rest := []) (la := [vI b]) ml_M_376 mw_M_isPush ms_M_isPush d_M_can_9 rfl rfl rfl rfl rfl ?_
            refine Rj_iload_n (q := 1) d_M_isPush_0 rfl rfl rfl ?_
            refine Rj_if_eq (q := 4) (t := 22) d_M_isPush_1 rfl (by decide) (by first | assumption | exact ⟨by omega, by omega⟩) (fun c9_1 => ?_) (fun c9_1 => ?_)
            · refine Rj_iconst (q := 23) d_M_isPush_22 rfl ?_
              refine Rj_bret0 d_M_isPush_23 rfl ?_
              refine Rj_if_eq (q := 15) (t := 24) d_M_can_12 rfl (by decide) (by decide) (fun _ => ?_) (fun c => absurd c (by decide))
              refine Rj_iconst (q := 25) d_M_can_24 rfl ?_
              refine Rj_iret d_M_can_25 rfl ?_
              exact ⟨sm_I rfl, hC1, kp0 _, kq0 _⟩
            · refine Rj_iload_n (q := 5) d_M_isPush_4 rfl rfl rfl ?_
              refine Rj_i2l (q := 6) d_M_isPush_5 rfl (by first | assumption | exact ⟨by omega, by omega⟩) ?_
              refine Rj_ldc2 (q := 9) k_M_372 d_M_isPush_6 rfl ?_
              refine Rj_ldc2 (q := 12) k_M_374 d_M_isPush_9 rfl ?_
              refine Rj_cs (q := 15) (z := y_M_in) (as := [vL b, vL (-60), vL 60]) (rest := []) (la := [vL b, vU, vL (-60), vU, vL 60, vU]) ml_M_138 mw_M_in ms_M_in d_M_isPush_12 rfl rfl rfl rfl rfl ?_
              refine s_M_in ⟨by omega, by omega⟩ (by decide) (by decide) ?_
              refine Rj_b_eq (q := 18) (t := 22) d_M_isPush_15 rfl (by decide) (fun c9_15 => ?_) (fun c9_15 => ?_)
              · have c9_15 := of_decide_eq_false c9_15
                refine Rj_iconst (q := 23) d_M_isPush_22 rfl ?_
                refine Rj_bret0 d_M_isPush_23 rfl ?_
                refine Rj_if_eq (q := 15) (t := 24) d_M_can_12 rfl (by decide) (by decide) (fun _ => ?_) (fun c => absurd c (by decide))
                refine Rj_iconst (q := 25) d_M_can_24 rfl ?_
                refine Rj_iret d_M_can_25 rfl ?_
                exact ⟨sm_I rfl, hC1, kp0 _, kq0 _⟩
              · have c9_15 := of_decide_eq_true c9_15
                refine Rj_iconst (q := 19) d_M_isPush_18 rfl ?_
                refine Rj_goto (t := 23) d_M_isPush_19 (by decide) ?_
                refine Rj_bret1 d_M_isPush_23 rfl ?_
                refine Rj_if_eq (q := 15) (t := 24) d_M_can_12 rfl (by decide) (by decide) (fun c => absurd c (by decide)) (fun _ => ?_)
                refine Rj_aload_n (q := 16) d_M_can_15 rfl rfl rfl ?_
                refine Rj_iload_n (q := 17) d_M_can_16 rfl rfl rfl ?_
                refine Rj_iload_n (q := 18) d_M_can_17 rfl rfl rfl ?_
                refine Rj_vo (q := 21) (z := y_M_pushes) (as := [vI a, vI b]) (rest := []) (la := [vA 0, vI a, vI b]) oM_0_M_pushes ml_M_379 mw_M_pushes mv_M_pushes rfl d_M_can_18 rfl rfl rfl rfl rfl ?_
                refine s_M_pushes hM ⟨by omega, by omega⟩ ⟨by omega, by omega⟩ ?_
                refine Rj_goto (t := 25) d_M_can_21 (by decide) ?_
                refine Rj_iret d_M_can_25 rfl ?_
                exact ⟨sm_I (by omega), hC1, kp0 _, kq0 _⟩
        · refine Rj_iload_n (q := 7) d_D_isWithin_6 rfl rfl rfl ?_
          refine Rj_iload_n (q := 8) d_D_isWithin_7 rfl rfl rfl ?_
          refine Rj_icmp_gt (q := 11) (t := 15) d_D_isWithin_8 rfl (by decide) (by first | assumption | exact ⟨by omega, by omega⟩) (by decide) (fun c18_8 => ?_) (fun c18_8 => ?_)
          · refine Rj_iconst (q := 16) d_D_isWithin_15 rfl ?_
            refine Rj_bret0 d_D_isWithin_16 rfl ?_
            refine Rj_if_ne (q := 24) (t := 26) d_D_can_21 rfl (by decide) (by decide) (fun c => absurd c (by decide)) (fun _ => ?_)
            refine Rj_iconst (q := 25) d_D_can_24 rfl ?_
            refine Rj_iret d_D_can_25 rfl ?_
            refine Rj_aload_n (q := 1) d_M_can_0 rfl rfl rfl ?_
            refine Rj_iload_n (q := 2) d_M_can_1 rfl rfl rfl ?_
            refine Rj_vo (q := 5) (z := y_M_isDoor) (as := [vI a]) (rest := []) (la := [vA 0, vI a]) oM_0_M_isDoor ml_M_353 mw_M_isDoor mv_M_isDoor rfl d_M_can_2 rfl rfl rfl rfl rfl ?_
            refine s_M_isDoor hD (by first | assumption | omega) ?_
            refine Rj_b_eq (q := 8) (t := 24) d_M_can_5 rfl (by decide) (fun c5 => ?_) (fun c5 => ?_)
            · have c5 := of_decide_eq_false c5
              refine Rj_iconst (q := 25) d_M_can_24 rfl ?_
              refine Rj_iret d_M_can_25 rfl ?_
              exact ⟨sm_I rfl, hC1, kp0 _, kq0 _⟩
            · have c5 := of_decide_eq_true c5
              refine Rj_iload_n (q := 9) d_M_can_8 rfl rfl rfl ?_
              refine Rj_cs (q := 12) (z := y_M_isPush) (as := [vI b]) (rest := []) (la := [vI b]) ml_M_376 mw_M_isPush ms_M_isPush d_M_can_9 rfl rfl rfl rfl rfl ?_
              refine Rj_iload_n (q := 1) d_M_isPush_0 rfl rfl rfl ?_
              refine Rj_if_eq (q := 4) (t := 22) d_M_isPush_1 rfl (by decide) (by first | assumption | exact ⟨by omega, by omega⟩) (fun c9_1 => ?_) (fun c9_1 => ?_)
              · refine Rj_iconst (q := 23) d_M_isPush_22 rfl ?_
                refine Rj_bret0 d_M_isPush_23 rfl ?_
                refine Rj_if_eq (q := 15) (t := 24) d_M_can_12 rfl (by decide) (by decide) (fun _ => ?_) (fun c => absurd c (by decide))
                refine Rj_iconst (q := 25) d_M_can_24 rfl ?_
                refine Rj_iret d_M_can_25 rfl ?_
                exact ⟨sm_I rfl, hC1, kp0 _, kq0 _⟩
              · refine Rj_iload_n (q := 5) d_M_isPush_4 rfl rfl rfl ?_
                refine Rj_i2l (q := 6) d_M_isPush_5 rfl (by first | assumption | exact ⟨by omega, by omega⟩) ?_
                refine Rj_ldc2 (q := 9) k_M_372 d_M_isPush_6 rfl ?_
                refine Rj_ldc2 (q := 12) k_M_374 d_M_isPush_9 rfl ?_
                refine Rj_cs (q := 15) (z := y_M_in) (as := [vL b, vL (-60), vL 60]) (rest := []) (la := [vL b, vU, vL (-60), vU, vL 60, vU]) ml_M_138 mw_M_in ms_M_in d_M_isPush_12 rfl rfl rfl rfl rfl ?_
                refine s_M_in ⟨by omega, by omega⟩ (by decide) (by decide) ?_
                refine Rj_b_eq (q := 18) (t := 22) d_M_isPush_15 rfl (by decide) (fun c9_15 => ?_) (fun c9_15 => ?_)
                · have c9_15 := of_decide_eq_false c9_15
                  refine Rj_iconst (q := 23) d_M_isPush_22 rfl ?_
                  refine Rj_bret0 d_M_isPush_23 rfl ?_
                  refine Rj_if_eq (q := 15) (t := 24) d_M_can_12 rfl (by decide) (by decide) (fun _ => ?_) (fun c => absurd c (by decide))
                  refine Rj_iconst (q := 25) d_M_can_24 rfl ?_
                  refine Rj_iret d_M_can_25 rfl ?_
                  exact ⟨sm_I rfl, hC1, kp0 _, kq0 _⟩
                · have c9_15 := of_decide_eq_true c9_15
                  refine Rj_iconst (q := 19) d_M_isPush_18 rfl ?_
                  refine Rj_goto (t := 23) d_M_isPush_19 (by decide) ?_
                  refine Rj_bret1 d_M_isPush_23 rfl ?_
                  refine Rj_if_eq (q := 15) (t := 24) d_M_can_12 rfl (by decide) (by decide) (fun c => absurd c (by decide)) (fun _ => ?_)
                  refine Rj_aload_n (q := 16) d_M_can_15 rfl rfl rfl ?_
                  refine Rj_iload_n (q := 17) d_M_can_16 rfl rfl rfl ?_
                  refine Rj_iload_n (q := 18) d_M_can_17 rfl rfl rfl ?_
                  refine Rj_vo (q := 21) (z := y_M_pushes) (as := [vI a, vI b]) (rest := []) (la := [vA 0, vI a, vI b]) oM_0_M_pushes ml_M_379 mw_M_pushes mv_M_pushes rfl d_M_can_18 rfl rfl rfl rfl rfl ?_
                  refine s_M_pushes hM ⟨by omega, by omega⟩ ⟨by omega, by omega⟩ ?_
                  refine Rj_goto (t := 25) d_M_can_21 (by decide) ?_
                  refine Rj_iret d_M_can_25 rfl ?_
                  exact ⟨sm_I (by omega), hC1, kp0 _, kq0 _⟩
          · refine Rj_iconst (q := 12) d_D_isWithin_11 rfl ?_
            refine Rj_goto (t := 16) d_D_isWithin_12 (by decide) ?_
            refine Rj_bret1 d_D_isWithin_16 rfl ?_
            refine Rj_if_ne (q := 24) (t := 26) d_D_can_21 rfl (by decide) (by decide) (fun _ => ?_) (fun c => absurd c (by decide))
            refine Rj_aload_n (q := 27) d_D_can_26 rfl rfl rfl ?_
            refine Rj_gr (q := 30) (zd := 59) gD_D_45_0 rfl rfl d_D_can_27 rfl ?_
            refine Rj_iload_n (q := 31) d_D_can_30 rfl rfl rfl ?_
            refine Rj_iload_n (q := 32) d_D_can_31 rfl rfl rfl ?_
            refine Rj_vo (q := 35) (z := y_Ge_tryPush) (as := [vI a, vI b]) (rest := []) (la := [vA 59, vI a, vI b]) oD_59_Ge_tryPush ml_D_213 mw_Ge_tryPush mv_Ge_tryPush rfl d_D_can_32 rfl rfl rfl rfl rfl ?_
            refine s_tryPush h ⟨by omega, by omega⟩ ⟨by omega, by omega⟩ ?_
            refine Rj_iret d_D_can_35 rfl ?_
            refine Rj_aload_n (q := 1) d_M_can_0 rfl rfl rfl ?_
            refine Rj_iload_n (q := 2) d_M_can_1 rfl rfl rfl ?_
            refine Rj_vo (q := 5) (z := y_M_isDoor) (as := [vI a]) (rest := []) (la := [vA 0, vI a]) oM_0_M_isDoor ml_M_353 mw_M_isDoor mv_M_isDoor rfl d_M_can_2 rfl rfl rfl rfl rfl ?_
            refine s_M_isDoor hD (by first | assumption | omega) ?_
            refine Rj_b_eq (q := 8) (t := 24) d_M_can_5 rfl (by decide) (fun c5 => ?_) (fun c5 => ?_)
            · have c5 := of_decide_eq_false c5
              refine Rj_iconst (q := 25) d_M_can_24 rfl ?_
              refine Rj_iret d_M_can_25 rfl ?_
              exact ⟨sm_I (by omega), hC1, kp0 _, kq0 _⟩
            · have c5 := of_decide_eq_true c5
              refine Rj_iload_n (q := 9) d_M_can_8 rfl rfl rfl ?_
              refine Rj_cs (q := 12) (z := y_M_isPush) (as := [vI b]) (rest := []) (la := [vI b]) ml_M_376 mw_M_isPush ms_M_isPush d_M_can_9 rfl rfl rfl rfl rfl ?_
              refine Rj_iload_n (q := 1) d_M_isPush_0 rfl rfl rfl ?_
              refine Rj_if_eq (q := 4) (t := 22) d_M_isPush_1 rfl (by decide) (by first | assumption | exact ⟨by omega, by omega⟩) (fun c9_1 => ?_) (fun c9_1 => ?_)
              · refine Rj_iconst (q := 23) d_M_isPush_22 rfl ?_
                refine Rj_bret0 d_M_isPush_23 rfl ?_
                refine Rj_if_eq (q := 15) (t := 24) d_M_can_12 rfl (by decide) (by decide) (fun _ => ?_) (fun c => absurd c (by decide))
                refine Rj_iconst (q := 25) d_M_can_24 rfl ?_
                refine Rj_iret d_M_can_25 rfl ?_
                exact ⟨sm_I (by omega), hC1, kp0 _, kq0 _⟩
              · refine Rj_iload_n (q := 5) d_M_isPush_4 rfl rfl rfl ?_
                refine Rj_i2l (q := 6) d_M_isPush_5 rfl (by first | assumption | exact ⟨by omega, by omega⟩) ?_
                refine Rj_ldc2 (q := 9) k_M_372 d_M_isPush_6 rfl ?_
                refine Rj_ldc2 (q := 12) k_M_374 d_M_isPush_9 rfl ?_
                refine Rj_cs (q := 15) (z := y_M_in) (as := [vL b, vL (-60), vL 60]) (rest := []) (la := [vL b, vU, vL (-60), vU, vL 60, vU]) ml_M_138 mw_M_in ms_M_in d_M_isPush_12 rfl rfl rfl rfl rfl ?_
                refine s_M_in ⟨by omega, by omega⟩ (by decide) (by decide) ?_
                refine Rj_b_eq (q := 18) (t := 22) d_M_isPush_15 rfl (by decide) (fun c9_15 => ?_) (fun c9_15 => ?_)
                · have c9_15 := of_decide_eq_false c9_15
                  refine Rj_iconst (q := 23) d_M_isPush_22 rfl ?_
                  refine Rj_bret0 d_M_isPush_23 rfl ?_
                  refine Rj_if_eq (q := 15) (t := 24) d_M_can_12 rfl (by decide) (by decide) (fun _ => ?_) (fun c => absurd c (by decide))
                  refine Rj_iconst (q := 25) d_M_can_24 rfl ?_
                  refine Rj_iret d_M_can_25 rfl ?_
                  exact ⟨sm_I (by omega), hC1, kp0 _, kq0 _⟩
                · have c9_15 := of_decide_eq_true c9_15
                  refine Rj_iconst (q := 19) d_M_isPush_18 rfl ?_
                  refine Rj_goto (t := 23) d_M_isPush_19 (by decide) ?_
                  refine Rj_bret1 d_M_isPush_23 rfl ?_
                  refine Rj_if_eq (q := 15) (t := 24) d_M_can_12 rfl (by decide) (by decide) (fun c => absurd c (by decide)) (fun _ => ?_)
                  refine Rj_aload_n (q := 16) d_M_can_15 rfl rfl rfl ?_
                  refine Rj_iload_n (q := 17) d_M_can_16 rfl rfl rfl ?_
                  refine Rj_iload_n (q := 18) d_M_can_17 rfl rfl rfl ?_
                  refine Rj_vo (q := 21) (z := y_M_pushes) (as := [vI a, vI b]) (rest := []) (la := [vA 0, vI a, vI b]) oM_0_M_pushes ml_M_379 mw_M_pushes mv_M_pushes rfl d_M_can_18 rfl rfl rfl rfl rfl ?_
                  refine s_M_pushes hM ⟨by omega, by omega⟩ ⟨by omega, by omega⟩ ?_
                  refine Rj_goto (t := 25) d_M_can_21 (by decide) ?_
                  refine Rj_iret d_M_can_25 rfl ?_
                  exact ⟨sm_I rfl, hC1, kp0 _, kq0 _⟩
set_option maxHeartbeats 8000000 in
theorem C_push {n : Nat} {μ ν : Mem} {a b : Int} (hC : Cor n μ ν) (hn : n ≤ 511) (ha : i32 a) (hb : i32 b)  : Rj YD y_D_push 0 [vA 0, vI a, vI b] [] μ (fun r μ' => Rj YM y_M_push 0 [vA 0, vI a, vI b] [] ν (fun r' ν' => Sm 1 r' r ∧ Cor (n + 1) μ' ν' ∧ Kp μ μ' ∧ Kq ν ν')) := by
  obtain ⟨hTP, hK, hSc, h, hM, hSB, hBK, hIM⟩ := id hC
  have hC1 := hC.next
  obtain ⟨z0, z1, z2, z3, z4, z5, z6, z7⟩ := h.z
  obtain ⟨hS, hH, hP, hB, hFx⟩ := id hM
  have hD := z0
  have hJ := z1
  have prg := pushR_rng (S := ν 11) (lo := ν 14) (up := ν 15) (dn := ν 16) (lk := ν 17) (pl := ν 12) (P := pts (ν 11)) (p := a) (n := b) z0.2
  refine Rj_aload_n (q := 1) d_D_push_0 rfl rfl rfl ?_
  refine Rj_iload_n (q := 2) d_D_push_1 rfl rfl rfl ?_
  refine Rj_iload_n (q := 3) d_D_push_2 rfl rfl rfl ?_
  refine Rj_vo (q := 6) (z := y_D_can) (as := [vI a, vI b]) (rest := []) (la := [vA 0, vI a, vI b]) oD_0_D_can ml_D_202 mw_D_can mv_D_can rfl d_D_push_3 rfl rfl rfl rfl rfl ?_
  refine Rj_aload_n (q := 1) d_D_can_0 rfl rfl rfl ?_
  refine Rj_gr (q := 4) (zd := 3) gD_D_25_0 rfl rfl d_D_can_1 rfl ?_
  refine Rj_iload_n (q := 5) d_D_can_4 rfl rfl rfl ?_
  refine Rj_vo (q := 8) (z := y_Sc_isDoor) (as := [vI a]) (rest := []) (la := [vA 3, vI a]) oD_3_Sc_isDoor ml_D_144 mw_Sc_isDoor mv_Sc_isDoor rfl d_D_can_5 rfl rfl rfl rfl rfl ?_
  refine Rj_iload_n (q := 1) d_Sc_isDoor_0 rfl rfl rfl ?_
  refine Rj_if_lt (q := 4) (t := 16) d_Sc_isDoor_1 rfl (by decide) (by first | assumption | exact ⟨by omega, by omega⟩) (fun c3_5_1 => ?_) (fun c3_5_1 => ?_)
  · refine Rj_iconst (q := 17) d_Sc_isDoor_16 rfl ?_
    refine Rj_bret0 d_Sc_isDoor_17 rfl ?_
    refine Rj_if_eq (q := 11) (t := 24) d_D_can_8 rfl (by decide) (by decide) (fun _ => ?_) (fun c => absurd c (by decide))
    refine Rj_iconst (q := 25) d_D_can_24 rfl ?_
    refine Rj_iret d_D_can_25 rfl ?_
    refine Rj_istore_n (q := 7) (ls' := [vA 0, vI a, vI b, vI (-1)]) d_D_push_6 rfl rfl (by decide) rfl ?_
    refine Rj_iload_n (q := 8) d_D_push_7 rfl rfl rfl ?_
    refine Rj_if_le (q := 11) (t := 20) d_D_push_8 rfl (by decide) (by decide) (fun _ => ?_) (fun c => absurd c (by decide))
    refine Rj_iload_n (q := 21) d_D_push_20 rfl rfl rfl ?_
    refine Rj_iret d_D_push_21 rfl ?_
    refine Rj_aload_n (q := 1) d_M_push_0 rfl rfl rfl ?_
    refine Rj_iload_n (q := 2) d_M_push_1 rfl rfl rfl ?_
    refine Rj_iload_n (q := 3) d_M_push_2 rfl rfl rfl ?_
    refine Rj_vo (q := 6) (z := y_M_can) (as := [vI a, vI b]) (rest := []) (la := [vA 0, vI a, vI b]) oM_0_M_can ml_M_382 mw_M_can mv_M_can rfl d_M_push_3 rfl rfl rfl rfl rfl ?_
    refine Rj_aload_n (q := 1) d_M_can_0 rfl rfl rfl ?_
    refine Rj_iload_n (q := 2) d_M_can_1 rfl rfl rfl ?_
    refine Rj_vo (q := 5) (z := y_M_isDoor) (as := [vI a]) (rest := []) (la := [vA 0, vI a]) oM_0_M_isDoor ml_M_353 mw_M_isDoor mv_M_isDoor rfl d_M_can_2 rfl rfl rfl rfl rfl ?_
    refine s_M_isDoor hD (by first | assumption | omega) ?_
    refine Rj_b_eq (q := 8) (t := 24) d_M_can_5 rfl (by decide) (fun c3_5 => ?_) (fun c3_5 => ?_)
    · have c3_5 := of_decide_eq_false c3_5
      refine Rj_iconst (q := 25) d_M_can_24 rfl ?_
      refine Rj_iret d_M_can_25 rfl ?_
      refine Rj_istore_n (q := 7) (ls' := [vA 0, vI a, vI b, vI (-1)]) d_M_push_6 rfl rfl (by decide) rfl ?_
      refine Rj_iload_n (q := 8) d_M_push_7 rfl rfl rfl ?_
      refine Rj_if_le (q := 11) (t := 17) d_M_push_8 rfl (by decide) (by decide) (fun _ => ?_) (fun c => absurd c (by decide))
      refine Rj_iload_n (q := 18) d_M_push_17 rfl rfl rfl ?_
      refine Rj_iret d_M_push_18 rfl ?_
      exact ⟨sm_I rfl, hC1, kp0 _, kq0 _⟩
    · have c3_5 := of_decide_eq_true c3_5
      refine Rj_iload_n (q := 9) d_M_can_8 rfl rfl rfl ?_
      refine Rj_cs (q := 12) (z := y_M_isPush) (as := [vI b]) (rest := []) (la := [vI b]) ml_M_376 mw_M_isPush ms_M_isPush d_M_can_9 rfl rfl rfl rfl rfl ?_
      refine Rj_iload_n (q := 1) d_M_isPush_0 rfl rfl rfl ?_
      refine Rj_if_eq (q := 4) (t := 22) d_M_isPush_1 rfl (by decide) (by first | assumption | exact ⟨by omega, by omega⟩) (fun c3_9_1 => ?_) (fun c3_9_1 => ?_)
      · refine Rj_iconst (q := 23) d_M_isPush_22 rfl ?_
        refine Rj_bret0 d_M_isPush_23 rfl ?_
        refine Rj_if_eq (q := 15) (t := 24) d_M_can_12 rfl (by decide) (by decide) (fun _ => ?_) (fun c => absurd c (by decide))
        refine Rj_iconst (q := 25) d_M_can_24 rfl ?_
        refine Rj_iret d_M_can_25 rfl ?_
        refine Rj_istore_n (q := 7) (ls' := [vA 0, vI a, vI b, vI (-1)]) d_M_push_6 rfl rfl (by decide) rfl ?_
        refine Rj_iload_n (q := 8) d_M_push_7 rfl rfl rfl ?_
        refine Rj_if_le (q := 11) (t := 17) d_M_push_8 rfl (by decide) (by decide) (fun _ => ?_) (fun c => absurd c (by decide))
        refine Rj_iload_n (q := 18) d_M_push_17 rfl rfl rfl ?_
        refine Rj_iret d_M_push_18 rfl ?_
        exact ⟨sm_I rfl, hC1, kp0 _, kq0 _⟩
      · refine Rj_iload_n (q := 5) d_M_isPush_4 rfl rfl rfl ?_
        refine Rj_i2l (q := 6) d_M_isPush_5 rfl (by first | assumption | exact ⟨by omega, by omega⟩) ?_
        refine Rj_ldc2 (q := 9) k_M_372 d_M_isPush_6 rfl ?_
        refine Rj_ldc2 (q := 12) k_M_374 d_M_isPush_9 rfl ?_
        refine Rj_cs (q := 15) (z := y_M_in) (as := [vL b, vL (-60), vL 60]) (rest := []) (la := [vL b, vU, vL (-60), vU, vL 60, vU]) ml_M_138 mw_M_in ms_M_in d_M_isPush_12 rfl rfl rfl rfl rfl ?_
        refine s_M_in ⟨by omega, by omega⟩ (by decide) (by decide) ?_
        refine Rj_b_eq (q := 18) (t := 22) d_M_isPush_15 rfl (by decide) (fun c3_9_15 => ?_) (fun c3_9_15 => ?_)
        · have c3_9_15 := of_decide_eq_false c3_9_15
          refine Rj_iconst (q := 23) d_M_isPush_22 rfl ?_
          refine Rj_bret0 d_M_isPush_23 rfl ?_
          refine Rj_if_eq (q := 15) (t := 24) d_M_can_12 rfl (by decide) (by decide) (fun _ => ?_) (fun c => absurd c (by decide))
          refine Rj_iconst (q := 25) d_M_can_24 rfl ?_
          refine Rj_iret d_M_can_25 rfl ?_
          refine Rj_istore_n (q := 7) (ls' := [vA 0, vI a, vI b, vI (-1)]) d_M_push_6 rfl rfl (by decide) rfl ?_
          refine Rj_iload_n (q := 8) d_M_push_7 rfl rfl rfl ?_
          refine Rj_if_le (q := 11) (t := 17) d_M_push_8 rfl (by decide) (by decide) (fun _ => ?_) (fun c => absurd c (by decide))
          refine Rj_iload_n (q := 18) d_M_push_17 rfl rfl rfl ?_
          refine Rj_iret d_M_push_18 rfl ?_
          exact ⟨sm_I rfl, hC1, kp0 _, kq0 _⟩
        · have c3_9_15 := of_decide_eq_true c3_9_15
          refine Rj_iconst (q := 19) d_M_isPush_18 rfl ?_
          refine Rj_goto (t := 23) d_M_isPush_19 (by decide) ?_
          refine Rj_bret1 d_M_isPush_23 rfl ?_
          refine Rj_if_eq (q := 15) (t := 24) d_M_can_12 rfl (by decide) (by decide) (fun c => absurd c (by decide)) (fun _ => ?_)
          refine Rj_aload_n (q := 16) d_M_can_15 rfl rfl rfl ?_
          refine Rj_iload_n (q := 17) d_M_can_16 rfl rfl rfl ?_
          refine Rj_iload_n (q := 18) d_M_can_17 rfl rfl rfl ?_
          refine Rj_vo (q := 21) (z := y_M_pushes) (as := [vI a, vI b]) (rest := []) (la := [vA 0, vI a, vI b]) oM_0_M_pushes ml_M_379 mw_M_pushes mv_M_pushes rfl d_M_can_18 rfl rfl rfl rfl rfl ?_
          refine s_M_pushes hM ⟨by omega, by omega⟩ ⟨by omega, by omega⟩ ?_
          refine Rj_goto (t := 25) d_M_can_21 (by decide) ?_
          refine Rj_iret d_M_can_25 rfl ?_
          refine Rj_istore_n (q := 7) (ls' := [vA 0, vI a, vI b, vI (pushR (ν 11) (ν 14) (ν 15) (ν 16) (ν 17) (ν 12) (pts (ν 11)) a b)]) d_M_push_6 rfl rfl (by decide) rfl ?_
          refine Rj_iload_n (q := 8) d_M_push_7 rfl rfl rfl ?_
          refine Rj_if_le (q := 11) (t := 17) d_M_push_8 rfl (by decide) (by first | assumption | exact ⟨by omega, by omega⟩) (fun c8 => ?_) (fun c8 => ?_)
          · refine Rj_iload_n (q := 18) d_M_push_17 rfl rfl rfl ?_
            refine Rj_iret d_M_push_18 rfl ?_
            exact ⟨sm_I (by omega), hC1, kp0 _, kq0 _⟩
          · refine Rj_aload_n (q := 12) d_M_push_11 rfl rfl rfl ?_
            refine Rj_iload_n (q := 13) d_M_push_12 rfl rfl rfl ?_
            refine Rj_iload_n (q := 14) d_M_push_13 rfl rfl rfl ?_
            refine Rj_vov (q := 17) (z := y_M_turnsAll) (as := [vI a, vI b]) (rest := []) (la := [vA 0, vI a, vI b]) oM_0_M_turnsAll ml_M_385 mw_M_turnsAll mv_M_turnsAll rfl d_M_push_14 rfl rfl rfl rfl rfl ?_
            refine s_M_turnsAll hM ⟨by omega, by omega⟩ ⟨by omega, by omega⟩ (fun m14 f14 g14 => ?_)
            refine Rj_iload_n (q := 18) d_M_push_17 rfl rfl rfl ?_
            refine Rj_iret d_M_push_18 rfl ?_
            exfalso; omega
  · refine Rj_iload_n (q := 5) d_Sc_isDoor_4 rfl rfl rfl ?_
    refine Rj_aload_n (q := 6) d_Sc_isDoor_5 rfl rfl rfl ?_
    refine Rj_gi (q := 9) (ki := 0) (v := ν 11 0) gD_Sc_37_3 rfl rfl z2 d_Sc_isDoor_6 rfl ?_
    refine Rj_icmp_ge (q := 12) (t := 16) d_Sc_isDoor_9 rfl (by decide) (by first | assumption | exact ⟨by omega, by omega⟩) (by first | assumption | exact ⟨by omega, by omega⟩) (fun c3_5_9 => ?_) (fun c3_5_9 => ?_)
    · refine Rj_iconst (q := 17) d_Sc_isDoor_16 rfl ?_
      refine Rj_bret0 d_Sc_isDoor_17 rfl ?_
      refine Rj_if_eq (q := 11) (t := 24) d_D_can_8 rfl (by decide) (by decide) (fun _ => ?_) (fun c => absurd c (by decide))
      refine Rj_iconst (q := 25) d_D_can_24 rfl ?_
      refine Rj_iret d_D_can_25 rfl ?_
      refine Rj_istore_n (q := 7) (ls' := [vA 0, vI a, vI b, vI (-1)]) d_D_push_6 rfl rfl (by decide) rfl ?_
      refine Rj_iload_n (q := 8) d_D_push_7 rfl rfl rfl ?_
      refine Rj_if_le (q := 11) (t := 20) d_D_push_8 rfl (by decide) (by decide) (fun _ => ?_) (fun c => absurd c (by decide))
      refine Rj_iload_n (q := 21) d_D_push_20 rfl rfl rfl ?_
      refine Rj_iret d_D_push_21 rfl ?_
      refine Rj_aload_n (q := 1) d_M_push_0 rfl rfl rfl ?_
      refine Rj_iload_n (q := 2) d_M_push_1 rfl rfl rfl ?_
      refine Rj_iload_n (q := 3) d_M_push_2 rfl rfl rfl ?_
      refine Rj_vo (q := 6) (z := y_M_can) (as := [vI a, vI b]) (rest := []) (la := [vA 0, vI a, vI b]) oM_0_M_can ml_M_382 mw_M_can mv_M_can rfl d_M_push_3 rfl rfl rfl rfl rfl ?_
      refine Rj_aload_n (q := 1) d_M_can_0 rfl rfl rfl ?_
      refine Rj_iload_n (q := 2) d_M_can_1 rfl rfl rfl ?_
      refine Rj_vo (q := 5) (z := y_M_isDoor) (as := [vI a]) (rest := []) (la := [vA 0, vI a]) oM_0_M_isDoor ml_M_353 mw_M_isDoor mv_M_isDoor rfl d_M_can_2 rfl rfl rfl rfl rfl ?_
      refine s_M_isDoor hD (by first | assumption | omega) ?_
      refine Rj_b_eq (q := 8) (t := 24) d_M_can_5 rfl (by decide) (fun c3_5 => ?_) (fun c3_5 => ?_)
      · have c3_5 := of_decide_eq_false c3_5
        refine Rj_iconst (q := 25) d_M_can_24 rfl ?_
        refine Rj_iret d_M_can_25 rfl ?_
        refine Rj_istore_n (q := 7) (ls' := [vA 0, vI a, vI b, vI (-1)]) d_M_push_6 rfl rfl (by decide) rfl ?_
        refine Rj_iload_n (q := 8) d_M_push_7 rfl rfl rfl ?_
        refine Rj_if_le (q := 11) (t := 17) d_M_push_8 rfl (by decide) (by decide) (fun _ => ?_) (fun c => absurd c (by decide))
        refine Rj_iload_n (q := 18) d_M_push_17 rfl rfl rfl ?_
        refine Rj_iret d_M_push_18 rfl ?_
        exact ⟨sm_I rfl, hC1, kp0 _, kq0 _⟩
      · have c3_5 := of_decide_eq_true c3_5
        refine Rj_iload_n (q := 9) d_M_can_8 rfl rfl rfl ?_
        refine Rj_cs (q := 12) (z := y_M_isPush) (as := [vI b]) (rest := []) (la := [vI b]) ml_M_376 mw_M_isPush ms_M_isPush d_M_can_9 rfl rfl rfl rfl rfl ?_
        refine Rj_iload_n (q := 1) d_M_isPush_0 rfl rfl rfl ?_
        refine Rj_if_eq (q := 4) (t := 22) d_M_isPush_1 rfl (by decide) (by first | assumption | exact ⟨by omega, by omega⟩) (fun c3_9_1 => ?_) (fun c3_9_1 => ?_)
        · refine Rj_iconst (q := 23) d_M_isPush_22 rfl ?_
          refine Rj_bret0 d_M_isPush_23 rfl ?_
          refine Rj_if_eq (q := 15) (t := 24) d_M_can_12 rfl (by decide) (by decide) (fun _ => ?_) (fun c => absurd c (by decide))
          refine Rj_iconst (q := 25) d_M_can_24 rfl ?_
          refine Rj_iret d_M_can_25 rfl ?_
          refine Rj_istore_n (q := 7) (ls' := [vA 0, vI a, vI b, vI (-1)]) d_M_push_6 rfl rfl (by decide) rfl ?_
          refine Rj_iload_n (q := 8) d_M_push_7 rfl rfl rfl ?_
          refine Rj_if_le (q := 11) (t := 17) d_M_push_8 rfl (by decide) (by decide) (fun _ => ?_) (fun c => absurd c (by decide))
          refine Rj_iload_n (q := 18) d_M_push_17 rfl rfl rfl ?_
          refine Rj_iret d_M_push_18 rfl ?_
          exact ⟨sm_I rfl, hC1, kp0 _, kq0 _⟩
        · refine Rj_iload_n (q := 5) d_M_isPush_4 rfl rfl rfl ?_
          refine Rj_i2l (q := 6) d_M_isPush_5 rfl (by first | assumption | exact ⟨by omega, by omega⟩) ?_
          refine Rj_ldc2 (q := 9) k_M_372 d_M_isPush_6 rfl ?_
          refine Rj_ldc2 (q := 12) k_M_374 d_M_isPush_9 rfl ?_
          refine Rj_cs (q := 15) (z := y_M_in) (as := [vL b, vL (-60), vL 60]) (rest := []) (la := [vL b, vU, vL (-60), vU, vL 60, vU]) ml_M_138 mw_M_in ms_M_in d_M_isPush_12 rfl rfl rfl rfl rfl ?_
          refine s_M_in ⟨by omega, by omega⟩ (by decide) (by decide) ?_
          refine Rj_b_eq (q := 18) (t := 22) d_M_isPush_15 rfl (by decide) (fun c3_9_15 => ?_) (fun c3_9_15 => ?_)
          · have c3_9_15 := of_decide_eq_false c3_9_15
            refine Rj_iconst (q := 23) d_M_isPush_22 rfl ?_
            refine Rj_bret0 d_M_isPush_23 rfl ?_
            refine Rj_if_eq (q := 15) (t := 24) d_M_can_12 rfl (by decide) (by decide) (fun _ => ?_) (fun c => absurd c (by decide))
            refine Rj_iconst (q := 25) d_M_can_24 rfl ?_
            refine Rj_iret d_M_can_25 rfl ?_
            refine Rj_istore_n (q := 7) (ls' := [vA 0, vI a, vI b, vI (-1)]) d_M_push_6 rfl rfl (by decide) rfl ?_
            refine Rj_iload_n (q := 8) d_M_push_7 rfl rfl rfl ?_
            refine Rj_if_le (q := 11) (t := 17) d_M_push_8 rfl (by decide) (by decide) (fun _ => ?_) (fun c => absurd c (by decide))
            refine Rj_iload_n (q := 18) d_M_push_17 rfl rfl rfl ?_
            refine Rj_iret d_M_push_18 rfl ?_
            exact ⟨sm_I rfl, hC1, kp0 _, kq0 _⟩
          · have c3_9_15 := of_decide_eq_true c3_9_15
            refine Rj_iconst (q := 19) d_M_isPush_18 rfl ?_
            refine Rj_goto (t := 23) d_M_isPush_19 (by decide) ?_
            refine Rj_bret1 d_M_isPush_23 rfl ?_
            refine Rj_if_eq (q := 15) (t := 24) d_M_can_12 rfl (by decide) (by decide) (fun c => absurd c (by decide)) (fun _ => ?_)
            refine Rj_aload_n (q := 16) d_M_can_15 rfl rfl rfl ?_
            refine Rj_iload_n (q := 17) d_M_can_16 rfl rfl rfl ?_
            refine Rj_iload_n (q := 18) d_M_can_17 rfl rfl rfl ?_
            refine Rj_vo (q := 21) (z := y_M_pushes) (as := [vI a, vI b]) (rest := []) (la := [vA 0, vI a, vI b]) oM_0_M_pushes ml_M_379 mw_M_pushes mv_M_pushes rfl d_M_can_18 rfl rfl rfl rfl rfl ?_
            refine s_M_pushes hM ⟨by omega, by omega⟩ ⟨by omega, by omega⟩ ?_
            refine Rj_goto (t := 25) d_M_can_21 (by decide) ?_
            refine Rj_iret d_M_can_25 rfl ?_
            refine Rj_istore_n (q := 7) (ls' := [vA 0, vI a, vI b, vI (pushR (ν 11) (ν 14) (ν 15) (ν 16) (ν 17) (ν 12) (pts (ν 11)) a b)]) d_M_push_6 rfl rfl (by decide) rfl ?_
            refine Rj_iload_n (q := 8) d_M_push_7 rfl rfl rfl ?_
            refine Rj_if_le (q := 11) (t := 17) d_M_push_8 rfl (by decide) (by first | assumption | exact ⟨by omega, by omega⟩) (fun c8 => ?_) (fun c8 => ?_)
            · refine Rj_iload_n (q := 18) d_M_push_17 rfl rfl rfl ?_
              refine Rj_iret d_M_push_18 rfl ?_
              exact ⟨sm_I (by omega), hC1, kp0 _, kq0 _⟩
            · refine Rj_aload_n (q := 12) d_M_push_11 rfl rfl rfl ?_
              refine Rj_iload_n (q := 13) d_M_push_12 rfl rfl rfl ?_
              refine Rj_iload_n (q := 14) d_M_push_13 rfl rfl rfl ?_
              refine Rj_vov (q := 17) (z := y_M_turnsAll) (as := [vI a, vI b]) (rest := []) (la := [vA 0, vI a, vI b]) oM_0_M_turnsAll ml_M_385 mw_M_turnsAll mv_M_turnsAll rfl d_M_push_14 rfl rfl rfl rfl rfl ?_
              refine s_M_turnsAll hM ⟨by omega, by omega⟩ ⟨by omega, by omega⟩ (fun m14 f14 g14 => ?_)
              refine Rj_iload_n (q := 18) d_M_push_17 rfl rfl rfl ?_
              refine Rj_iret d_M_push_18 rfl ?_
              exfalso; omega
    · refine Rj_iconst (q := 13) d_Sc_isDoor_12 rfl ?_
      refine Rj_goto (t := 17) d_Sc_isDoor_13 (by decide) ?_
      refine Rj_bret1 d_Sc_isDoor_17 rfl ?_
      refine Rj_if_eq (q := 11) (t := 24) d_D_can_8 rfl (by decide) (by decide) (fun c => absurd c (by decide)) (fun _ => ?_)
      refine Rj_iload_n (q := 12) d_D_can_11 rfl rfl rfl ?_
      refine Rj_if_eq (q := 15) (t := 24) d_D_can_12 rfl (by decide) (by first | assumption | exact ⟨by omega, by omega⟩) (fun c3_12 => ?_) (fun c3_12 => ?_)
      · refine Rj_iconst (q := 25) d_D_can_24 rfl ?_
        refine Rj_iret d_D_can_25 rfl ?_
        refine Rj_istore_n (q := 7) (ls' := [vA 0, vI a, vI b, vI (-1)]) d_D_push_6 rfl rfl (by decide) rfl ?_
        refine Rj_iload_n (q := 8) d_D_push_7 rfl rfl rfl ?_
        refine Rj_if_le (q := 11) (t := 20) d_D_push_8 rfl (by decide) (by decide) (fun _ => ?_) (fun c => absurd c (by decide))
        refine Rj_iload_n (q := 21) d_D_push_20 rfl rfl rfl ?_
        refine Rj_iret d_D_push_21 rfl ?_
        refine Rj_aload_n (q := 1) d_M_push_0 rfl rfl rfl ?_
        refine Rj_iload_n (q := 2) d_M_push_1 rfl rfl rfl ?_
        refine Rj_iload_n (q := 3) d_M_push_2 rfl rfl rfl ?_
        refine Rj_vo (q := 6) (z := y_M_can) (as := [vI a, vI b]) (rest := []) (la := [vA 0, vI a, vI b]) oM_0_M_can ml_M_382 mw_M_can mv_M_can rfl d_M_push_3 rfl rfl rfl rfl rfl ?_
        refine Rj_aload_n (q := 1) d_M_can_0 rfl rfl rfl ?_
        refine Rj_iload_n (q := 2) d_M_can_1 rfl rfl rfl ?_
        refine Rj_vo (q := 5) (z := y_M_isDoor) (as := [vI a]) (rest := []) (la := [vA 0, vI a]) oM_0_M_isDoor ml_M_353 mw_M_isDoor mv_M_isDoor rfl d_M_can_2 rfl rfl rfl rfl rfl ?_
        refine s_M_isDoor hD (by first | assumption | omega) ?_
        refine Rj_b_eq (q := 8) (t := 24) d_M_can_5 rfl (by decide) (fun c3_5 => ?_) (fun c3_5 => ?_)
        · have c3_5 := of_decide_eq_false c3_5
          refine Rj_iconst (q := 25) d_M_can_24 rfl ?_
          refine Rj_iret d_M_can_25 rfl ?_
          refine Rj_istore_n (q := 7) (ls' := [vA 0, vI a, vI b, vI (-1)]) d_M_push_6 rfl rfl (by decide) rfl ?_
          refine Rj_iload_n (q := 8) d_M_push_7 rfl rfl rfl ?_
          refine Rj_if_le (q := 11) (t := 17) d_M_push_8 rfl (by decide) (by decide) (fun _ => ?_) (fun c => absurd c (by decide))
          refine Rj_iload_n (q := 18) d_M_push_17 rfl rfl rfl ?_
          refine Rj_iret d_M_push_18 rfl ?_
          exact ⟨sm_I rfl, hC1, kp0 _, kq0 _⟩
        · have c3_5 := of_decide_eq_true c3_5
          refine Rj_iload_n (q := 9) d_M_can_8 rfl rfl rfl ?_
          refine Rj_cs (q := 12) (z := y_M_isPush) (as := [vI b]) (rest := []) (la := [vI b]) ml_M_376 mw_M_isPush ms_M_isPush d_M_can_9 rfl rfl rfl rfl rfl ?_
          refine Rj_iload_n (q := 1) d_M_isPush_0 rfl rfl rfl ?_
          refine Rj_if_eq (q := 4) (t := 22) d_M_isPush_1 rfl (by decide) (by first | assumption | exact ⟨by omega, by omega⟩) (fun c3_9_1 => ?_) (fun c3_9_1 => ?_)
          · refine Rj_iconst (q := 23) d_M_isPush_22 rfl ?_
            refine Rj_bret0 d_M_isPush_23 rfl ?_
            refine Rj_if_eq (q := 15) (t := 24) d_M_can_12 rfl (by decide) (by decide) (fun _ => ?_) (fun c => absurd c (by decide))
            refine Rj_iconst (q := 25) d_M_can_24 rfl ?_
            refine Rj_iret d_M_can_25 rfl ?_
            refine Rj_istore_n (q := 7) (ls' := [vA 0, vI a, vI b, vI (-1)]) d_M_push_6 rfl rfl (by decide) rfl ?_
            refine Rj_iload_n (q := 8) d_M_push_7 rfl rfl rfl ?_
            refine Rj_if_le (q := 11) (t := 17) d_M_push_8 rfl (by decide) (by decide) (fun _ => ?_) (fun c => absurd c (by decide))
            refine Rj_iload_n (q := 18) d_M_push_17 rfl rfl rfl ?_
            refine Rj_iret d_M_push_18 rfl ?_
            exact ⟨sm_I rfl, hC1, kp0 _, kq0 _⟩
          · refine Rj_iload_n (q := 5) d_M_isPush_4 rfl rfl rfl ?_
            refine Rj_i2l (q := 6) d_M_isPush_5 rfl (by first | assumption | exact ⟨by omega, by omega⟩) ?_
            refine Rj_ldc2 (q := 9) k_M_372 d_M_isPush_6 rfl ?_
            refine Rj_ldc2 (q := 12) k_M_374 d_M_isPush_9 rfl ?_
            refine Rj_cs (q := 15) (z := y_M_in) (as := [vL b, vL (-60), vL 60]) (rest := []) (la := [vL b, vU, vL (-60), vU, vL 60, vU]) ml_M_138 mw_M_in ms_M_in d_M_isPush_12 rfl rfl rfl rfl rfl ?_
            refine s_M_in ⟨by omega, by omega⟩ (by decide) (by decide) ?_
            refine Rj_b_eq (q := 18) (t := 22) d_M_isPush_15 rfl (by decide) (fun c3_9_15 => ?_) (fun c3_9_15 => ?_)
            · have c3_9_15 := of_decide_eq_false c3_9_15
              refine Rj_iconst (q := 23) d_M_isPush_22 rfl ?_
              refine Rj_bret0 d_M_isPush_23 rfl ?_
              refine Rj_if_eq (q := 15) (t := 24) d_M_can_12 rfl (by decide) (by decide) (fun _ => ?_) (fun c => absurd c (by decide))
              refine Rj_iconst (q := 25) d_M_can_24 rfl ?_
              refine Rj_iret d_M_can_25 rfl ?_
              refine Rj_istore_n (q := 7) (ls' := [vA 0, vI a, vI b, vI (-1)]) d_M_push_6 rfl rfl (by decide) rfl ?_
              refine Rj_iload_n (q := 8) d_M_push_7 rfl rfl rfl ?_
              refine Rj_if_le (q := 11) (t := 17) d_M_push_8 rfl (by decide) (by decide) (fun _ => ?_) (fun c => absurd c (by decide))
              refine Rj_iload_n (q := 18) d_M_push_17 rfl rfl rfl ?_
              refine Rj_iret d_M_push_18 rfl ?_
              exact ⟨sm_I rfl, hC1, kp0 _, kq0 _⟩
            · have c3_9_15 := of_decide_eq_true c3_9_15
              refine Rj_iconst (q := 19) d_M_isPush_18 rfl ?_
              refine Rj_goto (t := 23) d_M_isPush_19 (by decide) ?_
              refine Rj_bret1 d_M_isPush_23 rfl ?_
              refine Rj_if_eq (q := 15) (t := 24) d_M_can_12 rfl (by decide) (by decide) (fun c => absurd c (by decide)) (fun _ => ?_)
              refine Rj_aload_n (q := 16) d_M_can_15 rfl rfl rfl ?_
              refine Rj_iload_n (q := 17) d_M_can_16 rfl rfl rfl ?_
              refine Rj_iload_n (q := 18) d_M_can_17 rfl rfl rfl ?_
              refine Rj_vo (q := 21) (z := y_M_pushes) (as := [vI a, vI b]) (rest := []) (la := [vA 0, vI a, vI b]) oM_0_M_pushes ml_M_379 mw_M_pushes mv_M_pushes rfl d_M_can_18 rfl rfl rfl rfl rfl ?_
              refine s_M_pushes hM ⟨by omega, by omega⟩ ⟨by omega, by omega⟩ ?_
              refine Rj_goto (t := 25) d_M_can_21 (by decide) ?_
              refine Rj_iret d_M_can_25 rfl ?_
              refine Rj_istore_n (q := 7) (ls' := [vA 0, vI a, vI b, vI (pushR (ν 11) (ν 14) (ν 15) (ν 16) (ν 17) (ν 12) (pts (ν 11)) a b)]) d_M_push_6 rfl rfl (by decide) rfl ?_
              refine Rj_iload_n (q := 8) d_M_push_7 rfl rfl rfl ?_
              refine Rj_if_le (q := 11) (t := 17) d_M_push_8 rfl (by decide) (by first | assumption | exact ⟨by omega, by omega⟩) (fun c8 => ?_) (fun c8 => ?_)
              · refine Rj_iload_n (q := 18) d_M_push_17 rfl rfl rfl ?_
                refine Rj_iret d_M_push_18 rfl ?_
                exact ⟨sm_I (by omega), hC1, kp0 _, kq0 _⟩
              · refine Rj_aload_n (q := 12) d_M_push_11 rfl rfl rfl ?_
                refine Rj_iload_n (q := 13) d_M_push_12 rfl rfl rfl ?_
                refine Rj_iload_n (q := 14) d_M_push_13 rfl rfl rfl ?_
                refine Rj_vov (q := 17) (z := y_M_turnsAll) (as := [vI a, vI b]) (rest := []) (la := [vA 0, vI a, vI b]) oM_0_M_turnsAll ml_M_385 mw_M_turnsAll mv_M_turnsAll rfl d_M_push_14 rfl rfl rfl rfl rfl ?_
                refine s_M_turnsAll hM ⟨by omega, by omega⟩ ⟨by omega, by omega⟩ (fun m14 f14 g14 => ?_)
                refine Rj_iload_n (q := 18) d_M_push_17 rfl rfl rfl ?_
                refine Rj_iret d_M_push_18 rfl ?_
                exfalso; omega
      · refine Rj_iload_n (q := 16) d_D_can_15 rfl rfl rfl ?_
        refine Rj_bipush (q := 18) d_D_can_16 rfl (by decide +kernel) ?_
        refine Rj_cs (q := 21) (z := y_D_isWithin) (as := [vI b, vI 60]) (rest := []) (la := [vI b, vI 60]) ml_D_209 mw_D_isWithin ms_D_isWithin d_D_can_18 rfl rfl rfl rfl rfl ?_
        refine Rj_iload_n (q := 1) d_D_isWithin_0 rfl rfl rfl ?_
        refine Rj_iload_n (q := 2) d_D_isWithin_1 rfl rfl rfl ?_
        refine Rj_ineg (q := 3) d_D_isWithin_2 rfl ?_
        refine Rj_icmp_lt (q := 6) (t := 15) d_D_isWithin_3 rfl (by decide) (by first | assumption | exact ⟨by omega, by omega⟩) (by decide) (fun c3_18_3 => ?_) (fun c3_18_3 => ?_)
        · refine Rj_iconst (q := 16) d_D_isWithin_15 rfl ?_
          refine Rj_bret0 d_D_isWithin_16 rfl ?_
          refine Rj_if_ne (q := 24) (t := 26) d_D_can_21 rfl (by decide) (by decide) (fun c => absurd c (by decide)) (fun _ => ?_)
          refine Rj_iconst (q := 25) d_D_can_24 rfl ?_
          refine Rj_iret d_D_can_25 rfl ?_
          refine Rj_istore_n (q := 7) (ls' := [vA 0, vI a, vI b, vI (-1)]) d_D_push_6 rfl rfl (by decide) rfl ?_
          refine Rj_iload_n (q := 8) d_D_push_7 rfl rfl rfl ?_
          refine Rj_if_le (q := 11) (t := 20) d_D_push_8 rfl (by decide) (by decide) (fun _ => ?_) (fun c => absurd c (by decide))
          refine Rj_iload_n (q := 21) d_D_push_20 rfl rfl rfl ?_
          refine Rj_iret d_D_push_21 rfl ?_
          refine Rj_aload_n (q := 1) d_M_push_0 rfl rfl rfl ?_
          refine Rj_iload_n (q := 2) d_M_push_1 rfl rfl rfl ?_
          refine Rj_iload_n (q := 3) d_M_push_2 rfl rfl rfl ?_
          refine Rj_vo (q := 6) (z := y_M_can) (as := [vI a, vI b]) (rest := []) (la := [vA 0, vI a, vI b]) oM_0_M_can ml_M_382 mw_M_can mv_M_can rfl d_M_push_3 rfl rfl rfl rfl rfl ?_
          refine Rj_aload_n (q := 1) d_M_can_0 rfl rfl rfl ?_
          refine Rj_iload_n (q := 2) d_M_can_1 rfl rfl rfl ?_
          refine Rj_vo (q := 5) (z := y_M_isDoor) (as := [vI a]) (rest := []) (la := [vA 0, vI a]) oM_0_M_isDoor ml_M_353 mw_M_isDoor mv_M_isDoor rfl d_M_can_2 rfl rfl rfl rfl rfl ?_
          refine s_M_isDoor hD (by first | assumption | omega) ?_
          refine Rj_b_eq (q := 8) (t := 24) d_M_can_5 rfl (by decide) (fun c3_5 => ?_) (fun c3_5 => ?_)
          · have c3_5 := of_decide_eq_false c3_5
            refine Rj_iconst (q := 25) d_M_can_24 rfl ?_
            refine Rj_iret d_M_can_25 rfl ?_
            refine Rj_istore_n (q := 7) (ls' := [vA 0, vI a, vI b, vI (-1)]) d_M_push_6 rfl rfl (by decide) rfl ?_
            refine Rj_iload_n (q := 8) d_M_push_7 rfl rfl rfl ?_
            refine Rj_if_le (q := 11) (t := 17) d_M_push_8 rfl (by decide) (by decide) (fun _ => ?_) (fun c => absurd c (by decide))
            refine Rj_iload_n (q := 18) d_M_push_17 rfl rfl rfl ?_
            refine Rj_iret d_M_push_18 rfl ?_
            exact ⟨sm_I rfl, hC1, kp0 _, kq0 _⟩
          · have c3_5 := of_decide_eq_true c3_5
            refine Rj_iload_n (q := 9) d_M_can_8 rfl rfl rfl ?_
            refine Rj_cs (q := 12) (z := y_M_isPush) (as := [vI b]) (rest := []) (la := [vI b]) ml_M_376 mw_M_isPush ms_M_isPush d_M_can_9 rfl rfl rfl rfl rfl ?_
            refine Rj_iload_n (q := 1) d_M_isPush_0 rfl rfl rfl ?_
            refine Rj_if_eq (q := 4) (t := 22) d_M_isPush_1 rfl (by decide) (by first | assumption | exact ⟨by omega, by omega⟩) (fun c3_9_1 => ?_) (fun c3_9_1 => ?_)
            · refine Rj_iconst (q := 23) d_M_isPush_22 rfl ?_
              refine Rj_bret0 d_M_isPush_23 rfl ?_
              refine Rj_if_eq (q := 15) (t := 24) d_M_can_12 rfl (by decide) (by decide) (fun _ => ?_) (fun c => absurd c (by decide))
              refine Rj_iconst (q := 25) d_M_can_24 rfl ?_
              refine Rj_iret d_M_can_25 rfl ?_
              refine Rj_istore_n (q := 7) (ls' := [vA 0, vI a, vI b, vI (-1)]) d_M_push_6 rfl rfl (by decide) rfl ?_
              refine Rj_iload_n (q := 8) d_M_push_7 rfl rfl rfl ?_
              refine Rj_if_le (q := 11) (t := 17) d_M_push_8 rfl (by decide) (by decide) (fun _ => ?_) (fun c => absurd c (by decide))
              refine Rj_iload_n (q := 18) d_M_push_17 rfl rfl rfl ?_
              refine Rj_iret d_M_push_18 rfl ?_
              exact ⟨sm_I rfl, hC1, kp0 _, kq0 _⟩
            · refine Rj_iload_n (q := 5) d_M_isPush_4 rfl rfl rfl ?_
              refine Rj_i2l (q := 6) d_M_isPush_5 rfl (by first | assumption | exact ⟨by omega, by omega⟩) ?_
              refine Rj_ldc2 (q := 9) k_M_372 d_M_isPush_6 rfl ?_
              refine Rj_ldc2 (q := 12) k_M_374 d_M_isPush_9 rfl ?_
              refine Rj_cs (q := 15) (z := y_M_in) (as := [vL b, vL (-60), vL 60]) (rest := []) (la := [vL b, vU, vL (-60), vU, vL 60, vU]) ml_M_138 mw_M_in ms_M_in d_M_isPush_12 rfl rfl rfl rfl rfl ?_
              refine s_M_in ⟨by omega, by omega⟩ (by decide) (by decide) ?_
              refine Rj_b_eq (q := 18) (t := 22) d_M_isPush_15 rfl (by decide) (fun c3_9_15 => ?_) (fun c3_9_15 => ?_)
              · have c3_9_15 := of_decide_eq_false c3_9_15
                refine Rj_iconst (q := 23) d_M_isPush_22 rfl ?_
                refine Rj_bret0 d_M_isPush_23 rfl ?_
                refine Rj_if_eq (q := 15) (t := 24) d_M_can_12 rfl (by decide) (by decide) (fun _ => ?_) (fun c => absurd c (by decide))
                refine Rj_iconst (q := 25) d_M_can_24 rfl ?_
                refine Rj_iret d_M_can_25 rfl ?_
                refine Rj_istore_n (q := 7) (ls' := [vA 0, vI a, vI b, vI (-1)]) d_M_push_6 rfl rfl (by decide) rfl ?_
                refine Rj_iload_n (q := 8) d_M_push_7 rfl rfl rfl ?_
                refine Rj_if_le (q := 11) (t := 17) d_M_push_8 rfl (by decide) (by decide) (fun _ => ?_) (fun c => absurd c (by decide))
                refine Rj_iload_n (q := 18) d_M_push_17 rfl rfl rfl ?_
                refine Rj_iret d_M_push_18 rfl ?_
                exact ⟨sm_I rfl, hC1, kp0 _, kq0 _⟩
              · have c3_9_15 := of_decide_eq_true c3_9_15
                refine Rj_iconst (q := 19) d_M_isPush_18 rfl ?_
                refine Rj_goto (t := 23) d_M_isPush_19 (by decide) ?_
                refine Rj_bret1 d_M_isPush_23 rfl ?_
                refine Rj_if_eq (q := 15) (t := 24) d_M_can_12 rfl (by decide) (by decide) (fun c => absurd c (by decide)) (fun _ => ?_)
                refine Rj_aload_n (q := 16) d_M_can_15 rfl rfl rfl ?_
                refine Rj_iload_n (q := 17) d_M_can_16 rfl rfl rfl ?_
                refine Rj_iload_n (q := 18) d_M_can_17 rfl rfl rfl ?_
                refine Rj_vo (q := 21) (z := y_M_pushes) (as := [vI a, vI b]) (rest := []) (la := [vA 0, vI a, vI b]) oM_0_M_pushes ml_M_379 mw_M_pushes mv_M_pushes rfl d_M_can_18 rfl rfl rfl rfl rfl ?_
                refine s_M_pushes hM ⟨by omega, by omega⟩ ⟨by omega, by omega⟩ ?_
                refine Rj_goto (t := 25) d_M_can_21 (by decide) ?_
                refine Rj_iret d_M_can_25 rfl ?_
                refine Rj_istore_n (q := 7) (ls' := [vA 0, vI a, vI b, vI (pushR (ν 11) (ν 14) (ν 15) (ν 16) (ν 17) (ν 12) (pts (ν 11)) a b)]) d_M_push_6 rfl rfl (by decide) rfl ?_
                refine Rj_iload_n (q := 8) d_M_push_7 rfl rfl rfl ?_
                refine Rj_if_le (q := 11) (t := 17) d_M_push_8 rfl (by decide) (by first | assumption | exact ⟨by omega, by omega⟩) (fun c8 => ?_) (fun c8 => ?_)
                · refine Rj_iload_n (q := 18) d_M_push_17 rfl rfl rfl ?_
                  refine Rj_iret d_M_push_18 rfl ?_
                  exact ⟨sm_I (by omega), hC1, kp0 _, kq0 _⟩
                · refine Rj_aload_n (q := 12) d_M_push_11 rfl rfl rfl ?_
                  refine Rj_iload_n (q := 13) d_M_push_12 rfl rfl rfl ?_
                  refine Rj_iload_n (q := 14) d_M_push_13 rfl rfl rfl ?_
                  refine Rj_vov (q := 17) (z := y_M_turnsAll) (as := [vI a, vI b]) (rest := []) (la := [vA 0, vI a, vI b]) oM_0_M_turnsAll ml_M_385 mw_M_turnsAll mv_M_turnsAll rfl d_M_push_14 rfl rfl rfl rfl rfl ?_
                  refine s_M_turnsAll hM ⟨by omega, by omega⟩ ⟨by omega, by omega⟩ (fun m14 f14 g14 => ?_)
                  refine Rj_iload_n (q := 18) d_M_push_17 rfl rfl rfl ?_
                  refine Rj_iret d_M_push_18 rfl ?_
                  exfalso; omega
        · refine Rj_iload_n (q := 7) d_D_isWithin_6 rfl rfl rfl ?_
          refine Rj_iload_n (q := 8) d_D_isWithin_7 rfl rfl rfl ?_
          refine Rj_icmp_gt (q := 11) (t := 15) d_D_isWithin_8 rfl (by decide) (by first | assumption | exact ⟨by omega, by omega⟩) (by decide) (fun c3_18_8 => ?_) (fun c3_18_8 => ?_)
          · refine Rj_iconst (q := 16) d_D_isWithin_15 rfl ?_
            refine Rj_bret0 d_D_isWithin_16 rfl ?_
            refine Rj_if_ne (q := 24) (t := 26) d_D_can_21 rfl (by decide) (by decide) (fun c => absurd c (by decide)) (fun _ => ?_)
            refine Rj_iconst (q := 25) d_D_can_24 rfl ?_
            refine Rj_iret d_D_can_25 rfl ?_
            refine Rj_istore_n (q := 7) (ls' := [vA 0, vI a, vI b, vI (-1)]) d_D_push_6 rfl rfl (by decide) rfl ?_
            refine Rj_iload_n (q := 8) d_D_push_7 rfl rfl rfl ?_
            refine Rj_if_le (q := 11) (t := 20) d_D_push_8 rfl (by decide) (by decide) (fun _ => ?_) (fun c => absurd c (by decide))
            refine Rj_iload_n (q := 21) d_D_push_20 rfl rfl rfl ?_
            refine Rj_iret d_D_push_21 rfl ?_
            refine Rj_aload_n (q := 1) d_M_push_0 rfl rfl rfl ?_
            refine Rj_iload_n (q := 2) d_M_push_1 rfl rfl rfl ?_
            refine Rj_iload_n (q := 3) d_M_push_2 rfl rfl rfl ?_
            refine Rj_vo (q := 6) (z := y_M_can) (as := [vI a, vI b]) (rest := []) (la := [vA 0, vI a, vI b]) oM_0_M_can ml_M_382 mw_M_can mv_M_can rfl d_M_push_3 rfl rfl rfl rfl rfl ?_
            refine Rj_aload_n (q := 1) d_M_can_0 rfl rfl rfl ?_
            refine Rj_iload_n (q := 2) d_M_can_1 rfl rfl rfl ?_
            refine Rj_vo (q := 5) (z := y_M_isDoor) (as := [vI a]) (rest := []) (la := [vA 0, vI a]) oM_0_M_isDoor ml_M_353 mw_M_isDoor mv_M_isDoor rfl d_M_can_2 rfl rfl rfl rfl rfl ?_
            refine s_M_isDoor hD (by first | assumption | omega) ?_
            refine Rj_b_eq (q := 8) (t := 24) d_M_can_5 rfl (by decide) (fun c3_5 => ?_) (fun c3_5 => ?_)
            · have c3_5 := of_decide_eq_false c3_5
              refine Rj_iconst (q := 25) d_M_can_24 rfl ?_
              refine Rj_iret d_M_can_25 rfl ?_
              refine Rj_istore_n (q := 7) (ls' := [vA 0, vI a, vI b, vI (-1)]) d_M_push_6 rfl rfl (by decide) rfl ?_
              refine Rj_iload_n (q := 8) d_M_push_7 rfl rfl rfl ?_
              refine Rj_if_le (q := 11) (t := 17) d_M_push_8 rfl (by decide) (by decide) (fun _ => ?_) (fun c => absurd c (by decide))
              refine Rj_iload_n (q := 18) d_M_push_17 rfl rfl rfl ?_
              refine Rj_iret d_M_push_18 rfl ?_
              exact ⟨sm_I rfl, hC1, kp0 _, kq0 _⟩
            · have c3_5 := of_decide_eq_true c3_5
              refine Rj_iload_n (q := 9) d_M_can_8 rfl rfl rfl ?_
              refine Rj_cs (q := 12) (z := y_M_isPush) (as := [vI b]) (rest := []) (la := [vI b]) ml_M_376 mw_M_isPush ms_M_isPush d_M_can_9 rfl rfl rfl rfl rfl ?_
              refine Rj_iload_n (q := 1) d_M_isPush_0 rfl rfl rfl ?_
              refine Rj_if_eq (q := 4) (t := 22) d_M_isPush_1 rfl (by decide) (by first | assumption | exact ⟨by omega, by omega⟩) (fun c3_9_1 => ?_) (fun c3_9_1 => ?_)
              · refine Rj_iconst (q := 23) d_M_isPush_22 rfl ?_
                refine Rj_bret0 d_M_isPush_23 rfl ?_
                refine Rj_if_eq (q := 15) (t := 24) d_M_can_12 rfl (by decide) (by decide) (fun _ => ?_) (fun c => absurd c (by decide))
                refine Rj_iconst (q := 25) d_M_can_24 rfl ?_
                refine Rj_iret d_M_can_25 rfl ?_
                refine Rj_istore_n (q := 7) (ls' := [vA 0, vI a, vI b, vI (-1)]) d_M_push_6 rfl rfl (by decide) rfl ?_
                refine Rj_iload_n (q := 8) d_M_push_7 rfl rfl rfl ?_
                refine Rj_if_le (q := 11) (t := 17) d_M_push_8 rfl (by decide) (by decide) (fun _ => ?_) (fun c => absurd c (by decide))
                refine Rj_iload_n (q := 18) d_M_push_17 rfl rfl rfl ?_
                refine Rj_iret d_M_push_18 rfl ?_
                exact ⟨sm_I rfl, hC1, kp0 _, kq0 _⟩
              · refine Rj_iload_n (q := 5) d_M_isPush_4 rfl rfl rfl ?_
                refine Rj_i2l (q := 6) d_M_isPush_5 rfl (by first | assumption | exact ⟨by omega, by omega⟩) ?_
                refine Rj_ldc2 (q := 9) k_M_372 d_M_isPush_6 rfl ?_
                refine Rj_ldc2 (q := 12) k_M_374 d_M_isPush_9 rfl ?_
                refine Rj_cs (q := 15) (z := y_M_in) (as := [vL b, vL (-60), vL 60]) (rest := []) (la := [vL b, vU, vL (-60), vU, vL 60, vU]) ml_M_138 mw_M_in ms_M_in d_M_isPush_12 rfl rfl rfl rfl rfl ?_
                refine s_M_in ⟨by omega, by omega⟩ (by decide) (by decide) ?_
                refine Rj_b_eq (q := 18) (t := 22) d_M_isPush_15 rfl (by decide) (fun c3_9_15 => ?_) (fun c3_9_15 => ?_)
                · have c3_9_15 := of_decide_eq_false c3_9_15
                  refine Rj_iconst (q := 23) d_M_isPush_22 rfl ?_
                  refine Rj_bret0 d_M_isPush_23 rfl ?_
                  refine Rj_if_eq (q := 15) (t := 24) d_M_can_12 rfl (by decide) (by decide) (fun _ => ?_) (fun c => absurd c (by decide))
                  refine Rj_iconst (q := 25) d_M_can_24 rfl ?_
                  refine Rj_iret d_M_can_25 rfl ?_
                  refine Rj_istore_n (q := 7) (ls' := [vA 0, vI a, vI b, vI (-1)]) d_M_push_6 rfl rfl (by decide) rfl ?_
                  refine Rj_iload_n (q := 8) d_M_push_7 rfl rfl rfl ?_
                  refine Rj_if_le (q := 11) (t := 17) d_M_push_8 rfl (by decide) (by decide) (fun _ => ?_) (fun c => absurd c (by decide))
                  refine Rj_iload_n (q := 18) d_M_push_17 rfl rfl rfl ?_
                  refine Rj_iret d_M_push_18 rfl ?_
                  exact ⟨sm_I rfl, hC1, kp0 _, kq0 _⟩
                · have c3_9_15 := of_decide_eq_true c3_9_15
                  refine Rj_iconst (q := 19) d_M_isPush_18 rfl ?_
                  refine Rj_goto (t := 23) d_M_isPush_19 (by decide) ?_
                  refine Rj_bret1 d_M_isPush_23 rfl ?_
                  refine Rj_if_eq (q := 15) (t := 24) d_M_can_12 rfl (by decide) (by decide) (fun c => absurd c (by decide)) (fun _ => ?_)
                  refine Rj_aload_n (q := 16) d_M_can_15 rfl rfl rfl ?_
                  refine Rj_iload_n (q := 17) d_M_can_16 rfl rfl rfl ?_
                  refine Rj_iload_n (q := 18) d_M_can_17 rfl rfl rfl ?_
                  refine Rj_vo (q := 21) (z := y_M_pushes) (as := [vI a, vI b]) (rest := []) (la := [vA 0, vI a, vI b]) oM_0_M_pushes ml_M_379 mw_M_pushes mv_M_pushes rfl d_M_can_18 rfl rfl rfl rfl rfl ?_
                  refine s_M_pushes hM ⟨by omega, by omega⟩ ⟨by omega, by omega⟩ ?_
                  refine Rj_goto (t := 25) d_M_can_21 (by decide) ?_
                  refine Rj_iret d_M_can_25 rfl ?_
                  refine Rj_istore_n (q := 7) (ls' := [vA 0, vI a, vI b, vI (pushR (ν 11) (ν 14) (ν 15) (ν 16) (ν 17) (ν 12) (pts (ν 11)) a b)]) d_M_push_6 rfl rfl (by decide) rfl ?_
                  refine Rj_iload_n (q := 8) d_M_push_7 rfl rfl rfl ?_
                  refine Rj_if_le (q := 11) (t := 17) d_M_push_8 rfl (by decide) (by first | assumption | exact ⟨by omega, by omega⟩) (fun c8 => ?_) (fun c8 => ?_)
                  · refine Rj_iload_n (q := 18) d_M_push_17 rfl rfl rfl ?_
                    refine Rj_iret d_M_push_18 rfl ?_
                    exact ⟨sm_I (by omega), hC1, kp0 _, kq0 _⟩
                  · refine Rj_aload_n (q := 12) d_M_push_11 rfl rfl rfl ?_
                    refine Rj_iload_n (q := 13) d_M_push_12 rfl rfl rfl ?_
                    refine Rj_iload_n (q := 14) d_M_push_13 rfl rfl rfl ?_
                    refine Rj_vov (q := 17) (z := y_M_turnsAll) (as := [vI a, vI b]) (rest := []) (la := [vA 0, vI a, vI b]) oM_0_M_turnsAll ml_M_385 mw_M_turnsAll mv_M_turnsAll rfl d_M_push_14 rfl rfl rfl rfl rfl ?_
                    refine s_M_turnsAll hM ⟨by omega, by omega⟩ ⟨by omega, by omega⟩ (fun m14 f14 g14 => ?_)
                    refine Rj_iload_n (q := 18) d_M_push_17 rfl rfl rfl ?_
                    refine Rj_iret d_M_push_18 rfl ?_
                    exfalso; omega
          · refine Rj_iconst (q := 12) d_D_isWithin_11 rfl ?_
            refine Rj_goto (t := 16) d_D_isWithin_12 (by decide) ?_
            refine Rj_bret1 d_D_isWithin_16 rfl ?_
            refine Rj_if_ne (q := 24) (t := 26) d_D_can_21 rfl (by decide) (by decide) (fun _ => ?_) (fun c => absurd c (by decide))
            refine Rj_aload_n (q := 27) d_D_can_26 rfl rfl rfl ?_
            refine Rj_gr (q := 30) (zd := 59) gD_D_45_0 rfl rfl d_D_can_27 rfl ?_
            refine Rj_iload_n (q := 31) d_D_can_30 rfl rfl rfl ?_
            refine Rj_iload_n (q := 32) d_D_can_31 rfl rfl rfl ?_
            refine Rj_vo (q := 35) (z := y_Ge_tryPush) (as := [vI a, vI b]) (rest := []) (la := [vA 59, vI a, vI b]) oD_59_Ge_tryPush ml_D_213 mw_Ge_tryPush mv_Ge_tryPush rfl d_D_can_32 rfl rfl rfl rfl rfl ?_
            refine s_tryPush h ⟨by omega, by omega⟩ ⟨by omega, by omega⟩ ?_
            refine Rj_iret d_D_can_35 rfl ?_
            refine Rj_istore_n (q := 7) (ls' := [vA 0, vI a, vI b, vI (pushR (ν 11) (ν 14) (ν 15) (ν 16) (ν 17) (ν 12) (pts (ν 11)) a b)]) d_D_push_6 rfl rfl (by decide) rfl ?_
            refine Rj_iload_n (q := 8) d_D_push_7 rfl rfl rfl ?_
            refine Rj_if_le (q := 11) (t := 20) d_D_push_8 rfl (by decide) (by first | assumption | exact ⟨by omega, by omega⟩) (fun c8 => ?_) (fun c8 => ?_)
            · refine Rj_iload_n (q := 21) d_D_push_20 rfl rfl rfl ?_
              refine Rj_iret d_D_push_21 rfl ?_
              refine Rj_aload_n (q := 1) d_M_push_0 rfl rfl rfl ?_
              refine Rj_iload_n (q := 2) d_M_push_1 rfl rfl rfl ?_
              refine Rj_iload_n (q := 3) d_M_push_2 rfl rfl rfl ?_
              refine Rj_vo (q := 6) (z := y_M_can) (as := [vI a, vI b]) (rest := []) (la := [vA 0, vI a, vI b]) oM_0_M_can ml_M_382 mw_M_can mv_M_can rfl d_M_push_3 rfl rfl rfl rfl rfl ?_
              refine Rj_aload_n (q := 1) d_M_can_0 rfl rfl rfl ?_
              refine Rj_iload_n (q := 2) d_M_can_1 rfl rfl rfl ?_
              refine Rj_vo (q := 5) (z := y_M_isDoor) (as := [vI a]) (rest := []) (la := [vA 0, vI a]) oM_0_M_isDoor ml_M_353 mw_M_isDoor mv_M_isDoor rfl d_M_can_2 rfl rfl rfl rfl rfl ?_
              refine s_M_isDoor hD (by first | assumption | omega) ?_
              refine Rj_b_eq (q := 8) (t := 24) d_M_can_5 rfl (by decide) (fun c3_5 => ?_) (fun c3_5 => ?_)
              · have c3_5 := of_decide_eq_false c3_5
                refine Rj_iconst (q := 25) d_M_can_24 rfl ?_
                refine Rj_iret d_M_can_25 rfl ?_
                refine Rj_istore_n (q := 7) (ls' := [vA 0, vI a, vI b, vI (-1)]) d_M_push_6 rfl rfl (by decide) rfl ?_
                refine Rj_iload_n (q := 8) d_M_push_7 rfl rfl rfl ?_
                refine Rj_if_le (q := 11) (t := 17) d_M_push_8 rfl (by decide) (by decide) (fun _ => ?_) (fun c => absurd c (by decide))
                refine Rj_iload_n (q := 18) d_M_push_17 rfl rfl rfl ?_
                refine Rj_iret d_M_push_18 rfl ?_
                exact ⟨sm_I (by omega), hC1, kp0 _, kq0 _⟩
              · have c3_5 := of_decide_eq_true c3_5
                refine Rj_iload_n (q := 9) d_M_can_8 rfl rfl rfl ?_
                refine Rj_cs (q := 12) (z := y_M_isPush) (as := [vI b]) (rest := []) (la := [vI b]) ml_M_376 mw_M_isPush ms_M_isPush d_M_can_9 rfl rfl rfl rfl rfl ?_
                refine Rj_iload_n (q := 1) d_M_isPush_0 rfl rfl rfl ?_
                refine Rj_if_eq (q := 4) (t := 22) d_M_isPush_1 rfl (by decide) (by first | assumption | exact ⟨by omega, by omega⟩) (fun c3_9_1 => ?_) (fun c3_9_1 => ?_)
                · refine Rj_iconst (q := 23) d_M_isPush_22 rfl ?_
                  refine Rj_bret0 d_M_isPush_23 rfl ?_
                  refine Rj_if_eq (q := 15) (t := 24) d_M_can_12 rfl (by decide) (by decide) (fun _ => ?_) (fun c => absurd c (by decide))
                  refine Rj_iconst (q := 25) d_M_can_24 rfl ?_
                  refine Rj_iret d_M_can_25 rfl ?_
                  refine Rj_istore_n (q := 7) (ls' := [vA 0, vI a, vI b, vI (-1)]) d_M_push_6 rfl rfl (by decide) rfl ?_
                  refine Rj_iload_n (q := 8) d_M_push_7 rfl rfl rfl ?_
                  refine Rj_if_le (q := 11) (t := 17) d_M_push_8 rfl (by decide) (by decide) (fun _ => ?_) (fun c => absurd c (by decide))
                  refine Rj_iload_n (q := 18) d_M_push_17 rfl rfl rfl ?_
                  refine Rj_iret d_M_push_18 rfl ?_
                  exact ⟨sm_I (by omega), hC1, kp0 _, kq0 _⟩
                · refine Rj_iload_n (q := 5) d_M_isPush_4 rfl rfl rfl ?_
                  refine Rj_i2l (q := 6) d_M_isPush_5 rfl (by first | assumption | exact ⟨by omega, by omega⟩) ?_
                  refine Rj_ldc2 (q := 9) k_M_372 d_M_isPush_6 rfl ?_
                  refine Rj_ldc2 (q := 12) k_M_374 d_M_isPush_9 rfl ?_
                  refine Rj_cs (q := 15) (z := y_M_in) (as := [vL b, vL (-60), vL 60]) (rest := []) (la := [vL b, vU, vL (-60), vU, vL 60, vU]) ml_M_138 mw_M_in ms_M_in d_M_isPush_12 rfl rfl rfl rfl rfl ?_
                  refine s_M_in ⟨by omega, by omega⟩ (by decide) (by decide) ?_
                  refine Rj_b_eq (q := 18) (t := 22) d_M_isPush_15 rfl (by decide) (fun c3_9_15 => ?_) (fun c3_9_15 => ?_)
                  · have c3_9_15 := of_decide_eq_false c3_9_15
                    refine Rj_iconst (q := 23) d_M_isPush_22 rfl ?_
                    refine Rj_bret0 d_M_isPush_23 rfl ?_
                    refine Rj_if_eq (q := 15) (t := 24) d_M_can_12 rfl (by decide) (by decide) (fun _ => ?_) (fun c => absurd c (by decide))
                    refine Rj_iconst (q := 25) d_M_can_24 rfl ?_
                    refine Rj_iret d_M_can_25 rfl ?_
                    refine Rj_istore_n (q := 7) (ls' := [vA 0, vI a, vI b, vI (-1)]) d_M_push_6 rfl rfl (by decide) rfl ?_
                    refine Rj_iload_n (q := 8) d_M_push_7 rfl rfl rfl ?_
                    refine Rj_if_le (q := 11) (t := 17) d_M_push_8 rfl (by decide) (by decide) (fun _ => ?_) (fun c => absurd c (by decide))
                    refine Rj_iload_n (q := 18) d_M_push_17 rfl rfl rfl ?_
                    refine Rj_iret d_M_push_18 rfl ?_
                    exact ⟨sm_I (by omega), hC1, kp0 _, kq0 _⟩
                  · have c3_9_15 := of_decide_eq_true c3_9_15
                    refine Rj_iconst (q := 19) d_M_isPush_18 rfl ?_
                    refine Rj_goto (t := 23) d_M_isPush_19 (by decide) ?_
                    refine Rj_bret1 d_M_isPush_23 rfl ?_
                    refine Rj_if_eq (q := 15) (t := 24) d_M_can_12 rfl (by decide) (by decide) (fun c => absurd c (by decide)) (fun _ => ?_)
                    refine Rj_aload_n (q := 16) d_M_can_15 rfl rfl rfl ?_
                    refine Rj_iload_n (q := 17) d_M_can_16 rfl rfl rfl ?_
                    refine Rj_iload_n (q := 18) d_M_can_17 rfl rfl rfl ?_
                    refine Rj_vo (q := 21) (z := y_M_pushes) (as := [vI a, vI b]) (rest := []) (la := [vA 0, vI a, vI b]) oM_0_M_pushes ml_M_379 mw_M_pushes mv_M_pushes rfl d_M_can_18 rfl rfl rfl rfl rfl ?_
                    refine s_M_pushes hM ⟨by omega, by omega⟩ ⟨by omega, by omega⟩ ?_
                    refine Rj_goto (t := 25) d_M_can_21 (by decide) ?_
                    refine Rj_iret d_M_can_25 rfl ?_
                    refine Rj_istore_n (q := 7) (ls' := [vA 0, vI a, vI b, vI (pushR (ν 11) (ν 14) (ν 15) (ν 16) (ν 17) (ν 12) (pts (ν 11)) a b)]) d_M_push_6 rfl rfl (by decide) rfl ?_
                    refine Rj_iload_n (q := 8) d_M_push_7 rfl rfl rfl ?_
                    refine Rj_if_le (q := 11) (t := 17) d_M_push_8 rfl (by decide) (by first | assumption | exact ⟨by omega, by omega⟩) (fun c8 => ?_) (fun c8 => ?_)
                    · refine Rj_iload_n (q := 18) d_M_push_17 rfl rfl rfl ?_
                      refine Rj_iret d_M_push_18 rfl ?_
                      exact ⟨sm_I rfl, hC1, kp0 _, kq0 _⟩
                    · refine Rj_aload_n (q := 12) d_M_push_11 rfl rfl rfl ?_
                      refine Rj_iload_n (q := 13) d_M_push_12 rfl rfl rfl ?_
                      refine Rj_iload_n (q := 14) d_M_push_13 rfl rfl rfl ?_
                      refine Rj_vov (q := 17) (z := y_M_turnsAll) (as := [vI a, vI b]) (rest := []) (la := [vA 0, vI a, vI b]) oM_0_M_turnsAll ml_M_385 mw_M_turnsAll mv_M_turnsAll rfl d_M_push_14 rfl rfl rfl rfl rfl ?_
                      refine s_M_turnsAll hM ⟨by omega, by omega⟩ ⟨by omega, by omega⟩ (fun m14 f14 g14 => ?_)
                      refine Rj_iload_n (q := 18) d_M_push_17 rfl rfl rfl ?_
                      refine Rj_iret d_M_push_18 rfl ?_
                      exfalso; omega
            · refine Rj_aload_n (q := 12) d_D_push_11 rfl rfl rfl ?_
              refine Rj_gr (q := 15) (zd := 59) gD_D_45_0 rfl rfl d_D_push_12 rfl ?_
              refine Rj_iload_n (q := 16) d_D_push_15 rfl rfl rfl ?_
              refine Rj_iload_n (q := 17) d_D_push_16 rfl rfl rfl ?_
              refine Rj_vov (q := 20) (z := y_Ge_turnSet) (as := [vI a, vI b]) (rest := []) (la := [vA 59, vI a, vI b]) oD_59_Ge_turnSet ml_D_205 mw_Ge_turnSet mv_Ge_turnSet rfl d_D_push_17 rfl rfl rfl rfl rfl ?_
              have okp := push_ok z0.2 (show 0 < pushR (ν 11) (ν 14) (ν 15) (ν 16) (ν 17) (ν 12) (pts (ν 11)) a b by omega)
              have lkz : ν 17 a = 0 := (hH.2 a (by omega) (by omega)).1.resolve_right okp.1
              have bkn := PBK_trn (pl := ν 12) (p := a) (n := b) hS hH ⟨by omega, by omega⟩ ⟨by omega, by omega⟩ hBK
              refine s_turnSet h ⟨by omega, by omega⟩ ⟨by omega, by omega⟩ lkz (fun d d0 d1 => by have := bkn d d0 d1; omega) (fun m17 f17 g17 => ?_)
              refine Rj_iload_n (q := 21) d_D_push_20 rfl rfl rfl ?_
              refine Rj_iret d_D_push_21 rfl ?_
              refine Rj_aload_n (q := 1) d_M_push_0 rfl rfl rfl ?_
              refine Rj_iload_n (q := 2) d_M_push_1 rfl rfl rfl ?_
              refine Rj_iload_n (q := 3) d_M_push_2 rfl rfl rfl ?_
              refine Rj_vo (q := 6) (z := y_M_can) (as := [vI a, vI b]) (rest := []) (la := [vA 0, vI a, vI b]) oM_0_M_can ml_M_382 mw_M_can mv_M_can rfl d_M_push_3 rfl rfl rfl rfl rfl ?_
              refine Rj_aload_n (q := 1) d_M_can_0 rfl rfl rfl ?_
              refine Rj_iload_n (q := 2) d_M_can_1 rfl rfl rfl ?_
              refine Rj_vo (q := 5) (z := y_M_isDoor) (as := [vI a]) (rest := []) (la := [vA 0, vI a]) oM_0_M_isDoor ml_M_353 mw_M_isDoor mv_M_isDoor rfl d_M_can_2 rfl rfl rfl rfl rfl ?_
              refine s_M_isDoor hD (by first | assumption | omega) ?_
              refine Rj_b_eq (q := 8) (t := 24) d_M_can_5 rfl (by decide) (fun c3_5 => ?_) (fun c3_5 => ?_)
              · have c3_5 := of_decide_eq_false c3_5
                refine Rj_iconst (q := 25) d_M_can_24 rfl ?_
                refine Rj_iret d_M_can_25 rfl ?_
                refine Rj_istore_n (q := 7) (ls' := [vA 0, vI a, vI b, vI (-1)]) d_M_push_6 rfl rfl (by decide) rfl ?_
                refine Rj_iload_n (q := 8) d_M_push_7 rfl rfl rfl ?_
                refine Rj_if_le (q := 11) (t := 17) d_M_push_8 rfl (by decide) (by decide) (fun _ => ?_) (fun c => absurd c (by decide))
                refine Rj_iload_n (q := 18) d_M_push_17 rfl rfl rfl ?_
                refine Rj_iret d_M_push_18 rfl ?_
                exfalso; omega
              · have c3_5 := of_decide_eq_true c3_5
                refine Rj_iload_n (q := 9) d_M_can_8 rfl rfl rfl ?_
                refine Rj_cs (q := 12) (z := y_M_isPush) (as := [vI b]) (rest := []) (la := [vI b]) ml_M_376 mw_M_isPush ms_M_isPush d_M_can_9 rfl rfl rfl rfl rfl ?_
                refine Rj_iload_n (q := 1) d_M_isPush_0 rfl rfl rfl ?_
                refine Rj_if_eq (q := 4) (t := 22) d_M_isPush_1 rfl (by decide) (by first | assumption | exact ⟨by omega, by omega⟩) (fun c3_9_1 => ?_) (fun c3_9_1 => ?_)
                · refine Rj_iconst (q := 23) d_M_isPush_22 rfl ?_
                  refine Rj_bret0 d_M_isPush_23 rfl ?_
                  refine Rj_if_eq (q := 15) (t := 24) d_M_can_12 rfl (by decide) (by decide) (fun _ => ?_) (fun c => absurd c (by decide))
                  refine Rj_iconst (q := 25) d_M_can_24 rfl ?_
                  refine Rj_iret d_M_can_25 rfl ?_
                  refine Rj_istore_n (q := 7) (ls' := [vA 0, vI a, vI b, vI (-1)]) d_M_push_6 rfl rfl (by decide) rfl ?_
                  refine Rj_iload_n (q := 8) d_M_push_7 rfl rfl rfl ?_
                  refine Rj_if_le (q := 11) (t := 17) d_M_push_8 rfl (by decide) (by decide) (fun _ => ?_) (fun c => absurd c (by decide))
                  refine Rj_iload_n (q := 18) d_M_push_17 rfl rfl rfl ?_
                  refine Rj_iret d_M_push_18 rfl ?_
                  exfalso; omega
                · refine Rj_iload_n (q := 5) d_M_isPush_4 rfl rfl rfl ?_
                  refine Rj_i2l (q := 6) d_M_isPush_5 rfl (by first | assumption | exact ⟨by omega, by omega⟩) ?_
                  refine Rj_ldc2 (q := 9) k_M_372 d_M_isPush_6 rfl ?_
                  refine Rj_ldc2 (q := 12) k_M_374 d_M_isPush_9 rfl ?_
                  refine Rj_cs (q := 15) (z := y_M_in) (as := [vL b, vL (-60), vL 60]) (rest := []) (la := [vL b, vU, vL (-60), vU, vL 60, vU]) ml_M_138 mw_M_in ms_M_in d_M_isPush_12 rfl rfl rfl rfl rfl ?_
                  refine s_M_in ⟨by omega, by omega⟩ (by decide) (by decide) ?_
                  refine Rj_b_eq (q := 18) (t := 22) d_M_isPush_15 rfl (by decide) (fun c3_9_15 => ?_) (fun c3_9_15 => ?_)
                  · have c3_9_15 := of_decide_eq_false c3_9_15
                    refine Rj_iconst (q := 23) d_M_isPush_22 rfl ?_
                    refine Rj_bret0 d_M_isPush_23 rfl ?_
                    refine Rj_if_eq (q := 15) (t := 24) d_M_can_12 rfl (by decide) (by decide) (fun _ => ?_) (fun c => absurd c (by decide))
                    refine Rj_iconst (q := 25) d_M_can_24 rfl ?_
                    refine Rj_iret d_M_can_25 rfl ?_
                    refine Rj_istore_n (q := 7) (ls' := [vA 0, vI a, vI b, vI (-1)]) d_M_push_6 rfl rfl (by decide) rfl ?_
                    refine Rj_iload_n (q := 8) d_M_push_7 rfl rfl rfl ?_
                    refine Rj_if_le (q := 11) (t := 17) d_M_push_8 rfl (by decide) (by decide) (fun _ => ?_) (fun c => absurd c (by decide))
                    refine Rj_iload_n (q := 18) d_M_push_17 rfl rfl rfl ?_
                    refine Rj_iret d_M_push_18 rfl ?_
                    exfalso; omega
                  · have c3_9_15 := of_decide_eq_true c3_9_15
                    refine Rj_iconst (q := 19) d_M_isPush_18 rfl ?_
                    refine Rj_goto (t := 23) d_M_isPush_19 (by decide) ?_
                    refine Rj_bret1 d_M_isPush_23 rfl ?_
                    refine Rj_if_eq (q := 15) (t := 24) d_M_can_12 rfl (by decide) (by decide) (fun c => absurd c (by decide)) (fun _ => ?_)
                    refine Rj_aload_n (q := 16) d_M_can_15 rfl rfl rfl ?_
                    refine Rj_iload_n (q := 17) d_M_can_16 rfl rfl rfl ?_
                    refine Rj_iload_n (q := 18) d_M_can_17 rfl rfl rfl ?_
                    refine Rj_vo (q := 21) (z := y_M_pushes) (as := [vI a, vI b]) (rest := []) (la := [vA 0, vI a, vI b]) oM_0_M_pushes ml_M_379 mw_M_pushes mv_M_pushes rfl d_M_can_18 rfl rfl rfl rfl rfl ?_
                    refine s_M_pushes hM ⟨by omega, by omega⟩ ⟨by omega, by omega⟩ ?_
                    refine Rj_goto (t := 25) d_M_can_21 (by decide) ?_
                    refine Rj_iret d_M_can_25 rfl ?_
                    refine Rj_istore_n (q := 7) (ls' := [vA 0, vI a, vI b, vI (pushR (ν 11) (ν 14) (ν 15) (ν 16) (ν 17) (ν 12) (pts (ν 11)) a b)]) d_M_push_6 rfl rfl (by decide) rfl ?_
                    refine Rj_iload_n (q := 8) d_M_push_7 rfl rfl rfl ?_
                    refine Rj_if_le (q := 11) (t := 17) d_M_push_8 rfl (by decide) (by first | assumption | exact ⟨by omega, by omega⟩) (fun c8 => ?_) (fun c8 => ?_)
                    · refine Rj_iload_n (q := 18) d_M_push_17 rfl rfl rfl ?_
                      refine Rj_iret d_M_push_18 rfl ?_
                      exfalso; omega
                    · refine Rj_aload_n (q := 12) d_M_push_11 rfl rfl rfl ?_
                      refine Rj_iload_n (q := 13) d_M_push_12 rfl rfl rfl ?_
                      refine Rj_iload_n (q := 14) d_M_push_13 rfl rfl rfl ?_
                      refine Rj_vov (q := 17) (z := y_M_turnsAll) (as := [vI a, vI b]) (rest := []) (la := [vA 0, vI a, vI b]) oM_0_M_turnsAll ml_M_385 mw_M_turnsAll mv_M_turnsAll rfl d_M_push_14 rfl rfl rfl rfl rfl ?_
                      refine s_M_turnsAll hM ⟨by omega, by omega⟩ ⟨by omega, by omega⟩ (fun m14 f14 g14 => ?_)
                      refine Rj_iload_n (q := 18) d_M_push_17 rfl rfl rfl ?_
                      refine Rj_iret d_M_push_18 rfl ?_
                      refine ⟨sm_I rfl, hC.moved (fun c i q1 q2 => f17 c i q1) (fun c i q1 q2 => f14 c i q1) (by rw [g14]; exact g17) (by rw [g14]; exact SB_trn hSB okp.2) (fun d d0 d1 => ?_), fun c i q => f17 c i (by omega), fun c i q => f14 c i (by omega)⟩
                      rw [g14]
                      have := bkn d d0 d1
                      omega
set_option maxHeartbeats 8000000 in
theorem C_slip {n : Nat} {μ ν : Mem} {a b : Int} (hC : Cor n μ ν) (hn : n ≤ 511) (ha : i32 a) (hb : i32 b)  : Rj YD y_D_slip 0 [vA 0, vI a, vI b] [] μ (fun r μ' => Rj YM y_M_slip 0 [vA 0, vI a, vI b] [] ν (fun r' ν' => Sm 1 r' r ∧ Cor (n + 1) μ' ν' ∧ Kp μ μ' ∧ Kq ν ν')) := by
  obtain ⟨hTP, hK, hSc, h, hM, hSB, hBK, hIM⟩ := id hC
  have hC1 := hC.next
  obtain ⟨z0, z1, z2, z3, z4, z5, z6, z7⟩ := h.z
  obtain ⟨hS, hH, hP, hB, hFx⟩ := id hM
  have hD := z0
  have hJ := z1
  refine Rj_aload_n (q := 1) d_D_slip_0 rfl rfl rfl ?_
  refine Rj_gr (q := 4) (zd := 3) gD_D_25_0 rfl rfl d_D_slip_1 rfl ?_
  refine Rj_iload_n (q := 5) d_D_slip_4 rfl rfl rfl ?_
  refine Rj_vo (q := 8) (z := y_Sc_isDoor) (as := [vI a]) (rest := []) (la := [vA 3, vI a]) oD_3_Sc_isDoor ml_D_144 mw_Sc_isDoor mv_Sc_isDoor rfl d_D_slip_5 rfl rfl rfl rfl rfl ?_
  refine Rj_iload_n (q := 1) d_Sc_isDoor_0 rfl rfl rfl ?_
  refine Rj_if_lt (q := 4) (t := 16) d_Sc_isDoor_1 rfl (by decide) (by first | assumption | exact ⟨by omega, by omega⟩) (fun c5_1 => ?_) (fun c5_1 => ?_)
  · refine Rj_iconst (q := 17) d_Sc_isDoor_16 rfl ?_
    refine Rj_bret0 d_Sc_isDoor_17 rfl ?_
    refine Rj_if_eq (q := 11) (t := 20) d_D_slip_8 rfl (by decide) (by decide) (fun _ => ?_) (fun c => absurd c (by decide))
    refine Rj_iconst (q := 21) d_D_slip_20 rfl ?_
    refine Rj_bret0 d_D_slip_21 rfl ?_
    refine Rj_aload_n (q := 1) d_M_slip_0 rfl rfl rfl ?_
    refine Rj_iload_n (q := 2) d_M_slip_1 rfl rfl rfl ?_
    refine Rj_vo (q := 5) (z := y_M_isDoor) (as := [vI a]) (rest := []) (la := [vA 0, vI a]) oM_0_M_isDoor ml_M_353 mw_M_isDoor mv_M_isDoor rfl d_M_slip_2 rfl rfl rfl rfl rfl ?_
    refine s_M_isDoor hD (by first | assumption | omega) ?_
    refine Rj_b_eq (q := 8) (t := 44) d_M_slip_5 rfl (by decide) (fun c5 => ?_) (fun c5 => ?_)
    · have c5 := of_decide_eq_false c5
      refine Rj_iconst (q := 45) d_M_slip_44 rfl ?_
      refine Rj_bret0 d_M_slip_45 rfl ?_
      exact ⟨sm_I (by omega), hC1, kp0 _, kq0 _⟩
    · have c5 := of_decide_eq_true c5
      refine Rj_iload_n (q := 9) d_M_slip_8 rfl rfl rfl ?_
      refine Rj_i2l (q := 10) d_M_slip_9 rfl (by first | assumption | exact ⟨by omega, by omega⟩) ?_
      refine Rj_ldc2 (q := 13) k_M_372 d_M_slip_10 rfl ?_
      refine Rj_ldc2 (q := 16) k_M_374 d_M_slip_13 rfl ?_
      refine Rj_cs (q := 19) (z := y_M_in) (as := [vL b, vL (-60), vL 60]) (rest := []) (la := [vL b, vU, vL (-60), vU, vL 60, vU]) ml_M_138 mw_M_in ms_M_in d_M_slip_16 rfl rfl rfl rfl rfl ?_
      refine s_M_in ⟨by omega, by omega⟩ (by decide) (by decide) ?_
      refine Rj_b_eq (q := 22) (t := 44) d_M_slip_19 rfl (by decide) (fun c19 => ?_) (fun c19 => ?_)
      · have c19 := of_decide_eq_false c19
        refine Rj_iconst (q := 45) d_M_slip_44 rfl ?_
        refine Rj_bret0 d_M_slip_45 rfl ?_
        exact ⟨sm_I (by omega), hC1, kp0 _, kq0 _⟩
      · have c19 := of_decide_eq_true c19
        refine Rj_aload_n (q := 23) d_M_slip_22 rfl rfl rfl ?_
        refine Rj_iload_n (q := 24) d_M_slip_23 rfl rfl rfl ?_
        refine Rj_aload_n (q := 25) d_M_slip_24 rfl rfl rfl ?_
        refine Rj_gr (q := 28) (zd := 12) gM_M_45_0 rfl rfl d_M_slip_25 rfl ?_
        refine Rj_iload_n (q := 29) d_M_slip_28 rfl rfl rfl ?_
        refine Rj_la (q := 30) (v := ν 12 a) aM_12 rfl (by omega) rfl d_M_slip_29 rfl ?_
        refine Rj_iload_n (q := 31) d_M_slip_30 rfl rfl rfl ?_
        refine Rj_i2l (q := 32) d_M_slip_31 rfl (by first | assumption | exact ⟨by omega, by omega⟩) ?_
        refine Rj_aload_n (q := 33) d_M_slip_32 rfl rfl rfl ?_
        refine Rj_gl (q := 36) (ki := 32) (v := pts (ν 11)) gM_M_64_0 rfl rfl hP d_M_slip_33 rfl ?_
        refine Rj_lmul (q := 37) d_M_slip_36 rfl ?_
        refine Rj_ladd (q := 38) d_M_slip_37 rfl ?_
        refine Rj_vo (q := 41) (z := y_M_isBeyond) (as := [vI a, vL ((ν 12 a) + (b * (pts (ν 11))))]) (rest := []) (la := [vA 0, vI a, vL ((ν 12 a) + (b * (pts (ν 11)))), vU]) oM_0_M_isBeyond ml_M_369 mw_M_isBeyond mv_M_isBeyond rfl d_M_slip_38 rfl rfl rfl rfl rfl ?_
        refine s_M_isBeyond hM ⟨by omega, by omega⟩ (by omega) ?_
        refine Rj_b_eq (q := 44) (t := 46) d_M_slip_41 rfl (by decide) (fun c41 => ?_) (fun c41 => ?_)
        · refine Rj_aload_n (q := 47) d_M_slip_46 rfl rfl rfl ?_
          refine Rj_gr (q := 50) (zd := 12) gM_M_45_0 rfl rfl d_M_slip_47 rfl ?_
          refine Rj_iload_n (q := 51) d_M_slip_50 rfl rfl rfl ?_
          refine Rj_dup2 (q := 52) d_M_slip_51 rfl (by intro h; cases h) (by intro h; cases h) ?_
          refine Rj_la (q := 53) (v := ν 12 a) aM_12 rfl (by omega) rfl d_M_slip_52 rfl ?_
          refine Rj_iload_n (q := 54) d_M_slip_53 rfl rfl rfl ?_
          refine Rj_i2l (q := 55) d_M_slip_54 rfl (by first | assumption | exact ⟨by omega, by omega⟩) ?_
          refine Rj_aload_n (q := 56) d_M_slip_55 rfl rfl rfl ?_
          refine Rj_gl (q := 59) (ki := 32) (v := pts (ν 11)) gM_M_64_0 rfl rfl hP d_M_slip_56 rfl ?_
          refine Rj_lmul (q := 60) d_M_slip_59 rfl ?_
          refine Rj_ladd (q := 61) d_M_slip_60 rfl ?_
          refine Rj_lst (q := 62) aM_12 rfl (by omega) d_M_slip_61 rfl ?_
          refine Rj_iconst (q := 63) d_M_slip_62 rfl ?_
          refine Rj_bret1 d_M_slip_63 rfl ?_
          first | (exfalso; omega; done) | exact absurd (nb.symm.trans c41) (by decide) | exact absurd (c41.symm.trans nb) (by decide)
        · refine Rj_iconst (q := 45) d_M_slip_44 rfl ?_
          refine Rj_bret0 d_M_slip_45 rfl ?_
          exact ⟨sm_I (by omega), hC1, kp0 _, kq0 _⟩
  · refine Rj_iload_n (q := 5) d_Sc_isDoor_4 rfl rfl rfl ?_
    refine Rj_aload_n (q := 6) d_Sc_isDoor_5 rfl rfl rfl ?_
    refine Rj_gi (q := 9) (ki := 0) (v := ν 11 0) gD_Sc_37_3 rfl rfl z2 d_Sc_isDoor_6 rfl ?_
    refine Rj_icmp_ge (q := 12) (t := 16) d_Sc_isDoor_9 rfl (by decide) (by first | assumption | exact ⟨by omega, by omega⟩) (by first | assumption | exact ⟨by omega, by omega⟩) (fun c5_9 => ?_) (fun c5_9 => ?_)
    · refine Rj_iconst (q := 17) d_Sc_isDoor_16 rfl ?_
      refine Rj_bret0 d_Sc_isDoor_17 rfl ?_
      refine Rj_if_eq (q := 11) (t := 20) d_D_slip_8 rfl (by decide) (by decide) (fun _ => ?_) (fun c => absurd c (by decide))
      refine Rj_iconst (q := 21) d_D_slip_20 rfl ?_
      refine Rj_bret0 d_D_slip_21 rfl ?_
      refine Rj_aload_n (q := 1) d_M_slip_0 rfl rfl rfl ?_
      refine Rj_iload_n (q := 2) d_M_slip_1 rfl rfl rfl ?_
      refine Rj_vo (q := 5) (z := y_M_isDoor) (as := [vI a]) (rest := []) (la := [vA 0, vI a]) oM_0_M_isDoor ml_M_353 mw_M_isDoor mv_M_isDoor rfl d_M_slip_2 rfl rfl rfl rfl rfl ?_
      refine s_M_isDoor hD (by first | assumption | omega) ?_
      refine Rj_b_eq (q := 8) (t := 44) d_M_slip_5 rfl (by decide) (fun c5 => ?_) (fun c5 => ?_)
      · have c5 := of_decide_eq_false c5
        refine Rj_iconst (q := 45) d_M_slip_44 rfl ?_
        refine Rj_bret0 d_M_slip_45 rfl ?_
        exact ⟨sm_I (by omega), hC1, kp0 _, kq0 _⟩
      · have c5 := of_decide_eq_true c5
        refine Rj_iload_n (q := 9) d_M_slip_8 rfl rfl rfl ?_
        refine Rj_i2l (q := 10) d_M_slip_9 rfl (by first | assumption | exact ⟨by omega, by omega⟩) ?_
        refine Rj_ldc2 (q := 13) k_M_372 d_M_slip_10 rfl ?_
        refine Rj_ldc2 (q := 16) k_M_374 d_M_slip_13 rfl ?_
        refine Rj_cs (q := 19) (z := y_M_in) (as := [vL b, vL (-60), vL 60]) (rest := []) (la := [vL b, vU, vL (-60), vU, vL 60, vU]) ml_M_138 mw_M_in ms_M_in d_M_slip_16 rfl rfl rfl rfl rfl ?_
        refine s_M_in ⟨by omega, by omega⟩ (by decide) (by decide) ?_
        refine Rj_b_eq (q := 22) (t := 44) d_M_slip_19 rfl (by decide) (fun c19 => ?_) (fun c19 => ?_)
        · have c19 := of_decide_eq_false c19
          refine Rj_iconst (q := 45) d_M_slip_44 rfl ?_
          refine Rj_bret0 d_M_slip_45 rfl ?_
          exact ⟨sm_I (by omega), hC1, kp0 _, kq0 _⟩
        · have c19 := of_decide_eq_true c19
          refine Rj_aload_n (q := 23) d_M_slip_22 rfl rfl rfl ?_
          refine Rj_iload_n (q := 24) d_M_slip_23 rfl rfl rfl ?_
          refine Rj_aload_n (q := 25) d_M_slip_24 rfl rfl rfl ?_
          refine Rj_gr (q := 28) (zd := 12) gM_M_45_0 rfl rfl d_M_slip_25 rfl ?_
          refine Rj_iload_n (q := 29) d_M_slip_28 rfl rfl rfl ?_
          refine Rj_la (q := 30) (v := ν 12 a) aM_12 rfl (by omega) rfl d_M_slip_29 rfl ?_
          refine Rj_iload_n (q := 31) d_M_slip_30 rfl rfl rfl ?_
          refine Rj_i2l (q := 32) d_M_slip_31 rfl (by first | assumption | exact ⟨by omega, by omega⟩) ?_
          refine Rj_aload_n (q := 33) d_M_slip_32 rfl rfl rfl ?_
          refine Rj_gl (q := 36) (ki := 32) (v := pts (ν 11)) gM_M_64_0 rfl rfl hP d_M_slip_33 rfl ?_
          refine Rj_lmul (q := 37) d_M_slip_36 rfl ?_
          refine Rj_ladd (q := 38) d_M_slip_37 rfl ?_
          refine Rj_vo (q := 41) (z := y_M_isBeyond) (as := [vI a, vL ((ν 12 a) + (b * (pts (ν 11))))]) (rest := []) (la := [vA 0, vI a, vL ((ν 12 a) + (b * (pts (ν 11)))), vU]) oM_0_M_isBeyond ml_M_369 mw_M_isBeyond mv_M_isBeyond rfl d_M_slip_38 rfl rfl rfl rfl rfl ?_
          refine s_M_isBeyond hM ⟨by omega, by omega⟩ (by omega) ?_
          refine Rj_b_eq (q := 44) (t := 46) d_M_slip_41 rfl (by decide) (fun c41 => ?_) (fun c41 => ?_)
          · refine Rj_aload_n (q := 47) d_M_slip_46 rfl rfl rfl ?_
            refine Rj_gr (q := 50) (zd := 12) gM_M_45_0 rfl rfl d_M_slip_47 rfl ?_
            refine Rj_iload_n (q := 51) d_M_slip_50 rfl rfl rfl ?_
            refine Rj_dup2 (q := 52) d_M_slip_51 rfl (by intro h; cases h) (by intro h; cases h) ?_
            refine Rj_la (q := 53) (v := ν 12 a) aM_12 rfl (by omega) rfl d_M_slip_52 rfl ?_
            refine Rj_iload_n (q := 54) d_M_slip_53 rfl rfl rfl ?_
            refine Rj_i2l (q := 55) d_M_slip_54 rfl (by first | assumption | exact ⟨by omega, by omega⟩) ?_
            refine Rj_aload_n (q := 56) d_M_slip_55 rfl rfl rfl ?_
            refine Rj_gl (q := 59) (ki := 32) (v := pts (ν 11)) gM_M_64_0 rfl rfl hP d_M_slip_56 rfl ?_
            refine Rj_lmul (q := 60) d_M_slip_59 rfl ?_
            refine Rj_ladd (q := 61) d_M_slip_60 rfl ?_
            refine Rj_lst (q := 62) aM_12 rfl (by omega) d_M_slip_61 rfl ?_
            refine Rj_iconst (q := 63) d_M_slip_62 rfl ?_
            refine Rj_bret1 d_M_slip_63 rfl ?_
            first | (exfalso; omega; done) | exact absurd (nb.symm.trans c41) (by decide) | exact absurd (c41.symm.trans nb) (by decide)
          · refine Rj_iconst (q := 45) d_M_slip_44 rfl ?_
            refine Rj_bret0 d_M_slip_45 rfl ?_
            exact ⟨sm_I (by omega), hC1, kp0 _, kq0 _⟩
    · refine Rj_iconst (q := 13) d_Sc_isDoor_12 rfl ?_
      refine Rj_goto (t := 17) d_Sc_isDoor_13 (by decide) ?_
      refine Rj_bret1 d_Sc_isDoor_17 rfl ?_
      refine Rj_if_eq (q := 11) (t := 20) d_D_slip_8 rfl (by decide) (by decide) (fun c => absurd c (by decide)) (fun _ => ?_)
      refine Rj_iload_n (q := 12) d_D_slip_11 rfl rfl rfl ?_
      refine Rj_bipush (q := 14) d_D_slip_12 rfl (by decide +kernel) ?_
      refine Rj_cs (q := 17) (z := y_D_isWithin) (as := [vI b, vI 60]) (rest := []) (la := [vI b, vI 60]) ml_D_209 mw_D_isWithin ms_D_isWithin d_D_slip_14 rfl rfl rfl rfl rfl ?_
      refine Rj_iload_n (q := 1) d_D_isWithin_0 rfl rfl rfl ?_
      refine Rj_iload_n (q := 2) d_D_isWithin_1 rfl rfl rfl ?_
      refine Rj_ineg (q := 3) d_D_isWithin_2 rfl ?_
      refine Rj_icmp_lt (q := 6) (t := 15) d_D_isWithin_3 rfl (by decide) (by first | assumption | exact ⟨by omega, by omega⟩) (by decide) (fun c14_3 => ?_) (fun c14_3 => ?_)
      · refine Rj_iconst (q := 16) d_D_isWithin_15 rfl ?_
        refine Rj_bret0 d_D_isWithin_16 rfl ?_
        refine Rj_if_ne (q := 20) (t := 22) d_D_slip_17 rfl (by decide) (by decide) (fun c => absurd c (by decide)) (fun _ => ?_)
        refine Rj_iconst (q := 21) d_D_slip_20 rfl ?_
        refine Rj_bret0 d_D_slip_21 rfl ?_
        refine Rj_aload_n (q := 1) d_M_slip_0 rfl rfl rfl ?_
        refine Rj_iload_n (q := 2) d_M_slip_1 rfl rfl rfl ?_
        refine Rj_vo (q := 5) (z := y_M_isDoor) (as := [vI a]) (rest := []) (la := [vA 0, vI a]) oM_0_M_isDoor ml_M_353 mw_M_isDoor mv_M_isDoor rfl d_M_slip_2 rfl rfl rfl rfl rfl ?_
        refine s_M_isDoor hD (by first | assumption | omega) ?_
        refine Rj_b_eq (q := 8) (t := 44) d_M_slip_5 rfl (by decide) (fun c5 => ?_) (fun c5 => ?_)
        · have c5 := of_decide_eq_false c5
          refine Rj_iconst (q := 45) d_M_slip_44 rfl ?_
          refine Rj_bret0 d_M_slip_45 rfl ?_
          exact ⟨sm_I (by omega), hC1, kp0 _, kq0 _⟩
        · have c5 := of_decide_eq_true c5
          refine Rj_iload_n (q := 9) d_M_slip_8 rfl rfl rfl ?_
          refine Rj_i2l (q := 10) d_M_slip_9 rfl (by first | assumption | exact ⟨by omega, by omega⟩) ?_
          refine Rj_ldc2 (q := 13) k_M_372 d_M_slip_10 rfl ?_
          refine Rj_ldc2 (q := 16) k_M_374 d_M_slip_13 rfl ?_
          refine Rj_cs (q := 19) (z := y_M_in) (as := [vL b, vL (-60), vL 60]) (rest := []) (la := [vL b, vU, vL (-60), vU, vL 60, vU]) ml_M_138 mw_M_in ms_M_in d_M_slip_16 rfl rfl rfl rfl rfl ?_
          refine s_M_in ⟨by omega, by omega⟩ (by decide) (by decide) ?_
          refine Rj_b_eq (q := 22) (t := 44) d_M_slip_19 rfl (by decide) (fun c19 => ?_) (fun c19 => ?_)
          · have c19 := of_decide_eq_false c19
            refine Rj_iconst (q := 45) d_M_slip_44 rfl ?_
            refine Rj_bret0 d_M_slip_45 rfl ?_
            exact ⟨sm_I (by omega), hC1, kp0 _, kq0 _⟩
          · have c19 := of_decide_eq_true c19
            refine Rj_aload_n (q := 23) d_M_slip_22 rfl rfl rfl ?_
            refine Rj_iload_n (q := 24) d_M_slip_23 rfl rfl rfl ?_
            refine Rj_aload_n (q := 25) d_M_slip_24 rfl rfl rfl ?_
            refine Rj_gr (q := 28) (zd := 12) gM_M_45_0 rfl rfl d_M_slip_25 rfl ?_
            refine Rj_iload_n (q := 29) d_M_slip_28 rfl rfl rfl ?_
            refine Rj_la (q := 30) (v := ν 12 a) aM_12 rfl (by omega) rfl d_M_slip_29 rfl ?_
            refine Rj_iload_n (q := 31) d_M_slip_30 rfl rfl rfl ?_
            refine Rj_i2l (q := 32) d_M_slip_31 rfl (by first | assumption | exact ⟨by omega, by omega⟩) ?_
            refine Rj_aload_n (q := 33) d_M_slip_32 rfl rfl rfl ?_
            refine Rj_gl (q := 36) (ki := 32) (v := pts (ν 11)) gM_M_64_0 rfl rfl hP d_M_slip_33 rfl ?_
            refine Rj_lmul (q := 37) d_M_slip_36 rfl ?_
            refine Rj_ladd (q := 38) d_M_slip_37 rfl ?_
            refine Rj_vo (q := 41) (z := y_M_isBeyond) (as := [vI a, vL ((ν 12 a) + (b * (pts (ν 11))))]) (rest := []) (la := [vA 0, vI a, vL ((ν 12 a) + (b * (pts (ν 11)))), vU]) oM_0_M_isBeyond ml_M_369 mw_M_isBeyond mv_M_isBeyond rfl d_M_slip_38 rfl rfl rfl rfl rfl ?_
            refine s_M_isBeyond hM ⟨by omega, by omega⟩ (by omega) ?_
            refine Rj_b_eq (q := 44) (t := 46) d_M_slip_41 rfl (by decide) (fun c41 => ?_) (fun c41 => ?_)
            · refine Rj_aload_n (q := 47) d_M_slip_46 rfl rfl rfl ?_
              refine Rj_gr (q := 50) (zd := 12) gM_M_45_0 rfl rfl d_M_slip_47 rfl ?_
              refine Rj_iload_n (q := 51) d_M_slip_50 rfl rfl rfl ?_
              refine Rj_dup2 (q := 52) d_M_slip_51 rfl (by intro h; cases h) (by intro h; cases h) ?_
              refine Rj_la (q := 53) (v := ν 12 a) aM_12 rfl (by omega) rfl d_M_slip_52 rfl ?_
              refine Rj_iload_n (q := 54) d_M_slip_53 rfl rfl rfl ?_
              refine Rj_i2l (q := 55) d_M_slip_54 rfl (by first | assumption | exact ⟨by omega, by omega⟩) ?_
              refine Rj_aload_n (q := 56) d_M_slip_55 rfl rfl rfl ?_
              refine Rj_gl (q := 59) (ki := 32) (v := pts (ν 11)) gM_M_64_0 rfl rfl hP d_M_slip_56 rfl ?_
              refine Rj_lmul (q := 60) d_M_slip_59 rfl ?_
              refine Rj_ladd (q := 61) d_M_slip_60 rfl ?_
              refine Rj_lst (q := 62) aM_12 rfl (by omega) d_M_slip_61 rfl ?_
              refine Rj_iconst (q := 63) d_M_slip_62 rfl ?_
              refine Rj_bret1 d_M_slip_63 rfl ?_
              first | (exfalso; omega; done) | exact absurd (nb.symm.trans c41) (by decide) | exact absurd (c41.symm.trans nb) (by decide)
            · refine Rj_iconst (q := 45) d_M_slip_44 rfl ?_
              refine Rj_bret0 d_M_slip_45 rfl ?_
              exact ⟨sm_I (by omega), hC1, kp0 _, kq0 _⟩
      · refine Rj_iload_n (q := 7) d_D_isWithin_6 rfl rfl rfl ?_
        refine Rj_iload_n (q := 8) d_D_isWithin_7 rfl rfl rfl ?_
        refine Rj_icmp_gt (q := 11) (t := 15) d_D_isWithin_8 rfl (by decide) (by first | assumption | exact ⟨by omega, by omega⟩) (by decide) (fun c14_8 => ?_) (fun c14_8 => ?_)
        · refine Rj_iconst (q := 16) d_D_isWithin_15 rfl ?_
          refine Rj_bret0 d_D_isWithin_16 rfl ?_
          refine Rj_if_ne (q := 20) (t := 22) d_D_slip_17 rfl (by decide) (by decide) (fun c => absurd c (by decide)) (fun _ => ?_)
          refine Rj_iconst (q := 21) d_D_slip_20 rfl ?_
          refine Rj_bret0 d_D_slip_21 rfl ?_
          refine Rj_aload_n (q := 1) d_M_slip_0 rfl rfl rfl ?_
          refine Rj_iload_n (q := 2) d_M_slip_1 rfl rfl rfl ?_
          refine Rj_vo (q := 5) (z := y_M_isDoor) (as := [vI a]) (rest := []) (la := [vA 0, vI a]) oM_0_M_isDoor ml_M_353 mw_M_isDoor mv_M_isDoor rfl d_M_slip_2 rfl rfl rfl rfl rfl ?_
          refine s_M_isDoor hD (by first | assumption | omega) ?_
          refine Rj_b_eq (q := 8) (t := 44) d_M_slip_5 rfl (by decide) (fun c5 => ?_) (fun c5 => ?_)
          · have c5 := of_decide_eq_false c5
            refine Rj_iconst (q := 45) d_M_slip_44 rfl ?_
            refine Rj_bret0 d_M_slip_45 rfl ?_
            exact ⟨sm_I (by omega), hC1, kp0 _, kq0 _⟩
          · have c5 := of_decide_eq_true c5
            refine Rj_iload_n (q := 9) d_M_slip_8 rfl rfl rfl ?_
            refine Rj_i2l (q := 10) d_M_slip_9 rfl (by first | assumption | exact ⟨by omega, by omega⟩) ?_
            refine Rj_ldc2 (q := 13) k_M_372 d_M_slip_10 rfl ?_
            refine Rj_ldc2 (q := 16) k_M_374 d_M_slip_13 rfl ?_
            refine Rj_cs (q := 19) (z := y_M_in) (as := [vL b, vL (-60), vL 60]) (rest := []) (la := [vL b, vU, vL (-60), vU, vL 60, vU]) ml_M_138 mw_M_in ms_M_in d_M_slip_16 rfl rfl rfl rfl rfl ?_
            refine s_M_in ⟨by omega, by omega⟩ (by decide) (by decide) ?_
            refine Rj_b_eq (q := 22) (t := 44) d_M_slip_19 rfl (by decide) (fun c19 => ?_) (fun c19 => ?_)
            · have c19 := of_decide_eq_false c19
              refine Rj_iconst (q := 45) d_M_slip_44 rfl ?_
              refine Rj_bret0 d_M_slip_45 rfl ?_
              exact ⟨sm_I (by omega), hC1, kp0 _, kq0 _⟩
            · have c19 := of_decide_eq_true c19
              refine Rj_aload_n (q := 23) d_M_slip_22 rfl rfl rfl ?_
              refine Rj_iload_n (q := 24) d_M_slip_23 rfl rfl rfl ?_
              refine Rj_aload_n (q := 25) d_M_slip_24 rfl rfl rfl ?_
              refine Rj_gr (q := 28) (zd := 12) gM_M_45_0 rfl rfl d_M_slip_25 rfl ?_
              refine Rj_iload_n (q := 29) d_M_slip_28 rfl rfl rfl ?_
              refine Rj_la (q := 30) (v := ν 12 a) aM_12 rfl (by omega) rfl d_M_slip_29 rfl ?_
              refine Rj_iload_n (q := 31) d_M_slip_30 rfl rfl rfl ?_
              refine Rj_i2l (q := 32) d_M_slip_31 rfl (by first | assumption | exact ⟨by omega, by omega⟩) ?_
              refine Rj_aload_n (q := 33) d_M_slip_32 rfl rfl rfl ?_
              refine Rj_gl (q := 36) (ki := 32) (v := pts (ν 11)) gM_M_64_0 rfl rfl hP d_M_slip_33 rfl ?_
              refine Rj_lmul (q := 37) d_M_slip_36 rfl ?_
              refine Rj_ladd (q := 38) d_M_slip_37 rfl ?_
              refine Rj_vo (q := 41) (z := y_M_isBeyond) (as := [vI a, vL ((ν 12 a) + (b * (pts (ν 11))))]) (rest := []) (la := [vA 0, vI a, vL ((ν 12 a) + (b * (pts (ν 11)))), vU]) oM_0_M_isBeyond ml_M_369 mw_M_isBeyond mv_M_isBeyond rfl d_M_slip_38 rfl rfl rfl rfl rfl ?_
              refine s_M_isBeyond hM ⟨by omega, by omega⟩ (by omega) ?_
              refine Rj_b_eq (q := 44) (t := 46) d_M_slip_41 rfl (by decide) (fun c41 => ?_) (fun c41 => ?_)
              · refine Rj_aload_n (q := 47) d_M_slip_46 rfl rfl rfl ?_
                refine Rj_gr (q := 50) (zd := 12) gM_M_45_0 rfl rfl d_M_slip_47 rfl ?_
                refine Rj_iload_n (q := 51) d_M_slip_50 rfl rfl rfl ?_
                refine Rj_dup2 (q := 52) d_M_slip_51 rfl (by intro h; cases h) (by intro h; cases h) ?_
                refine Rj_la (q := 53) (v := ν 12 a) aM_12 rfl (by omega) rfl d_M_slip_52 rfl ?_
                refine Rj_iload_n (q := 54) d_M_slip_53 rfl rfl rfl ?_
                refine Rj_i2l (q := 55) d_M_slip_54 rfl (by first | assumption | exact ⟨by omega, by omega⟩) ?_
                refine Rj_aload_n (q := 56) d_M_slip_55 rfl rfl rfl ?_
                refine Rj_gl (q := 59) (ki := 32) (v := pts (ν 11)) gM_M_64_0 rfl rfl hP d_M_slip_56 rfl ?_
                refine Rj_lmul (q := 60) d_M_slip_59 rfl ?_
                refine Rj_ladd (q := 61) d_M_slip_60 rfl ?_
                refine Rj_lst (q := 62) aM_12 rfl (by omega) d_M_slip_61 rfl ?_
                refine Rj_iconst (q := 63) d_M_slip_62 rfl ?_
                refine Rj_bret1 d_M_slip_63 rfl ?_
                first | (exfalso; omega; done) | exact absurd (nb.symm.trans c41) (by decide) | exact absurd (c41.symm.trans nb) (by decide)
              · refine Rj_iconst (q := 45) d_M_slip_44 rfl ?_
                refine Rj_bret0 d_M_slip_45 rfl ?_
                exact ⟨sm_I (by omega), hC1, kp0 _, kq0 _⟩
        · obtain ⟨dt, dsp, tr, sr, br, bp, sc, lr, lq, mr, pr, kr, zk⟩ := h.d ⟨by omega, by omega⟩
          have bkk := hBK a (by omega) (by omega)
          have mbb := mul_bd (show -60 ≤ b ∧ b ≤ 60 by omega) (show -216000 ≤ μ 63 a ∧ μ 63 a ≤ 216000 by omega)
          have mpp := mul_bd (show -60 ≤ b ∧ b ≤ 60 by omega) (show -46656000000 ≤ pts (ν 11) ∧ pts (ν 11) ≤ 46656000000 by omega)
          have scn : (μ 9 a + b * μ 63 a) * pts (ν 11) = (ν 12 a + b * pts (ν 11)) * μ 63 a := sc_add sc (Int.mul_comm _ _)
          refine Rj_iconst (q := 12) d_D_isWithin_11 rfl ?_
          refine Rj_goto (t := 16) d_D_isWithin_12 (by decide) ?_
          refine Rj_bret1 d_D_isWithin_16 rfl ?_
          refine Rj_if_ne (q := 20) (t := 22) d_D_slip_17 rfl (by decide) (by decide) (fun _ => ?_) (fun c => absurd c (by decide))
          refine Rj_aload_n (q := 23) d_D_slip_22 rfl rfl rfl ?_
          refine Rj_gr (q := 26) (zd := 3) gD_D_25_0 rfl rfl d_D_slip_23 rfl ?_
          refine Rj_gr (q := 29) (zd := 9) gD_D_175_3 rfl rfl d_D_slip_26 rfl ?_
          refine Rj_iload_n (q := 30) d_D_slip_29 rfl rfl rfl ?_
          refine Rj_la (q := 31) (v := μ 9 a) aD_9 rfl (by omega) rfl d_D_slip_30 rfl ?_
          refine Rj_iload_n (q := 32) d_D_slip_31 rfl rfl rfl ?_
          refine Rj_i2l (q := 33) d_D_slip_32 rfl (by first | assumption | exact ⟨by omega, by omega⟩) ?_
          refine Rj_aload_n (q := 34) d_D_slip_33 rfl rfl rfl ?_
          refine Rj_gr (q := 37) (zd := 59) gD_D_45_0 rfl rfl d_D_slip_34 rfl ?_
          refine Rj_gr (q := 40) (zd := 63) gD_D_179_59 rfl rfl d_D_slip_37 rfl ?_
          refine Rj_iload_n (q := 41) d_D_slip_40 rfl rfl rfl ?_
          refine Rj_la (q := 42) (v := μ 63 a) aD_63 rfl (by omega) rfl d_D_slip_41 rfl ?_
          refine Rj_lmul (q := 43) d_D_slip_42 rfl ?_
          refine Rj_ladd (q := 44) d_D_slip_43 rfl ?_
          refine Rj_lstore_n (q := 45) (ls' := [vA 0, vI a, vI b, vL ((μ 9 a) + (b * (μ 63 a))), vU]) d_D_slip_44 rfl rfl (by decide) rfl ?_
          refine Rj_aload_n (q := 46) d_D_slip_45 rfl rfl rfl ?_
          refine Rj_gr (q := 49) (zd := 59) gD_D_45_0 rfl rfl d_D_slip_46 rfl ?_
          refine Rj_iload_n (q := 50) d_D_slip_49 rfl rfl rfl ?_
          refine Rj_lload_n (q := 51) d_D_slip_50 rfl rfl rfl ?_
          refine Rj_vo (q := 54) (z := y_Ge_isBeyond) (as := [vI a, vL ((μ 9 a) + (b * (μ 63 a)))]) (rest := []) (la := [vA 59, vI a, vL ((μ 9 a) + (b * (μ 63 a))), vU]) oD_59_Ge_isBeyond ml_D_216 mw_Ge_isBeyond mv_Ge_isBeyond rfl d_D_slip_51 rfl rfl rfl rfl rfl ?_
          refine s_isBeyond h (x := ν 12 a + b * pts (ν 11)) ⟨by omega, by omega⟩ scn (by omega) ?_
          refine Rj_b_eq (q := 57) (t := 59) d_D_slip_54 rfl (by decide) (fun c54 => ?_) (fun c54 => ?_)
          · have nb := c54
            refine Rj_aload_n (q := 60) d_D_slip_59 rfl rfl rfl ?_
            refine Rj_gr (q := 63) (zd := 3) gD_D_25_0 rfl rfl d_D_slip_60 rfl ?_
            refine Rj_gr (q := 66) (zd := 9) gD_D_175_3 rfl rfl d_D_slip_63 rfl ?_
            refine Rj_iload_n (q := 67) d_D_slip_66 rfl rfl rfl ?_
            refine Rj_lload_n (q := 68) d_D_slip_67 rfl rfl rfl ?_
            refine Rj_lst (q := 69) aD_9 rfl (by omega) d_D_slip_68 rfl ?_
            refine Rj_iconst (q := 70) d_D_slip_69 rfl ?_
            refine Rj_bret1 d_D_slip_70 rfl ?_
            refine Rj_aload_n (q := 1) d_M_slip_0 rfl rfl rfl ?_
            refine Rj_iload_n (q := 2) d_M_slip_1 rfl rfl rfl ?_
            refine Rj_vo (q := 5) (z := y_M_isDoor) (as := [vI a]) (rest := []) (la := [vA 0, vI a]) oM_0_M_isDoor ml_M_353 mw_M_isDoor mv_M_isDoor rfl d_M_slip_2 rfl rfl rfl rfl rfl ?_
            refine s_M_isDoor hD (by first | assumption | omega) ?_
            refine Rj_b_eq (q := 8) (t := 44) d_M_slip_5 rfl (by decide) (fun c5 => ?_) (fun c5 => ?_)
            · have c5 := of_decide_eq_false c5
              refine Rj_iconst (q := 45) d_M_slip_44 rfl ?_
              refine Rj_bret0 d_M_slip_45 rfl ?_
              first | (exfalso; omega; done) | exact absurd (nb.symm.trans c41) (by decide) | exact absurd (c41.symm.trans nb) (by decide)
            · have c5 := of_decide_eq_true c5
              refine Rj_iload_n (q := 9) d_M_slip_8 rfl rfl rfl ?_
              refine Rj_i2l (q := 10) d_M_slip_9 rfl (by first | assumption | exact ⟨by omega, by omega⟩) ?_
              refine Rj_ldc2 (q := 13) k_M_372 d_M_slip_10 rfl ?_
              refine Rj_ldc2 (q := 16) k_M_374 d_M_slip_13 rfl ?_
              refine Rj_cs (q := 19) (z := y_M_in) (as := [vL b, vL (-60), vL 60]) (rest := []) (la := [vL b, vU, vL (-60), vU, vL 60, vU]) ml_M_138 mw_M_in ms_M_in d_M_slip_16 rfl rfl rfl rfl rfl ?_
              refine s_M_in ⟨by omega, by omega⟩ (by decide) (by decide) ?_
              refine Rj_b_eq (q := 22) (t := 44) d_M_slip_19 rfl (by decide) (fun c19 => ?_) (fun c19 => ?_)
              · have c19 := of_decide_eq_false c19
                refine Rj_iconst (q := 45) d_M_slip_44 rfl ?_
                refine Rj_bret0 d_M_slip_45 rfl ?_
                first | (exfalso; omega; done) | exact absurd (nb.symm.trans c41) (by decide) | exact absurd (c41.symm.trans nb) (by decide)
              · have c19 := of_decide_eq_true c19
                refine Rj_aload_n (q := 23) d_M_slip_22 rfl rfl rfl ?_
                refine Rj_iload_n (q := 24) d_M_slip_23 rfl rfl rfl ?_
                refine Rj_aload_n (q := 25) d_M_slip_24 rfl rfl rfl ?_
                refine Rj_gr (q := 28) (zd := 12) gM_M_45_0 rfl rfl d_M_slip_25 rfl ?_
                refine Rj_iload_n (q := 29) d_M_slip_28 rfl rfl rfl ?_
                refine Rj_la (q := 30) (v := ν 12 a) aM_12 rfl (by omega) rfl d_M_slip_29 rfl ?_
                refine Rj_iload_n (q := 31) d_M_slip_30 rfl rfl rfl ?_
                refine Rj_i2l (q := 32) d_M_slip_31 rfl (by first | assumption | exact ⟨by omega, by omega⟩) ?_
                refine Rj_aload_n (q := 33) d_M_slip_32 rfl rfl rfl ?_
                refine Rj_gl (q := 36) (ki := 32) (v := pts (ν 11)) gM_M_64_0 rfl rfl hP d_M_slip_33 rfl ?_
                refine Rj_lmul (q := 37) d_M_slip_36 rfl ?_
                refine Rj_ladd (q := 38) d_M_slip_37 rfl ?_
                refine Rj_vo (q := 41) (z := y_M_isBeyond) (as := [vI a, vL ((ν 12 a) + (b * (pts (ν 11))))]) (rest := []) (la := [vA 0, vI a, vL ((ν 12 a) + (b * (pts (ν 11)))), vU]) oM_0_M_isBeyond ml_M_369 mw_M_isBeyond mv_M_isBeyond rfl d_M_slip_38 rfl rfl rfl rfl rfl ?_
                refine s_M_isBeyond hM ⟨by omega, by omega⟩ (by omega) ?_
                refine Rj_b_eq (q := 44) (t := 46) d_M_slip_41 rfl (by decide) (fun c41 => ?_) (fun c41 => ?_)
                · refine Rj_aload_n (q := 47) d_M_slip_46 rfl rfl rfl ?_
                  refine Rj_gr (q := 50) (zd := 12) gM_M_45_0 rfl rfl d_M_slip_47 rfl ?_
                  refine Rj_iload_n (q := 51) d_M_slip_50 rfl rfl rfl ?_
                  refine Rj_dup2 (q := 52) d_M_slip_51 rfl (by intro h; cases h) (by intro h; cases h) ?_
                  refine Rj_la (q := 53) (v := ν 12 a) aM_12 rfl (by omega) rfl d_M_slip_52 rfl ?_
                  refine Rj_iload_n (q := 54) d_M_slip_53 rfl rfl rfl ?_
                  refine Rj_i2l (q := 55) d_M_slip_54 rfl (by first | assumption | exact ⟨by omega, by omega⟩) ?_
                  refine Rj_aload_n (q := 56) d_M_slip_55 rfl rfl rfl ?_
                  refine Rj_gl (q := 59) (ki := 32) (v := pts (ν 11)) gM_M_64_0 rfl rfl hP d_M_slip_56 rfl ?_
                  refine Rj_lmul (q := 60) d_M_slip_59 rfl ?_
                  refine Rj_ladd (q := 61) d_M_slip_60 rfl ?_
                  refine Rj_lst (q := 62) aM_12 rfl (by omega) d_M_slip_61 rfl ?_
                  refine Rj_iconst (q := 63) d_M_slip_62 rfl ?_
                  refine Rj_bret1 d_M_slip_63 rfl ?_
                  have pbn : PB (fset (ν 12) a (ν 12 a + b * pts (ν 11))) := fun d d0 d1 => by
                    by_cases e : d = a
                    · subst e; rw [fset_same]; omega
                    · rw [fset_ne _ e]; exact hB d d0 d1
                  have bkn : BK (n + 1) (fset (ν 12) a (ν 12 a + b * pts (ν 11))) := fun d d0 d1 => by
                    have := hBK d d0 d1
                    by_cases e : d = a
                    · subst e; rw [fset_same]; omega
                    · rw [fset_ne _ e]; omega
                  have sbn : SB (ν 11) (fset (ν 12) a (ν 12 a + b * pts (ν 11))) := fun d d0 d1 d2 => by
                    by_cases e : d = a
                    · subst e
                      rw [fset_same]
                      unfold byd at nb
                      have := of_decide_eq_false nb
                      omega
                    · rw [fset_ne _ e]; exact hSB d d0 d1 d2
                  exact ⟨sm_I rfl, hC.moved (fun c i q1 q2 => mset_o (fun q => q1 q.1)) (fun c i q1 q2 => mset_o (fun q => q1 q.1)) (by rw [mset_fs]; exact h.slip ⟨by omega, by omega⟩ scn pbn) (by rw [mset_fs]; exact sbn) (by rw [mset_fs]; exact bkn), fun c i q => mset_o (by omega), fun c i q => mset_o (by omega)⟩
                · refine Rj_iconst (q := 45) d_M_slip_44 rfl ?_
                  refine Rj_bret0 d_M_slip_45 rfl ?_
                  first | (exfalso; omega; done) | exact absurd (nb.symm.trans c41) (by decide) | exact absurd (c41.symm.trans nb) (by decide)
          · have nb := c54
            refine Rj_iconst (q := 58) d_D_slip_57 rfl ?_
            refine Rj_bret0 d_D_slip_58 rfl ?_
            refine Rj_aload_n (q := 1) d_M_slip_0 rfl rfl rfl ?_
            refine Rj_iload_n (q := 2) d_M_slip_1 rfl rfl rfl ?_
            refine Rj_vo (q := 5) (z := y_M_isDoor) (as := [vI a]) (rest := []) (la := [vA 0, vI a]) oM_0_M_isDoor ml_M_353 mw_M_isDoor mv_M_isDoor rfl d_M_slip_2 rfl rfl rfl rfl rfl ?_
            refine s_M_isDoor hD (by first | assumption | omega) ?_
            refine Rj_b_eq (q := 8) (t := 44) d_M_slip_5 rfl (by decide) (fun c5 => ?_) (fun c5 => ?_)
            · have c5 := of_decide_eq_false c5
              refine Rj_iconst (q := 45) d_M_slip_44 rfl ?_
              refine Rj_bret0 d_M_slip_45 rfl ?_
              exact ⟨sm_I (by omega), hC1, kp0 _, kq0 _⟩
            · have c5 := of_decide_eq_true c5
              refine Rj_iload_n (q := 9) d_M_slip_8 rfl rfl rfl ?_
              refine Rj_i2l (q := 10) d_M_slip_9 rfl (by first | assumption | exact ⟨by omega, by omega⟩) ?_
              refine Rj_ldc2 (q := 13) k_M_372 d_M_slip_10 rfl ?_
              refine Rj_ldc2 (q := 16) k_M_374 d_M_slip_13 rfl ?_
              refine Rj_cs (q := 19) (z := y_M_in) (as := [vL b, vL (-60), vL 60]) (rest := []) (la := [vL b, vU, vL (-60), vU, vL 60, vU]) ml_M_138 mw_M_in ms_M_in d_M_slip_16 rfl rfl rfl rfl rfl ?_
              refine s_M_in ⟨by omega, by omega⟩ (by decide) (by decide) ?_
              refine Rj_b_eq (q := 22) (t := 44) d_M_slip_19 rfl (by decide) (fun c19 => ?_) (fun c19 => ?_)
              · have c19 := of_decide_eq_false c19
                refine Rj_iconst (q := 45) d_M_slip_44 rfl ?_
                refine Rj_bret0 d_M_slip_45 rfl ?_
                exact ⟨sm_I (by omega), hC1, kp0 _, kq0 _⟩
              · have c19 := of_decide_eq_true c19
                refine Rj_aload_n (q := 23) d_M_slip_22 rfl rfl rfl ?_
                refine Rj_iload_n (q := 24) d_M_slip_23 rfl rfl rfl ?_
                refine Rj_aload_n (q := 25) d_M_slip_24 rfl rfl rfl ?_
                refine Rj_gr (q := 28) (zd := 12) gM_M_45_0 rfl rfl d_M_slip_25 rfl ?_
                refine Rj_iload_n (q := 29) d_M_slip_28 rfl rfl rfl ?_
                refine Rj_la (q := 30) (v := ν 12 a) aM_12 rfl (by omega) rfl d_M_slip_29 rfl ?_
                refine Rj_iload_n (q := 31) d_M_slip_30 rfl rfl rfl ?_
                refine Rj_i2l (q := 32) d_M_slip_31 rfl (by first | assumption | exact ⟨by omega, by omega⟩) ?_
                refine Rj_aload_n (q := 33) d_M_slip_32 rfl rfl rfl ?_
                refine Rj_gl (q := 36) (ki := 32) (v := pts (ν 11)) gM_M_64_0 rfl rfl hP d_M_slip_33 rfl ?_
                refine Rj_lmul (q := 37) d_M_slip_36 rfl ?_
                refine Rj_ladd (q := 38) d_M_slip_37 rfl ?_
                refine Rj_vo (q := 41) (z := y_M_isBeyond) (as := [vI a, vL ((ν 12 a) + (b * (pts (ν 11))))]) (rest := []) (la := [vA 0, vI a, vL ((ν 12 a) + (b * (pts (ν 11)))), vU]) oM_0_M_isBeyond ml_M_369 mw_M_isBeyond mv_M_isBeyond rfl d_M_slip_38 rfl rfl rfl rfl rfl ?_
                refine s_M_isBeyond hM ⟨by omega, by omega⟩ (by omega) ?_
                refine Rj_b_eq (q := 44) (t := 46) d_M_slip_41 rfl (by decide) (fun c41 => ?_) (fun c41 => ?_)
                · refine Rj_aload_n (q := 47) d_M_slip_46 rfl rfl rfl ?_
                  refine Rj_gr (q := 50) (zd := 12) gM_M_45_0 rfl rfl d_M_slip_47 rfl ?_
                  refine Rj_iload_n (q := 51) d_M_slip_50 rfl rfl rfl ?_
                  refine Rj_dup2 (q := 52) d_M_slip_51 rfl (by intro h; cases h) (by intro h; cases h) ?_
                  refine Rj_la (q := 53) (v := ν 12 a) aM_12 rfl (by omega) rfl d_M_slip_52 rfl ?_
                  refine Rj_iload_n (q := 54) d_M_slip_53 rfl rfl rfl ?_
                  refine Rj_i2l (q := 55) d_M_slip_54 rfl (by first | assumption | exact ⟨by omega, by omega⟩) ?_
                  refine Rj_aload_n (q := 56) d_M_slip_55 rfl rfl rfl ?_
                  refine Rj_gl (q := 59) (ki := 32) (v := pts (ν 11)) gM_M_64_0 rfl rfl hP d_M_slip_56 rfl ?_
                  refine Rj_lmul (q := 60) d_M_slip_59 rfl ?_
                  refine Rj_ladd (q := 61) d_M_slip_60 rfl ?_
                  refine Rj_lst (q := 62) aM_12 rfl (by omega) d_M_slip_61 rfl ?_
                  refine Rj_iconst (q := 63) d_M_slip_62 rfl ?_
                  refine Rj_bret1 d_M_slip_63 rfl ?_
                  first | (exfalso; omega; done) | exact absurd (nb.symm.trans c41) (by decide) | exact absurd (c41.symm.trans nb) (by decide)
                · refine Rj_iconst (q := 45) d_M_slip_44 rfl ?_
                  refine Rj_bret0 d_M_slip_45 rfl ?_
                  exact ⟨sm_I (by omega), hC1, kp0 _, kq0 _⟩
set_option maxHeartbeats 8000000 in
theorem C_ratio {n : Nat} {μ ν : Mem} {a b c : Int} (hC : Cor n μ ν) (hn : n ≤ 511) (ha : i32 a) (hb : i32 b) (hc : i32 c)  : Rj YD y_D_ratio 0 [vA 0, vI a, vI b, vI c] [] μ (fun r μ' => Rj YM y_M_ratio 0 [vA 0, vI a, vI b, vI c] [] ν (fun r' ν' => Sm 2 r' r ∧ Cor (n + 1) μ' ν' ∧ Kp μ μ' ∧ Kq ν ν')) := by
  obtain ⟨hTP, hK, hSc, h, hM, hSB, hBK, hIM⟩ := id hC
  have hC1 := hC.next
  obtain ⟨z0, z1, z2, z3, z4, z5, z6, z7⟩ := h.z
  obtain ⟨hS, hH, hP, hB, hFx⟩ := id hM
  have hD := z0
  have hJ := z1
  refine Rj_aload_n (q := 1) d_D_ratio_0 rfl rfl rfl ?_
  refine Rj_gr (q := 4) (zd := 3) gD_D_25_0 rfl rfl d_D_ratio_1 rfl ?_
  refine Rj_iload_n (q := 5) d_D_ratio_4 rfl rfl rfl ?_
  refine Rj_vo (q := 8) (z := y_Sc_isDoor) (as := [vI a]) (rest := []) (la := [vA 3, vI a]) oD_3_Sc_isDoor ml_D_144 mw_Sc_isDoor mv_Sc_isDoor rfl d_D_ratio_5 rfl rfl rfl rfl rfl ?_
  refine Rj_iload_n (q := 1) d_Sc_isDoor_0 rfl rfl rfl ?_
  refine Rj_if_lt (q := 4) (t := 16) d_Sc_isDoor_1 rfl (by decide) (by first | assumption | exact ⟨by omega, by omega⟩) (fun c5_1 => ?_) (fun c5_1 => ?_)
  · refine Rj_iconst (q := 17) d_Sc_isDoor_16 rfl ?_
    refine Rj_bret0 d_Sc_isDoor_17 rfl ?_
    refine Rj_if_eq (q := 11) (t := 29) d_D_ratio_8 rfl (by decide) (by decide) (fun _ => ?_) (fun c => absurd c (by decide))
    refine Rj_ldc2 (q := 32) k_D_173 d_D_ratio_29 rfl ?_
    refine Rj_lret d_D_ratio_32 rfl ?_
    refine Rj_aload_n (q := 1) d_M_ratio_0 rfl rfl rfl ?_
    refine Rj_iload_n (q := 2) d_M_ratio_1 rfl rfl rfl ?_
    refine Rj_vo (q := 5) (z := y_M_isDoor) (as := [vI a]) (rest := []) (la := [vA 0, vI a]) oM_0_M_isDoor ml_M_353 mw_M_isDoor mv_M_isDoor rfl d_M_ratio_2 rfl rfl rfl rfl rfl ?_
    refine s_M_isDoor hD (by first | assumption | omega) ?_
    refine Rj_b_eq (q := 8) (t := 26) d_M_ratio_5 rfl (by decide) (fun c5 => ?_) (fun c5 => ?_)
    · have c5 := of_decide_eq_false c5
      refine Rj_ldc2 (q := 29) k_M_358 d_M_ratio_26 rfl ?_
      refine Rj_lret d_M_ratio_29 rfl ?_
      first | exact ⟨sm_L rfl, hC1, kp0 _, kq0 _⟩ | exact ⟨sm_L (by omega), hC1, kp0 _, kq0 _⟩ | exact ⟨sm_L (h.ratq ⟨by omega, by omega⟩ ⟨by omega, by omega⟩ (by omega) (by omega) (by omega)).symm, hC1, kp0 _, kq0 _⟩
    · have c5 := of_decide_eq_true c5
      refine Rj_aload_n (q := 9) d_M_ratio_8 rfl rfl rfl ?_
      refine Rj_iload_n (q := 10) d_M_ratio_9 rfl rfl rfl ?_
      refine Rj_vo (q := 13) (z := y_M_isDoor) (as := [vI b]) (rest := []) (la := [vA 0, vI b]) oM_0_M_isDoor ml_M_353 mw_M_isDoor mv_M_isDoor rfl d_M_ratio_10 rfl rfl rfl rfl rfl ?_
      refine s_M_isDoor hD (by first | assumption | omega) ?_
      refine Rj_b_eq (q := 16) (t := 26) d_M_ratio_13 rfl (by decide) (fun c13 => ?_) (fun c13 => ?_)
      · have c13 := of_decide_eq_false c13
        refine Rj_ldc2 (q := 29) k_M_358 d_M_ratio_26 rfl ?_
        refine Rj_lret d_M_ratio_29 rfl ?_
        first | exact ⟨sm_L rfl, hC1, kp0 _, kq0 _⟩ | exact ⟨sm_L (by omega), hC1, kp0 _, kq0 _⟩ | exact ⟨sm_L (h.ratq ⟨by omega, by omega⟩ ⟨by omega, by omega⟩ (by omega) (by omega) (by omega)).symm, hC1, kp0 _, kq0 _⟩
      · have c13 := of_decide_eq_true c13
        refine Rj_iload_n (q := 17) d_M_ratio_16 rfl rfl rfl ?_
        refine Rj_i2l (q := 18) d_M_ratio_17 rfl (by first | assumption | exact ⟨by omega, by omega⟩) ?_
        refine Rj_lconst (q := 19) (z := 0) d_M_ratio_18 rfl rfl ?_
        refine Rj_lconst (q := 20) (z := 1) d_M_ratio_19 rfl rfl ?_
        refine Rj_cs (q := 23) (z := y_M_in) (as := [vL c, vL 0, vL 1]) (rest := []) (la := [vL c, vU, vL 0, vU, vL 1, vU]) ml_M_138 mw_M_in ms_M_in d_M_ratio_20 rfl rfl rfl rfl rfl ?_
        refine s_M_in ⟨by omega, by omega⟩ (by decide) (by decide) ?_
        refine Rj_b_ne (q := 26) (t := 30) d_M_ratio_23 rfl (by decide) (fun c23 => ?_) (fun c23 => ?_)
        · have c23 := of_decide_eq_true c23
          refine Rj_aload_n (q := 31) d_M_ratio_30 rfl rfl rfl ?_
          refine Rj_iload_n (q := 32) d_M_ratio_31 rfl rfl rfl ?_
          refine Rj_iload_n (q := 33) d_M_ratio_32 rfl rfl rfl ?_
          refine Rj_vo (q := 36) (z := y_M_areJoined) (as := [vI a, vI b]) (rest := []) (la := [vA 0, vI a, vI b]) oM_0_M_areJoined ml_M_363 mw_M_areJoined mv_M_areJoined rfl d_M_ratio_33 rfl rfl rfl rfl rfl ?_
          refine s_M_areJoined2 (by omega) (by omega) (show -1 ≤ ν 14 a ∧ ν 14 a < 12 by omega) (show -1 ≤ ν 14 b ∧ ν 14 b < 12 by omega) ?_
          refine Rj_b_ne (q := 39) (t := 42) d_M_ratio_36 rfl (by decide) (fun c36 => ?_) (fun c36 => ?_)
          · have c36 := of_decide_eq_true c36
            refine Rj_aload_n (q := 43) d_M_ratio_42 rfl rfl rfl ?_
            refine Rj_gr (q := 46) (zd := 17) gM_M_60_0 rfl rfl d_M_ratio_43 rfl ?_
            refine Rj_iload_n (q := 47) d_M_ratio_46 rfl rfl rfl ?_
            refine Rj_za (q := 48) (v := ν 17 a) aM_17 rfl (by omega) rfl d_M_ratio_47 rfl ?_
            refine Rj_if_eq (q := 51) (t := 57) d_M_ratio_48 rfl (by decide) (by first | assumption | exact ⟨by omega, by omega⟩) (fun c48 => ?_) (fun c48 => ?_)
            · refine Rj_aload_n (q := 58) d_M_ratio_57 rfl rfl rfl ?_
              refine Rj_iload_n (q := 59) d_M_ratio_58 rfl rfl rfl ?_
              refine Rj_iload_n (q := 60) d_M_ratio_59 rfl rfl rfl ?_
              refine Rj_iload_n (q := 61) d_M_ratio_60 rfl rfl rfl ?_
              refine Rj_vo (q := 64) (z := y_M_ratioOf) (as := [vI a, vI b, vI c]) (rest := []) (la := [vA 0, vI a, vI b, vI c]) oM_0_M_ratioOf ml_M_334 mw_M_ratioOf mv_M_ratioOf rfl d_M_ratio_61 rfl rfl rfl rfl rfl ?_
              refine s_M_ratioOf hS hH ⟨by omega, by omega⟩ ⟨by omega, by omega⟩ (by first | decide | omega) ?_
              refine Rj_lret d_M_ratio_64 rfl ?_
              first | exact ⟨sm_L rfl, hC1, kp0 _, kq0 _⟩ | exact ⟨sm_L (by omega), hC1, kp0 _, kq0 _⟩ | exact ⟨sm_L (h.ratq ⟨by omega, by omega⟩ ⟨by omega, by omega⟩ (by omega) (by omega) (by omega)).symm, hC1, kp0 _, kq0 _⟩
            · refine Rj_ldc2 (q := 54) k_M_358 d_M_ratio_51 rfl ?_
              refine Rj_goto (t := 64) d_M_ratio_54 (by decide) ?_
              refine Rj_lret d_M_ratio_64 rfl ?_
              first | exact ⟨sm_L rfl, hC1, kp0 _, kq0 _⟩ | exact ⟨sm_L (by omega), hC1, kp0 _, kq0 _⟩ | exact ⟨sm_L (h.ratq ⟨by omega, by omega⟩ ⟨by omega, by omega⟩ (by omega) (by omega) (by omega)).symm, hC1, kp0 _, kq0 _⟩
          · have c36 := of_decide_eq_false c36
            refine Rj_iload_n (q := 40) d_M_ratio_39 rfl rfl rfl ?_
            refine Rj_i2l (q := 41) d_M_ratio_40 rfl (by first | assumption | exact ⟨by omega, by omega⟩) ?_
            refine Rj_lret d_M_ratio_41 rfl ?_
            first | exact ⟨sm_L rfl, hC1, kp0 _, kq0 _⟩ | exact ⟨sm_L (by omega), hC1, kp0 _, kq0 _⟩ | exact ⟨sm_L (h.ratq ⟨by omega, by omega⟩ ⟨by omega, by omega⟩ (by omega) (by omega) (by omega)).symm, hC1, kp0 _, kq0 _⟩
        · have c23 := of_decide_eq_false c23
          refine Rj_ldc2 (q := 29) k_M_358 d_M_ratio_26 rfl ?_
          refine Rj_lret d_M_ratio_29 rfl ?_
          first | exact ⟨sm_L rfl, hC1, kp0 _, kq0 _⟩ | exact ⟨sm_L (by omega), hC1, kp0 _, kq0 _⟩ | exact ⟨sm_L (h.ratq ⟨by omega, by omega⟩ ⟨by omega, by omega⟩ (by omega) (by omega) (by omega)).symm, hC1, kp0 _, kq0 _⟩
  · refine Rj_iload_n (q := 5) d_Sc_isDoor_4 rfl rfl rfl ?_
    refine Rj_aload_n (q := 6) d_Sc_isDoor_5 rfl rfl rfl ?_
    refine Rj_gi (q := 9) (ki := 0) (v := ν 11 0) gD_Sc_37_3 rfl rfl z2 d_Sc_isDoor_6 rfl ?_
    refine Rj_icmp_ge (q := 12) (t := 16) d_Sc_isDoor_9 rfl (by decide) (by first | assumption | exact ⟨by omega, by omega⟩) (by first | assumption | exact ⟨by omega, by omega⟩) (fun c5_9 => ?_) (fun c5_9 => ?_)
    · refine Rj_iconst (q := 17) d_Sc_isDoor_16 rfl ?_
      refine Rj_bret0 d_Sc_isDoor_17 rfl ?_
      refine Rj_if_eq (q := 11) (t := 29) d_D_ratio_8 rfl (by decide) (by decide) (fun _ => ?_) (fun c => absurd c (by decide))
      refine Rj_ldc2 (q := 32) k_D_173 d_D_ratio_29 rfl ?_
      refine Rj_lret d_D_ratio_32 rfl ?_
      refine Rj_aload_n (q := 1) d_M_ratio_0 rfl rfl rfl ?_
      refine Rj_iload_n (q := 2) d_M_ratio_1 rfl rfl rfl ?_
      refine Rj_vo (q := 5) (z := y_M_isDoor) (as := [vI a]) (rest := []) (la := [vA 0, vI a]) oM_0_M_isDoor ml_M_353 mw_M_isDoor mv_M_isDoor rfl d_M_ratio_2 rfl rfl rfl rfl rfl ?_
      refine s_M_isDoor hD (by first | assumption | omega) ?_
      refine Rj_b_eq (q := 8) (t := 26) d_M_ratio_5 rfl (by decide) (fun c5 => ?_) (fun c5 => ?_)
      · have c5 := of_decide_eq_false c5
        refine Rj_ldc2 (q := 29) k_M_358 d_M_ratio_26 rfl ?_
        refine Rj_lret d_M_ratio_29 rfl ?_
        first | exact ⟨sm_L rfl, hC1, kp0 _, kq0 _⟩ | exact ⟨sm_L (by omega), hC1, kp0 _, kq0 _⟩ | exact ⟨sm_L (h.ratq ⟨by omega, by omega⟩ ⟨by omega, by omega⟩ (by omega) (by omega) (by omega)).symm, hC1, kp0 _, kq0 _⟩
      · have c5 := of_decide_eq_true c5
        refine Rj_aload_n (q := 9) d_M_ratio_8 rfl rfl rfl ?_
        refine Rj_iload_n (q := 10) d_M_ratio_9 rfl rfl rfl ?_
        refine Rj_vo (q := 13) (z := y_M_isDoor) (as := [vI b]) (rest := []) (la := [vA 0, vI b]) oM_0_M_isDoor ml_M_353 mw_M_isDoor mv_M_isDoor rfl d_M_ratio_10 rfl rfl rfl rfl rfl ?_
        refine s_M_isDoor hD (by first | assumption | omega) ?_
        refine Rj_b_eq (q := 16) (t := 26) d_M_ratio_13 rfl (by decide) (fun c13 => ?_) (fun c13 => ?_)
        · have c13 := of_decide_eq_false c13
          refine Rj_ldc2 (q := 29) k_M_358 d_M_ratio_26 rfl ?_
          refine Rj_lret d_M_ratio_29 rfl ?_
          first | exact ⟨sm_L rfl, hC1, kp0 _, kq0 _⟩ | exact ⟨sm_L (by omega), hC1, kp0 _, kq0 _⟩ | exact ⟨sm_L (h.ratq ⟨by omega, by omega⟩ ⟨by omega, by omega⟩ (by omega) (by omega) (by omega)).symm, hC1, kp0 _, kq0 _⟩
        · have c13 := of_decide_eq_true c13
          refine Rj_iload_n (q := 17) d_M_ratio_16 rfl rfl rfl ?_
          refine Rj_i2l (q := 18) d_M_ratio_17 rfl (by first | assumption | exact ⟨by omega, by omega⟩) ?_
          refine Rj_lconst (q := 19) (z := 0) d_M_ratio_18 rfl rfl ?_
          refine Rj_lconst (q := 20) (z := 1) d_M_ratio_19 rfl rfl ?_
          refine Rj_cs (q := 23) (z := y_M_in) (as := [vL c, vL 0, vL 1]) (rest := []) (la := [vL c, vU, vL 0, vU, vL 1, vU]) ml_M_138 mw_M_in ms_M_in d_M_ratio_20 rfl rfl rfl rfl rfl ?_
          refine s_M_in ⟨by omega, by omega⟩ (by decide) (by decide) ?_
          refine Rj_b_ne (q := 26) (t := 30) d_M_ratio_23 rfl (by decide) (fun c23 => ?_) (fun c23 => ?_)
          · have c23 := of_decide_eq_true c23
            refine Rj_aload_n (q := 31) d_M_ratio_30 rfl rfl rfl ?_
            refine Rj_iload_n (q := 32) d_M_ratio_31 rfl rfl rfl ?_
            refine Rj_iload_n (q := 33) d_M_ratio_32 rfl rfl rfl ?_
            refine Rj_vo (q := 36) (z := y_M_areJoined) (as := [vI a, vI b]) (rest := []) (la := [vA 0, vI a, vI b]) oM_0_M_areJoined ml_M_363 mw_M_areJoined mv_M_areJoined rfl d_M_ratio_33 rfl rfl rfl rfl rfl ?_
            refine s_M_areJoined2 (by omega) (by omega) (show -1 ≤ ν 14 a ∧ ν 14 a < 12 by omega) (show -1 ≤ ν 14 b ∧ ν 14 b < 12 by omega) ?_
            refine Rj_b_ne (q := 39) (t := 42) d_M_ratio_36 rfl (by decide) (fun c36 => ?_) (fun c36 => ?_)
            · have c36 := of_decide_eq_true c36
              refine Rj_aload_n (q := 43) d_M_ratio_42 rfl rfl rfl ?_
              refine Rj_gr (q := 46) (zd := 17) gM_M_60_0 rfl rfl d_M_ratio_43 rfl ?_
              refine Rj_iload_n (q := 47) d_M_ratio_46 rfl rfl rfl ?_
              refine Rj_za (q := 48) (v := ν 17 a) aM_17 rfl (by omega) rfl d_M_ratio_47 rfl ?_
              refine Rj_if_eq (q := 51) (t := 57) d_M_ratio_48 rfl (by decide) (by first | assumption | exact ⟨by omega, by omega⟩) (fun c48 => ?_) (fun c48 => ?_)
              · refine Rj_aload_n (q := 58) d_M_ratio_57 rfl rfl rfl ?_
                refine Rj_iload_n (q := 59) d_M_ratio_58 rfl rfl rfl ?_
                refine Rj_iload_n (q := 60) d_M_ratio_59 rfl rfl rfl ?_
                refine Rj_iload_n (q := 61) d_M_ratio_60 rfl rfl rfl ?_
                refine Rj_vo (q := 64) (z := y_M_ratioOf) (as := [vI a, vI b, vI c]) (rest := []) (la := [vA 0, vI a, vI b, vI c]) oM_0_M_ratioOf ml_M_334 mw_M_ratioOf mv_M_ratioOf rfl d_M_ratio_61 rfl rfl rfl rfl rfl ?_
                refine s_M_ratioOf hS hH ⟨by omega, by omega⟩ ⟨by omega, by omega⟩ (by first | decide | omega) ?_
                refine Rj_lret d_M_ratio_64 rfl ?_
                first | exact ⟨sm_L rfl, hC1, kp0 _, kq0 _⟩ | exact ⟨sm_L (by omega), hC1, kp0 _, kq0 _⟩ | exact ⟨sm_L (h.ratq ⟨by omega, by omega⟩ ⟨by omega, by omega⟩ (by omega) (by omega) (by omega)).symm, hC1, kp0 _, kq0 _⟩
              · refine Rj_ldc2 (q := 54) k_M_358 d_M_ratio_51 rfl ?_
                refine Rj_goto (t := 64) d_M_ratio_54 (by decide) ?_
                refine Rj_lret d_M_ratio_64 rfl ?_
                first | exact ⟨sm_L rfl, hC1, kp0 _, kq0 _⟩ | exact ⟨sm_L (by omega), hC1, kp0 _, kq0 _⟩ | exact ⟨sm_L (h.ratq ⟨by omega, by omega⟩ ⟨by omega, by omega⟩ (by omega) (by omega) (by omega)).symm, hC1, kp0 _, kq0 _⟩
            · have c36 := of_decide_eq_false c36
              refine Rj_iload_n (q := 40) d_M_ratio_39 rfl rfl rfl ?_
              refine Rj_i2l (q := 41) d_M_ratio_40 rfl (by first | assumption | exact ⟨by omega, by omega⟩) ?_
              refine Rj_lret d_M_ratio_41 rfl ?_
              first | exact ⟨sm_L rfl, hC1, kp0 _, kq0 _⟩ | exact ⟨sm_L (by omega), hC1, kp0 _, kq0 _⟩ | exact ⟨sm_L (h.ratq ⟨by omega, by omega⟩ ⟨by omega, by omega⟩ (by omega) (by omega) (by omega)).symm, hC1, kp0 _, kq0 _⟩
          · have c23 := of_decide_eq_false c23
            refine Rj_ldc2 (q := 29) k_M_358 d_M_ratio_26 rfl ?_
            refine Rj_lret d_M_ratio_29 rfl ?_
            first | exact ⟨sm_L rfl, hC1, kp0 _, kq0 _⟩ | exact ⟨sm_L (by omega), hC1, kp0 _, kq0 _⟩ | exact ⟨sm_L (h.ratq ⟨by omega, by omega⟩ ⟨by omega, by omega⟩ (by omega) (by omega) (by omega)).symm, hC1, kp0 _, kq0 _⟩
    · refine Rj_iconst (q := 13) d_Sc_isDoor_12 rfl ?_
      refine Rj_goto (t := 17) d_Sc_isDoor_13 (by decide) ?_
      refine Rj_bret1 d_Sc_isDoor_17 rfl ?_
      refine Rj_if_eq (q := 11) (t := 29) d_D_ratio_8 rfl (by decide) (by decide) (fun c => absurd c (by decide)) (fun _ => ?_)
      refine Rj_aload_n (q := 12) d_D_ratio_11 rfl rfl rfl ?_
      refine Rj_gr (q := 15) (zd := 3) gD_D_25_0 rfl rfl d_D_ratio_12 rfl ?_
      refine Rj_iload_n (q := 16) d_D_ratio_15 rfl rfl rfl ?_
      refine Rj_vo (q := 19) (z := y_Sc_isDoor) (as := [vI b]) (rest := []) (la := [vA 3, vI b]) oD_3_Sc_isDoor ml_D_144 mw_Sc_isDoor mv_Sc_isDoor rfl d_D_ratio_16 rfl rfl rfl rfl rfl ?_
      refine Rj_iload_n (q := 1) d_Sc_isDoor_0 rfl rfl rfl ?_
      refine Rj_if_lt (q := 4) (t := 16) d_Sc_isDoor_1 rfl (by decide) (by first | assumption | exact ⟨by omega, by omega⟩) (fun c16_1 => ?_) (fun c16_1 => ?_)
      · refine Rj_iconst (q := 17) d_Sc_isDoor_16 rfl ?_
        refine Rj_bret0 d_Sc_isDoor_17 rfl ?_
        refine Rj_if_eq (q := 22) (t := 29) d_D_ratio_19 rfl (by decide) (by decide) (fun _ => ?_) (fun c => absurd c (by decide))
        refine Rj_ldc2 (q := 32) k_D_173 d_D_ratio_29 rfl ?_
        refine Rj_lret d_D_ratio_32 rfl ?_
        refine Rj_aload_n (q := 1) d_M_ratio_0 rfl rfl rfl ?_
        refine Rj_iload_n (q := 2) d_M_ratio_1 rfl rfl rfl ?_
        refine Rj_vo (q := 5) (z := y_M_isDoor) (as := [vI a]) (rest := []) (la := [vA 0, vI a]) oM_0_M_isDoor ml_M_353 mw_M_isDoor mv_M_isDoor rfl d_M_ratio_2 rfl rfl rfl rfl rfl ?_
        refine s_M_isDoor hD (by first | assumption | omega) ?_
        refine Rj_b_eq (q := 8) (t := 26) d_M_ratio_5 rfl (by decide) (fun c5 => ?_) (fun c5 => ?_)
        · have c5 := of_decide_eq_false c5
          refine Rj_ldc2 (q := 29) k_M_358 d_M_ratio_26 rfl ?_
          refine Rj_lret d_M_ratio_29 rfl ?_
          first | exact ⟨sm_L rfl, hC1, kp0 _, kq0 _⟩ | exact ⟨sm_L (by omega), hC1, kp0 _, kq0 _⟩ | exact ⟨sm_L (h.ratq ⟨by omega, by omega⟩ ⟨by omega, by omega⟩ (by omega) (by omega) (by omega)).symm, hC1, kp0 _, kq0 _⟩
        · have c5 := of_decide_eq_true c5
          refine Rj_aload_n (q := 9) d_M_ratio_8 rfl rfl rfl ?_
          refine Rj_iload_n (q := 10) d_M_ratio_9 rfl rfl rfl ?_
          refine Rj_vo (q := 13) (z := y_M_isDoor) (as := [vI b]) (rest := []) (la := [vA 0, vI b]) oM_0_M_isDoor ml_M_353 mw_M_isDoor mv_M_isDoor rfl d_M_ratio_10 rfl rfl rfl rfl rfl ?_
          refine s_M_isDoor hD (by first | assumption | omega) ?_
          refine Rj_b_eq (q := 16) (t := 26) d_M_ratio_13 rfl (by decide) (fun c13 => ?_) (fun c13 => ?_)
          · have c13 := of_decide_eq_false c13
            refine Rj_ldc2 (q := 29) k_M_358 d_M_ratio_26 rfl ?_
            refine Rj_lret d_M_ratio_29 rfl ?_
            first | exact ⟨sm_L rfl, hC1, kp0 _, kq0 _⟩ | exact ⟨sm_L (by omega), hC1, kp0 _, kq0 _⟩ | exact ⟨sm_L (h.ratq ⟨by omega, by omega⟩ ⟨by omega, by omega⟩ (by omega) (by omega) (by omega)).symm, hC1, kp0 _, kq0 _⟩
          · have c13 := of_decide_eq_true c13
            refine Rj_iload_n (q := 17) d_M_ratio_16 rfl rfl rfl ?_
            refine Rj_i2l (q := 18) d_M_ratio_17 rfl (by first | assumption | exact ⟨by omega, by omega⟩) ?_
            refine Rj_lconst (q := 19) (z := 0) d_M_ratio_18 rfl rfl ?_
            refine Rj_lconst (q := 20) (z := 1) d_M_ratio_19 rfl rfl ?_
            refine Rj_cs (q := 23) (z := y_M_in) (as := [vL c, vL 0, vL 1]) (rest := []) (la := [vL c, vU, vL 0, vU, vL 1, vU]) ml_M_138 mw_M_in ms_M_in d_M_ratio_20 rfl rfl rfl rfl rfl ?_
            refine s_M_in ⟨by omega, by omega⟩ (by decide) (by decide) ?_
            refine Rj_b_ne (q := 26) (t := 30) d_M_ratio_23 rfl (by decide) (fun c23 => ?_) (fun c23 => ?_)
            · have c23 := of_decide_eq_true c23
              refine Rj_aload_n (q := 31) d_M_ratio_30 rfl rfl rfl ?_
              refine Rj_iload_n (q := 32) d_M_ratio_31 rfl rfl rfl ?_
              refine Rj_iload_n (q := 33) d_M_ratio_32 rfl rfl rfl ?_
              refine Rj_vo (q := 36) (z := y_M_areJoined) (as := [vI a, vI b]) (rest := []) (la := [vA 0, vI a, vI b]) oM_0_M_areJoined ml_M_363 mw_M_areJoined mv_M_areJoined rfl d_M_ratio_33 rfl rfl rfl rfl rfl ?_
              refine s_M_areJoined2 (by omega) (by omega) (show -1 ≤ ν 14 a ∧ ν 14 a < 12 by omega) (show -1 ≤ ν 14 b ∧ ν 14 b < 12 by omega) ?_
              refine Rj_b_ne (q := 39) (t := 42) d_M_ratio_36 rfl (by decide) (fun c36 => ?_) (fun c36 => ?_)
              · have c36 := of_decide_eq_true c36
                refine Rj_aload_n (q := 43) d_M_ratio_42 rfl rfl rfl ?_
                refine Rj_gr (q := 46) (zd := 17) gM_M_60_0 rfl rfl d_M_ratio_43 rfl ?_
                refine Rj_iload_n (q := 47) d_M_ratio_46 rfl rfl rfl ?_
                refine Rj_za (q := 48) (v := ν 17 a) aM_17 rfl (by omega) rfl d_M_ratio_47 rfl ?_
                refine Rj_if_eq (q := 51) (t := 57) d_M_ratio_48 rfl (by decide) (by first | assumption | exact ⟨by omega, by omega⟩) (fun c48 => ?_) (fun c48 => ?_)
                · refine Rj_aload_n (q := 58) d_M_ratio_57 rfl rfl rfl ?_
                  refine Rj_iload_n (q := 59) d_M_ratio_58 rfl rfl rfl ?_
                  refine Rj_iload_n (q := 60) d_M_ratio_59 rfl rfl rfl ?_
                  refine Rj_iload_n (q := 61) d_M_ratio_60 rfl rfl rfl ?_
                  refine Rj_vo (q := 64) (z := y_M_ratioOf) (as := [vI a, vI b, vI c]) (rest := []) (la := [vA 0, vI a, vI b, vI c]) oM_0_M_ratioOf ml_M_334 mw_M_ratioOf mv_M_ratioOf rfl d_M_ratio_61 rfl rfl rfl rfl rfl ?_
                  refine s_M_ratioOf hS hH ⟨by omega, by omega⟩ ⟨by omega, by omega⟩ (by first | decide | omega) ?_
                  refine Rj_lret d_M_ratio_64 rfl ?_
                  first | exact ⟨sm_L rfl, hC1, kp0 _, kq0 _⟩ | exact ⟨sm_L (by omega), hC1, kp0 _, kq0 _⟩ | exact ⟨sm_L (h.ratq ⟨by omega, by omega⟩ ⟨by omega, by omega⟩ (by omega) (by omega) (by omega)).symm, hC1, kp0 _, kq0 _⟩
                · refine Rj_ldc2 (q := 54) k_M_358 d_M_ratio_51 rfl ?_
                  refine Rj_goto (t := 64) d_M_ratio_54 (by decide) ?_
                  refine Rj_lret d_M_ratio_64 rfl ?_
                  first | exact ⟨sm_L rfl, hC1, kp0 _, kq0 _⟩ | exact ⟨sm_L (by omega), hC1, kp0 _, kq0 _⟩ | exact ⟨sm_L (h.ratq ⟨by omega, by omega⟩ ⟨by omega, by omega⟩ (by omega) (by omega) (by omega)).symm, hC1, kp0 _, kq0 _⟩
              · have c36 := of_decide_eq_false c36
                refine Rj_iload_n (q := 40) d_M_ratio_39 rfl rfl rfl ?_
                refine Rj_i2l (q := 41) d_M_ratio_40 rfl (by first | assumption | exact ⟨by omega, by omega⟩) ?_
                refine Rj_lret d_M_ratio_41 rfl ?_
                first | exact ⟨sm_L rfl, hC1, kp0 _, kq0 _⟩ | exact ⟨sm_L (by omega), hC1, kp0 _, kq0 _⟩ | exact ⟨sm_L (h.ratq ⟨by omega, by omega⟩ ⟨by omega, by omega⟩ (by omega) (by omega) (by omega)).symm, hC1, kp0 _, kq0 _⟩
            · have c23 := of_decide_eq_false c23
              refine Rj_ldc2 (q := 29) k_M_358 d_M_ratio_26 rfl ?_
              refine Rj_lret d_M_ratio_29 rfl ?_
              first | exact ⟨sm_L rfl, hC1, kp0 _, kq0 _⟩ | exact ⟨sm_L (by omega), hC1, kp0 _, kq0 _⟩ | exact ⟨sm_L (h.ratq ⟨by omega, by omega⟩ ⟨by omega, by omega⟩ (by omega) (by omega) (by omega)).symm, hC1, kp0 _, kq0 _⟩
      · refine Rj_iload_n (q := 5) d_Sc_isDoor_4 rfl rfl rfl ?_
        refine Rj_aload_n (q := 6) d_Sc_isDoor_5 rfl rfl rfl ?_
        refine Rj_gi (q := 9) (ki := 0) (v := ν 11 0) gD_Sc_37_3 rfl rfl z2 d_Sc_isDoor_6 rfl ?_
        refine Rj_icmp_ge (q := 12) (t := 16) d_Sc_isDoor_9 rfl (by decide) (by first | assumption | exact ⟨by omega, by omega⟩) (by first | assumption | exact ⟨by omega, by omega⟩) (fun c16_9 => ?_) (fun c16_9 => ?_)
        · refine Rj_iconst (q := 17) d_Sc_isDoor_16 rfl ?_
          refine Rj_bret0 d_Sc_isDoor_17 rfl ?_
          refine Rj_if_eq (q := 22) (t := 29) d_D_ratio_19 rfl (by decide) (by decide) (fun _ => ?_) (fun c => absurd c (by decide))
          refine Rj_ldc2 (q := 32) k_D_173 d_D_ratio_29 rfl ?_
          refine Rj_lret d_D_ratio_32 rfl ?_
          refine Rj_aload_n (q := 1) d_M_ratio_0 rfl rfl rfl ?_
          refine Rj_iload_n (q := 2) d_M_ratio_1 rfl rfl rfl ?_
          refine Rj_vo (q := 5) (z := y_M_isDoor) (as := [vI a]) (rest := []) (la := [vA 0, vI a]) oM_0_M_isDoor ml_M_353 mw_M_isDoor mv_M_isDoor rfl d_M_ratio_2 rfl rfl rfl rfl rfl ?_
          refine s_M_isDoor hD (by first | assumption | omega) ?_
          refine Rj_b_eq (q := 8) (t := 26) d_M_ratio_5 rfl (by decide) (fun c5 => ?_) (fun c5 => ?_)
          · have c5 := of_decide_eq_false c5
            refine Rj_ldc2 (q := 29) k_M_358 d_M_ratio_26 rfl ?_
            refine Rj_lret d_M_ratio_29 rfl ?_
            first | exact ⟨sm_L rfl, hC1, kp0 _, kq0 _⟩ | exact ⟨sm_L (by omega), hC1, kp0 _, kq0 _⟩ | exact ⟨sm_L (h.ratq ⟨by omega, by omega⟩ ⟨by omega, by omega⟩ (by omega) (by omega) (by omega)).symm, hC1, kp0 _, kq0 _⟩
          · have c5 := of_decide_eq_true c5
            refine Rj_aload_n (q := 9) d_M_ratio_8 rfl rfl rfl ?_
            refine Rj_iload_n (q := 10) d_M_ratio_9 rfl rfl rfl ?_
            refine Rj_vo (q := 13) (z := y_M_isDoor) (as := [vI b]) (rest := []) (la := [vA 0, vI b]) oM_0_M_isDoor ml_M_353 mw_M_isDoor mv_M_isDoor rfl d_M_ratio_10 rfl rfl rfl rfl rfl ?_
            refine s_M_isDoor hD (by first | assumption | omega) ?_
            refine Rj_b_eq (q := 16) (t := 26) d_M_ratio_13 rfl (by decide) (fun c13 => ?_) (fun c13 => ?_)
            · have c13 := of_decide_eq_false c13
              refine Rj_ldc2 (q := 29) k_M_358 d_M_ratio_26 rfl ?_
              refine Rj_lret d_M_ratio_29 rfl ?_
              first | exact ⟨sm_L rfl, hC1, kp0 _, kq0 _⟩ | exact ⟨sm_L (by omega), hC1, kp0 _, kq0 _⟩ | exact ⟨sm_L (h.ratq ⟨by omega, by omega⟩ ⟨by omega, by omega⟩ (by omega) (by omega) (by omega)).symm, hC1, kp0 _, kq0 _⟩
            · have c13 := of_decide_eq_true c13
              refine Rj_iload_n (q := 17) d_M_ratio_16 rfl rfl rfl ?_
              refine Rj_i2l (q := 18) d_M_ratio_17 rfl (by first | assumption | exact ⟨by omega, by omega⟩) ?_
              refine Rj_lconst (q := 19) (z := 0) d_M_ratio_18 rfl rfl ?_
              refine Rj_lconst (q := 20) (z := 1) d_M_ratio_19 rfl rfl ?_
              refine Rj_cs (q := 23) (z := y_M_in) (as := [vL c, vL 0, vL 1]) (rest := []) (la := [vL c, vU, vL 0, vU, vL 1, vU]) ml_M_138 mw_M_in ms_M_in d_M_ratio_20 rfl rfl rfl rfl rfl ?_
              refine s_M_in ⟨by omega, by omega⟩ (by decide) (by decide) ?_
              refine Rj_b_ne (q := 26) (t := 30) d_M_ratio_23 rfl (by decide) (fun c23 => ?_) (fun c23 => ?_)
              · have c23 := of_decide_eq_true c23
                refine Rj_aload_n (q := 31) d_M_ratio_30 rfl rfl rfl ?_
                refine Rj_iload_n (q := 32) d_M_ratio_31 rfl rfl rfl ?_
                refine Rj_iload_n (q := 33) d_M_ratio_32 rfl rfl rfl ?_
                refine Rj_vo (q := 36) (z := y_M_areJoined) (as := [vI a, vI b]) (rest := []) (la := [vA 0, vI a, vI b]) oM_0_M_areJoined ml_M_363 mw_M_areJoined mv_M_areJoined rfl d_M_ratio_33 rfl rfl rfl rfl rfl ?_
                refine s_M_areJoined2 (by omega) (by omega) (show -1 ≤ ν 14 a ∧ ν 14 a < 12 by omega) (show -1 ≤ ν 14 b ∧ ν 14 b < 12 by omega) ?_
                refine Rj_b_ne (q := 39) (t := 42) d_M_ratio_36 rfl (by decide) (fun c36 => ?_) (fun c36 => ?_)
                · have c36 := of_decide_eq_true c36
                  refine Rj_aload_n (q := 43) d_M_ratio_42 rfl rfl rfl ?_
                  refine Rj_gr (q := 46) (zd := 17) gM_M_60_0 rfl rfl d_M_ratio_43 rfl ?_
                  refine Rj_iload_n (q := 47) d_M_ratio_46 rfl rfl rfl ?_
                  refine Rj_za (q := 48) (v := ν 17 a) aM_17 rfl (by omega) rfl d_M_ratio_47 rfl ?_
                  refine Rj_if_eq (q := 51) (t := 57) d_M_ratio_48 rfl (by decide) (by first | assumption | exact ⟨by omega, by omega⟩) (fun c48 => ?_) (fun c48 => ?_)
                  · refine Rj_aload_n (q := 58) d_M_ratio_57 rfl rfl rfl ?_
                    refine Rj_iload_n (q := 59) d_M_ratio_58 rfl rfl rfl ?_
                    refine Rj_iload_n (q := 60) d_M_ratio_59 rfl rfl rfl ?_
                    refine Rj_iload_n (q := 61) d_M_ratio_60 rfl rfl rfl ?_
                    refine Rj_vo (q := 64) (z := y_M_ratioOf) (as := [vI a, vI b, vI c]) (rest := []) (la := [vA 0, vI a, vI b, vI c]) oM_0_M_ratioOf ml_M_334 mw_M_ratioOf mv_M_ratioOf rfl d_M_ratio_61 rfl rfl rfl rfl rfl ?_
                    refine s_M_ratioOf hS hH ⟨by omega, by omega⟩ ⟨by omega, by omega⟩ (by first | decide | omega) ?_
                    refine Rj_lret d_M_ratio_64 rfl ?_
                    first | exact ⟨sm_L rfl, hC1, kp0 _, kq0 _⟩ | exact ⟨sm_L (by omega), hC1, kp0 _, kq0 _⟩ | exact ⟨sm_L (h.ratq ⟨by omega, by omega⟩ ⟨by omega, by omega⟩ (by omega) (by omega) (by omega)).symm, hC1, kp0 _, kq0 _⟩
                  · refine Rj_ldc2 (q := 54) k_M_358 d_M_ratio_51 rfl ?_
                    refine Rj_goto (t := 64) d_M_ratio_54 (by decide) ?_
                    refine Rj_lret d_M_ratio_64 rfl ?_
                    first | exact ⟨sm_L rfl, hC1, kp0 _, kq0 _⟩ | exact ⟨sm_L (by omega), hC1, kp0 _, kq0 _⟩ | exact ⟨sm_L (h.ratq ⟨by omega, by omega⟩ ⟨by omega, by omega⟩ (by omega) (by omega) (by omega)).symm, hC1, kp0 _, kq0 _⟩
                · have c36 := of_decide_eq_false c36
                  refine Rj_iload_n (q := 40) d_M_ratio_39 rfl rfl rfl ?_
                  refine Rj_i2l (q := 41) d_M_ratio_40 rfl (by first | assumption | exact ⟨by omega, by omega⟩) ?_
                  refine Rj_lret d_M_ratio_41 rfl ?_
                  first | exact ⟨sm_L rfl, hC1, kp0 _, kq0 _⟩ | exact ⟨sm_L (by omega), hC1, kp0 _, kq0 _⟩ | exact ⟨sm_L (h.ratq ⟨by omega, by omega⟩ ⟨by omega, by omega⟩ (by omega) (by omega) (by omega)).symm, hC1, kp0 _, kq0 _⟩
              · have c23 := of_decide_eq_false c23
                refine Rj_ldc2 (q := 29) k_M_358 d_M_ratio_26 rfl ?_
                refine Rj_lret d_M_ratio_29 rfl ?_
                first | exact ⟨sm_L rfl, hC1, kp0 _, kq0 _⟩ | exact ⟨sm_L (by omega), hC1, kp0 _, kq0 _⟩ | exact ⟨sm_L (h.ratq ⟨by omega, by omega⟩ ⟨by omega, by omega⟩ (by omega) (by omega) (by omega)).symm, hC1, kp0 _, kq0 _⟩
        · obtain ⟨dta, dspa, tra, sra, bra, bpa, sca, lra, lqa, mra, pra, kra, zka⟩ := h.d (d := a) ⟨by omega, by omega⟩
          obtain ⟨dt, dsp, tr, sr, br, bp, sc, lr, lq, mr, pr, kr, zk⟩ := h.d (d := b) ⟨by omega, by omega⟩
          have zb := zbit_01 (μ 59 7) a
          refine Rj_iconst (q := 13) d_Sc_isDoor_12 rfl ?_
          refine Rj_goto (t := 17) d_Sc_isDoor_13 (by decide) ?_
          refine Rj_bret1 d_Sc_isDoor_17 rfl ?_
          refine Rj_if_eq (q := 22) (t := 29) d_D_ratio_19 rfl (by decide) (by decide) (fun c => absurd c (by decide)) (fun _ => ?_)
          refine Rj_iload_n (q := 23) d_D_ratio_22 rfl rfl rfl ?_
          refine Rj_cs (q := 26) (z := y_D_isPart) (as := [vI c]) (rest := []) (la := [vI c]) ml_D_170 mw_D_isPart ms_D_isPart d_D_ratio_23 rfl rfl rfl rfl rfl ?_
          refine Rj_iload_n (q := 1) d_D_isPart_0 rfl rfl rfl ?_
          refine Rj_if_eq (q := 4) (t := 9) d_D_isPart_1 rfl (by decide) (by first | assumption | exact ⟨by omega, by omega⟩) (fun c23_1 => ?_) (fun c23_1 => ?_)
          · refine Rj_iconst (q := 10) d_D_isPart_9 rfl ?_
            refine Rj_goto (t := 14) d_D_isPart_10 (by decide) ?_
            refine Rj_bret1 d_D_isPart_14 rfl ?_
            refine Rj_if_ne (q := 29) (t := 33) d_D_ratio_26 rfl (by decide) (by decide) (fun _ => ?_) (fun c => absurd c (by decide))
            refine Rj_aload_n (q := 34) d_D_ratio_33 rfl rfl rfl ?_
            refine Rj_gr (q := 37) (zd := 59) gD_D_45_0 rfl rfl d_D_ratio_34 rfl ?_
            refine Rj_gr (q := 40) (zd := 60) gD_D_167_59 rfl rfl d_D_ratio_37 rfl ?_
            refine Rj_iload_n (q := 41) d_D_ratio_40 rfl rfl rfl ?_
            refine Rj_ia (q := 42) (v := μ 60 a) aD_60 rfl (by omega) rfl d_D_ratio_41 rfl ?_
            refine Rj_aload_n (q := 43) d_D_ratio_42 rfl rfl rfl ?_
            refine Rj_gr (q := 46) (zd := 59) gD_D_45_0 rfl rfl d_D_ratio_43 rfl ?_
            refine Rj_gr (q := 49) (zd := 60) gD_D_167_59 rfl rfl d_D_ratio_46 rfl ?_
            refine Rj_iload_n (q := 50) d_D_ratio_49 rfl rfl rfl ?_
            refine Rj_ia (q := 51) (v := μ 60 b) aD_60 rfl (by omega) rfl d_D_ratio_50 rfl ?_
            refine Rj_icmp_eq (q := 54) (t := 57) d_D_ratio_51 rfl (by decide) (by first | assumption | exact ⟨by omega, by omega⟩) (by first | assumption | exact ⟨by omega, by omega⟩) (fun c51 => ?_) (fun c51 => ?_)
            · refine Rj_aload_n (q := 58) d_D_ratio_57 rfl rfl rfl ?_
              refine Rj_gr (q := 61) (zd := 59) gD_D_45_0 rfl rfl d_D_ratio_58 rfl ?_
              refine Rj_gi (q := 64) (ki := 7) (v := μ 59 7) gD_D_164_59 rfl rfl rfl d_D_ratio_61 rfl ?_
              refine Rj_iload_n (q := 65) d_D_ratio_64 rfl rfl rfl ?_
              refine Rj_cs (q := 68) (z := y_D_bitOf) (as := [vI (μ 59 7), vI a]) (rest := []) (la := [vI (μ 59 7), vI a]) ml_D_157 mw_D_bitOf ms_D_bitOf d_D_ratio_65 rfl rfl rfl rfl rfl ?_
              refine s_D_bitOf (by omega) (by omega) ?_
              refine Rj_iconst (q := 69) d_D_ratio_68 rfl ?_
              refine Rj_icmp_ne (q := 72) (t := 76) d_D_ratio_69 rfl (by decide) (by first | assumption | exact ⟨by omega, by omega⟩) (by decide) (fun c69 => ?_) (fun c69 => ?_)
              · have sp := h.st (p := a) (d := b) ⟨by omega, by omega⟩ ⟨by omega, by omega⟩ (by omega) (by omega)
                refine Rj_aload_n (q := 77) d_D_ratio_76 rfl rfl rfl ?_
                refine Rj_gr (q := 80) (zd := 59) gD_D_45_0 rfl rfl d_D_ratio_77 rfl ?_
                refine Rj_iload_n (q := 81) d_D_ratio_80 rfl rfl rfl ?_
                refine Rj_iload_n (q := 82) d_D_ratio_81 rfl rfl rfl ?_
                refine Rj_vo (q := 85) (z := y_Ge_stepOf) (as := [vI a, vI b]) (rest := []) (la := [vA 59, vI a, vI b]) oD_59_Ge_stepOf ml_D_198 mw_Ge_stepOf mv_Ge_stepOf rfl d_D_ratio_82 rfl rfl rfl rfl rfl ?_
                refine Rj_aload_n (q := 1) d_Ge_stepOf_0 rfl rfl rfl ?_
                refine Rj_gr (q := 4) (zd := 64) gD_Ge_25_59 rfl rfl d_Ge_stepOf_1 rfl ?_
                refine Rj_iload_n (q := 5) d_Ge_stepOf_4 rfl rfl rfl ?_
                refine Rj_bipush (q := 7) d_Ge_stepOf_5 rfl (by decide +kernel) ?_
                refine Rj_imul (q := 8) d_Ge_stepOf_7 rfl ?_
                refine Rj_iload_n (q := 9) d_Ge_stepOf_8 rfl rfl rfl ?_
                refine Rj_iadd (q := 10) d_Ge_stepOf_9 rfl ?_
                refine Rj_la (q := 11) (v := μ 64 ((a * 12) + b)) aD_64 rfl (by omega) rfl d_Ge_stepOf_10 rfl ?_
                refine Rj_lret d_Ge_stepOf_11 rfl ?_
                refine Rj_aload_n (q := 86) d_D_ratio_85 rfl rfl rfl ?_
                refine Rj_gr (q := 89) (zd := 59) gD_D_45_0 rfl rfl d_D_ratio_86 rfl ?_
                refine Rj_gr (q := 92) (zd := 63) gD_D_179_59 rfl rfl d_D_ratio_89 rfl ?_
                refine Rj_iload_n (q := 93) d_D_ratio_92 rfl rfl rfl ?_
                refine Rj_la (q := 94) (v := μ 63 b) aD_63 rfl (by omega) rfl d_D_ratio_93 rfl ?_
                refine Rj_iload_n (q := 95) d_D_ratio_94 rfl rfl rfl ?_
                refine Rj_cs (q := 98) (z := y_D_lowest) (as := [vL (μ 64 ((a * 12) + b)), vL (μ 63 b), vI c]) (rest := []) (la := [vL (μ 64 ((a * 12) + b)), vU, vL (μ 63 b), vU, vI c]) ml_D_182 mw_D_lowest ms_D_lowest d_D_ratio_95 rfl rfl rfl rfl rfl ?_
                refine s_D_lowest (by omega) (by omega) (by omega) (by first | assumption | exact ⟨by omega, by omega⟩) ?_
                refine Rj_lret d_D_ratio_98 rfl ?_
                refine Rj_aload_n (q := 1) d_M_ratio_0 rfl rfl rfl ?_
                refine Rj_iload_n (q := 2) d_M_ratio_1 rfl rfl rfl ?_
                refine Rj_vo (q := 5) (z := y_M_isDoor) (as := [vI a]) (rest := []) (la := [vA 0, vI a]) oM_0_M_isDoor ml_M_353 mw_M_isDoor mv_M_isDoor rfl d_M_ratio_2 rfl rfl rfl rfl rfl ?_
                refine s_M_isDoor hD (by first | assumption | omega) ?_
                refine Rj_b_eq (q := 8) (t := 26) d_M_ratio_5 rfl (by decide) (fun c5 => ?_) (fun c5 => ?_)
                · have c5 := of_decide_eq_false c5
                  refine Rj_ldc2 (q := 29) k_M_358 d_M_ratio_26 rfl ?_
                  refine Rj_lret d_M_ratio_29 rfl ?_
                  first | exact ⟨sm_L rfl, hC1, kp0 _, kq0 _⟩ | exact ⟨sm_L (by omega), hC1, kp0 _, kq0 _⟩ | exact ⟨sm_L (h.ratq ⟨by omega, by omega⟩ ⟨by omega, by omega⟩ (by omega) (by omega) (by omega)).symm, hC1, kp0 _, kq0 _⟩
                · have c5 := of_decide_eq_true c5
                  refine Rj_aload_n (q := 9) d_M_ratio_8 rfl rfl rfl ?_
                  refine Rj_iload_n (q := 10) d_M_ratio_9 rfl rfl rfl ?_
                  refine Rj_vo (q := 13) (z := y_M_isDoor) (as := [vI b]) (rest := []) (la := [vA 0, vI b]) oM_0_M_isDoor ml_M_353 mw_M_isDoor mv_M_isDoor rfl d_M_ratio_10 rfl rfl rfl rfl rfl ?_
                  refine s_M_isDoor hD (by first | assumption | omega) ?_
                  refine Rj_b_eq (q := 16) (t := 26) d_M_ratio_13 rfl (by decide) (fun c13 => ?_) (fun c13 => ?_)
                  · have c13 := of_decide_eq_false c13
                    refine Rj_ldc2 (q := 29) k_M_358 d_M_ratio_26 rfl ?_
                    refine Rj_lret d_M_ratio_29 rfl ?_
                    first | exact ⟨sm_L rfl, hC1, kp0 _, kq0 _⟩ | exact ⟨sm_L (by omega), hC1, kp0 _, kq0 _⟩ | exact ⟨sm_L (h.ratq ⟨by omega, by omega⟩ ⟨by omega, by omega⟩ (by omega) (by omega) (by omega)).symm, hC1, kp0 _, kq0 _⟩
                  · have c13 := of_decide_eq_true c13
                    refine Rj_iload_n (q := 17) d_M_ratio_16 rfl rfl rfl ?_
                    refine Rj_i2l (q := 18) d_M_ratio_17 rfl (by first | assumption | exact ⟨by omega, by omega⟩) ?_
                    refine Rj_lconst (q := 19) (z := 0) d_M_ratio_18 rfl rfl ?_
                    refine Rj_lconst (q := 20) (z := 1) d_M_ratio_19 rfl rfl ?_
                    refine Rj_cs (q := 23) (z := y_M_in) (as := [vL c, vL 0, vL 1]) (rest := []) (la := [vL c, vU, vL 0, vU, vL 1, vU]) ml_M_138 mw_M_in ms_M_in d_M_ratio_20 rfl rfl rfl rfl rfl ?_
                    refine s_M_in ⟨by omega, by omega⟩ (by decide) (by decide) ?_
                    refine Rj_b_ne (q := 26) (t := 30) d_M_ratio_23 rfl (by decide) (fun c23 => ?_) (fun c23 => ?_)
                    · have c23 := of_decide_eq_true c23
                      refine Rj_aload_n (q := 31) d_M_ratio_30 rfl rfl rfl ?_
                      refine Rj_iload_n (q := 32) d_M_ratio_31 rfl rfl rfl ?_
                      refine Rj_iload_n (q := 33) d_M_ratio_32 rfl rfl rfl ?_
                      refine Rj_vo (q := 36) (z := y_M_areJoined) (as := [vI a, vI b]) (rest := []) (la := [vA 0, vI a, vI b]) oM_0_M_areJoined ml_M_363 mw_M_areJoined mv_M_areJoined rfl d_M_ratio_33 rfl rfl rfl rfl rfl ?_
                      refine s_M_areJoined2 (by omega) (by omega) (show -1 ≤ ν 14 a ∧ ν 14 a < 12 by omega) (show -1 ≤ ν 14 b ∧ ν 14 b < 12 by omega) ?_
                      refine Rj_b_ne (q := 39) (t := 42) d_M_ratio_36 rfl (by decide) (fun c36 => ?_) (fun c36 => ?_)
                      · have c36 := of_decide_eq_true c36
                        refine Rj_aload_n (q := 43) d_M_ratio_42 rfl rfl rfl ?_
                        refine Rj_gr (q := 46) (zd := 17) gM_M_60_0 rfl rfl d_M_ratio_43 rfl ?_
                        refine Rj_iload_n (q := 47) d_M_ratio_46 rfl rfl rfl ?_
                        refine Rj_za (q := 48) (v := ν 17 a) aM_17 rfl (by omega) rfl d_M_ratio_47 rfl ?_
                        refine Rj_if_eq (q := 51) (t := 57) d_M_ratio_48 rfl (by decide) (by first | assumption | exact ⟨by omega, by omega⟩) (fun c48 => ?_) (fun c48 => ?_)
                        · refine Rj_aload_n (q := 58) d_M_ratio_57 rfl rfl rfl ?_
                          refine Rj_iload_n (q := 59) d_M_ratio_58 rfl rfl rfl ?_
                          refine Rj_iload_n (q := 60) d_M_ratio_59 rfl rfl rfl ?_
                          refine Rj_iload_n (q := 61) d_M_ratio_60 rfl rfl rfl ?_
                          refine Rj_vo (q := 64) (z := y_M_ratioOf) (as := [vI a, vI b, vI c]) (rest := []) (la := [vA 0, vI a, vI b, vI c]) oM_0_M_ratioOf ml_M_334 mw_M_ratioOf mv_M_ratioOf rfl d_M_ratio_61 rfl rfl rfl rfl rfl ?_
                          refine s_M_ratioOf hS hH ⟨by omega, by omega⟩ ⟨by omega, by omega⟩ (by first | decide | omega) ?_
                          refine Rj_lret d_M_ratio_64 rfl ?_
                          first | exact ⟨sm_L rfl, hC1, kp0 _, kq0 _⟩ | exact ⟨sm_L (by omega), hC1, kp0 _, kq0 _⟩ | exact ⟨sm_L (h.ratq ⟨by omega, by omega⟩ ⟨by omega, by omega⟩ (by omega) (by omega) (by omega)).symm, hC1, kp0 _, kq0 _⟩
                        · refine Rj_ldc2 (q := 54) k_M_358 d_M_ratio_51 rfl ?_
                          refine Rj_goto (t := 64) d_M_ratio_54 (by decide) ?_
                          refine Rj_lret d_M_ratio_64 rfl ?_
                          first | exact ⟨sm_L rfl, hC1, kp0 _, kq0 _⟩ | exact ⟨sm_L (by omega), hC1, kp0 _, kq0 _⟩ | exact ⟨sm_L (h.ratq ⟨by omega, by omega⟩ ⟨by omega, by omega⟩ (by omega) (by omega) (by omega)).symm, hC1, kp0 _, kq0 _⟩
                      · have c36 := of_decide_eq_false c36
                        refine Rj_iload_n (q := 40) d_M_ratio_39 rfl rfl rfl ?_
                        refine Rj_i2l (q := 41) d_M_ratio_40 rfl (by first | assumption | exact ⟨by omega, by omega⟩) ?_
                        refine Rj_lret d_M_ratio_41 rfl ?_
                        first | exact ⟨sm_L rfl, hC1, kp0 _, kq0 _⟩ | exact ⟨sm_L (by omega), hC1, kp0 _, kq0 _⟩ | exact ⟨sm_L (h.ratq ⟨by omega, by omega⟩ ⟨by omega, by omega⟩ (by omega) (by omega) (by omega)).symm, hC1, kp0 _, kq0 _⟩
                    · have c23 := of_decide_eq_false c23
                      refine Rj_ldc2 (q := 29) k_M_358 d_M_ratio_26 rfl ?_
                      refine Rj_lret d_M_ratio_29 rfl ?_
                      first | exact ⟨sm_L rfl, hC1, kp0 _, kq0 _⟩ | exact ⟨sm_L (by omega), hC1, kp0 _, kq0 _⟩ | exact ⟨sm_L (h.ratq ⟨by omega, by omega⟩ ⟨by omega, by omega⟩ (by omega) (by omega) (by omega)).symm, hC1, kp0 _, kq0 _⟩
              · refine Rj_ldc2 (q := 75) k_D_173 d_D_ratio_72 rfl ?_
                refine Rj_lret d_D_ratio_75 rfl ?_
                refine Rj_aload_n (q := 1) d_M_ratio_0 rfl rfl rfl ?_
                refine Rj_iload_n (q := 2) d_M_ratio_1 rfl rfl rfl ?_
                refine Rj_vo (q := 5) (z := y_M_isDoor) (as := [vI a]) (rest := []) (la := [vA 0, vI a]) oM_0_M_isDoor ml_M_353 mw_M_isDoor mv_M_isDoor rfl d_M_ratio_2 rfl rfl rfl rfl rfl ?_
                refine s_M_isDoor hD (by first | assumption | omega) ?_
                refine Rj_b_eq (q := 8) (t := 26) d_M_ratio_5 rfl (by decide) (fun c5 => ?_) (fun c5 => ?_)
                · have c5 := of_decide_eq_false c5
                  refine Rj_ldc2 (q := 29) k_M_358 d_M_ratio_26 rfl ?_
                  refine Rj_lret d_M_ratio_29 rfl ?_
                  first | exact ⟨sm_L rfl, hC1, kp0 _, kq0 _⟩ | exact ⟨sm_L (by omega), hC1, kp0 _, kq0 _⟩ | exact ⟨sm_L (h.ratq ⟨by omega, by omega⟩ ⟨by omega, by omega⟩ (by omega) (by omega) (by omega)).symm, hC1, kp0 _, kq0 _⟩
                · have c5 := of_decide_eq_true c5
                  refine Rj_aload_n (q := 9) d_M_ratio_8 rfl rfl rfl ?_
                  refine Rj_iload_n (q := 10) d_M_ratio_9 rfl rfl rfl ?_
                  refine Rj_vo (q := 13) (z := y_M_isDoor) (as := [vI b]) (rest := []) (la := [vA 0, vI b]) oM_0_M_isDoor ml_M_353 mw_M_isDoor mv_M_isDoor rfl d_M_ratio_10 rfl rfl rfl rfl rfl ?_
                  refine s_M_isDoor hD (by first | assumption | omega) ?_
                  refine Rj_b_eq (q := 16) (t := 26) d_M_ratio_13 rfl (by decide) (fun c13 => ?_) (fun c13 => ?_)
                  · have c13 := of_decide_eq_false c13
                    refine Rj_ldc2 (q := 29) k_M_358 d_M_ratio_26 rfl ?_
                    refine Rj_lret d_M_ratio_29 rfl ?_
                    first | exact ⟨sm_L rfl, hC1, kp0 _, kq0 _⟩ | exact ⟨sm_L (by omega), hC1, kp0 _, kq0 _⟩ | exact ⟨sm_L (h.ratq ⟨by omega, by omega⟩ ⟨by omega, by omega⟩ (by omega) (by omega) (by omega)).symm, hC1, kp0 _, kq0 _⟩
                  · have c13 := of_decide_eq_true c13
                    refine Rj_iload_n (q := 17) d_M_ratio_16 rfl rfl rfl ?_
                    refine Rj_i2l (q := 18) d_M_ratio_17 rfl (by first | assumption | exact ⟨by omega, by omega⟩) ?_
                    refine Rj_lconst (q := 19) (z := 0) d_M_ratio_18 rfl rfl ?_
                    refine Rj_lconst (q := 20) (z := 1) d_M_ratio_19 rfl rfl ?_
                    refine Rj_cs (q := 23) (z := y_M_in) (as := [vL c, vL 0, vL 1]) (rest := []) (la := [vL c, vU, vL 0, vU, vL 1, vU]) ml_M_138 mw_M_in ms_M_in d_M_ratio_20 rfl rfl rfl rfl rfl ?_
                    refine s_M_in ⟨by omega, by omega⟩ (by decide) (by decide) ?_
                    refine Rj_b_ne (q := 26) (t := 30) d_M_ratio_23 rfl (by decide) (fun c23 => ?_) (fun c23 => ?_)
                    · have c23 := of_decide_eq_true c23
                      refine Rj_aload_n (q := 31) d_M_ratio_30 rfl rfl rfl ?_
                      refine Rj_iload_n (q := 32) d_M_ratio_31 rfl rfl rfl ?_
                      refine Rj_iload_n (q := 33) d_M_ratio_32 rfl rfl rfl ?_
                      refine Rj_vo (q := 36) (z := y_M_areJoined) (as := [vI a, vI b]) (rest := []) (la := [vA 0, vI a, vI b]) oM_0_M_areJoined ml_M_363 mw_M_areJoined mv_M_areJoined rfl d_M_ratio_33 rfl rfl rfl rfl rfl ?_
                      refine s_M_areJoined2 (by omega) (by omega) (show -1 ≤ ν 14 a ∧ ν 14 a < 12 by omega) (show -1 ≤ ν 14 b ∧ ν 14 b < 12 by omega) ?_
                      refine Rj_b_ne (q := 39) (t := 42) d_M_ratio_36 rfl (by decide) (fun c36 => ?_) (fun c36 => ?_)
                      · have c36 := of_decide_eq_true c36
                        refine Rj_aload_n (q := 43) d_M_ratio_42 rfl rfl rfl ?_
                        refine Rj_gr (q := 46) (zd := 17) gM_M_60_0 rfl rfl d_M_ratio_43 rfl ?_
                        refine Rj_iload_n (q := 47) d_M_ratio_46 rfl rfl rfl ?_
                        refine Rj_za (q := 48) (v := ν 17 a) aM_17 rfl (by omega) rfl d_M_ratio_47 rfl ?_
                        refine Rj_if_eq (q := 51) (t := 57) d_M_ratio_48 rfl (by decide) (by first | assumption | exact ⟨by omega, by omega⟩) (fun c48 => ?_) (fun c48 => ?_)
                        · refine Rj_aload_n (q := 58) d_M_ratio_57 rfl rfl rfl ?_
                          refine Rj_iload_n (q := 59) d_M_ratio_58 rfl rfl rfl ?_
                          refine Rj_iload_n (q := 60) d_M_ratio_59 rfl rfl rfl ?_
                          refine Rj_iload_n (q := 61) d_M_ratio_60 rfl rfl rfl ?_
                          refine Rj_vo (q := 64) (z := y_M_ratioOf) (as := [vI a, vI b, vI c]) (rest := []) (la := [vA 0, vI a, vI b, vI c]) oM_0_M_ratioOf ml_M_334 mw_M_ratioOf mv_M_ratioOf rfl d_M_ratio_61 rfl rfl rfl rfl rfl ?_
                          refine s_M_ratioOf hS hH ⟨by omega, by omega⟩ ⟨by omega, by omega⟩ (by first | decide | omega) ?_
                          refine Rj_lret d_M_ratio_64 rfl ?_
                          first | exact ⟨sm_L rfl, hC1, kp0 _, kq0 _⟩ | exact ⟨sm_L (by omega), hC1, kp0 _, kq0 _⟩ | exact ⟨sm_L (h.ratq ⟨by omega, by omega⟩ ⟨by omega, by omega⟩ (by omega) (by omega) (by omega)).symm, hC1, kp0 _, kq0 _⟩
                        · refine Rj_ldc2 (q := 54) k_M_358 d_M_ratio_51 rfl ?_
                          refine Rj_goto (t := 64) d_M_ratio_54 (by decide) ?_
                          refine Rj_lret d_M_ratio_64 rfl ?_
                          first | exact ⟨sm_L rfl, hC1, kp0 _, kq0 _⟩ | exact ⟨sm_L (by omega), hC1, kp0 _, kq0 _⟩ | exact ⟨sm_L (h.ratq ⟨by omega, by omega⟩ ⟨by omega, by omega⟩ (by omega) (by omega) (by omega)).symm, hC1, kp0 _, kq0 _⟩
                      · have c36 := of_decide_eq_false c36
                        refine Rj_iload_n (q := 40) d_M_ratio_39 rfl rfl rfl ?_
                        refine Rj_i2l (q := 41) d_M_ratio_40 rfl (by first | assumption | exact ⟨by omega, by omega⟩) ?_
                        refine Rj_lret d_M_ratio_41 rfl ?_
                        first | exact ⟨sm_L rfl, hC1, kp0 _, kq0 _⟩ | exact ⟨sm_L (by omega), hC1, kp0 _, kq0 _⟩ | exact ⟨sm_L (h.ratq ⟨by omega, by omega⟩ ⟨by omega, by omega⟩ (by omega) (by omega) (by omega)).symm, hC1, kp0 _, kq0 _⟩
                    · have c23 := of_decide_eq_false c23
                      refine Rj_ldc2 (q := 29) k_M_358 d_M_ratio_26 rfl ?_
                      refine Rj_lret d_M_ratio_29 rfl ?_
                      first | exact ⟨sm_L rfl, hC1, kp0 _, kq0 _⟩ | exact ⟨sm_L (by omega), hC1, kp0 _, kq0 _⟩ | exact ⟨sm_L (h.ratq ⟨by omega, by omega⟩ ⟨by omega, by omega⟩ (by omega) (by omega) (by omega)).symm, hC1, kp0 _, kq0 _⟩
            · refine Rj_iload_n (q := 55) d_D_ratio_54 rfl rfl rfl ?_
              refine Rj_i2l (q := 56) d_D_ratio_55 rfl (by first | assumption | exact ⟨by omega, by omega⟩) ?_
              refine Rj_lret d_D_ratio_56 rfl ?_
              refine Rj_aload_n (q := 1) d_M_ratio_0 rfl rfl rfl ?_
              refine Rj_iload_n (q := 2) d_M_ratio_1 rfl rfl rfl ?_
              refine Rj_vo (q := 5) (z := y_M_isDoor) (as := [vI a]) (rest := []) (la := [vA 0, vI a]) oM_0_M_isDoor ml_M_353 mw_M_isDoor mv_M_isDoor rfl d_M_ratio_2 rfl rfl rfl rfl rfl ?_
              refine s_M_isDoor hD (by first | assumption | omega) ?_
              refine Rj_b_eq (q := 8) (t := 26) d_M_ratio_5 rfl (by decide) (fun c5 => ?_) (fun c5 => ?_)
              · have c5 := of_decide_eq_false c5
                refine Rj_ldc2 (q := 29) k_M_358 d_M_ratio_26 rfl ?_
                refine Rj_lret d_M_ratio_29 rfl ?_
                first | exact ⟨sm_L rfl, hC1, kp0 _, kq0 _⟩ | exact ⟨sm_L (by omega), hC1, kp0 _, kq0 _⟩ | exact ⟨sm_L (h.ratq ⟨by omega, by omega⟩ ⟨by omega, by omega⟩ (by omega) (by omega) (by omega)).symm, hC1, kp0 _, kq0 _⟩
              · have c5 := of_decide_eq_true c5
                refine Rj_aload_n (q := 9) d_M_ratio_8 rfl rfl rfl ?_
                refine Rj_iload_n (q := 10) d_M_ratio_9 rfl rfl rfl ?_
                refine Rj_vo (q := 13) (z := y_M_isDoor) (as := [vI b]) (rest := []) (la := [vA 0, vI b]) oM_0_M_isDoor ml_M_353 mw_M_isDoor mv_M_isDoor rfl d_M_ratio_10 rfl rfl rfl rfl rfl ?_
                refine s_M_isDoor hD (by first | assumption | omega) ?_
                refine Rj_b_eq (q := 16) (t := 26) d_M_ratio_13 rfl (by decide) (fun c13 => ?_) (fun c13 => ?_)
                · have c13 := of_decide_eq_false c13
                  refine Rj_ldc2 (q := 29) k_M_358 d_M_ratio_26 rfl ?_
                  refine Rj_lret d_M_ratio_29 rfl ?_
                  first | exact ⟨sm_L rfl, hC1, kp0 _, kq0 _⟩ | exact ⟨sm_L (by omega), hC1, kp0 _, kq0 _⟩ | exact ⟨sm_L (h.ratq ⟨by omega, by omega⟩ ⟨by omega, by omega⟩ (by omega) (by omega) (by omega)).symm, hC1, kp0 _, kq0 _⟩
                · have c13 := of_decide_eq_true c13
                  refine Rj_iload_n (q := 17) d_M_ratio_16 rfl rfl rfl ?_
                  refine Rj_i2l (q := 18) d_M_ratio_17 rfl (by first | assumption | exact ⟨by omega, by omega⟩) ?_
                  refine Rj_lconst (q := 19) (z := 0) d_M_ratio_18 rfl rfl ?_
                  refine Rj_lconst (q := 20) (z := 1) d_M_ratio_19 rfl rfl ?_
                  refine Rj_cs (q := 23) (z := y_M_in) (as := [vL c, vL 0, vL 1]) (rest := []) (la := [vL c, vU, vL 0, vU, vL 1, vU]) ml_M_138 mw_M_in ms_M_in d_M_ratio_20 rfl rfl rfl rfl rfl ?_
                  refine s_M_in ⟨by omega, by omega⟩ (by decide) (by decide) ?_
                  refine Rj_b_ne (q := 26) (t := 30) d_M_ratio_23 rfl (by decide) (fun c23 => ?_) (fun c23 => ?_)
                  · have c23 := of_decide_eq_true c23
                    refine Rj_aload_n (q := 31) d_M_ratio_30 rfl rfl rfl ?_
                    refine Rj_iload_n (q := 32) d_M_ratio_31 rfl rfl rfl ?_
                    refine Rj_iload_n (q := 33) d_M_ratio_32 rfl rfl rfl ?_
                    refine Rj_vo (q := 36) (z := y_M_areJoined) (as := [vI a, vI b]) (rest := []) (la := [vA 0, vI a, vI b]) oM_0_M_areJoined ml_M_363 mw_M_areJoined mv_M_areJoined rfl d_M_ratio_33 rfl rfl rfl rfl rfl ?_
                    refine s_M_areJoined2 (by omega) (by omega) (show -1 ≤ ν 14 a ∧ ν 14 a < 12 by omega) (show -1 ≤ ν 14 b ∧ ν 14 b < 12 by omega) ?_
                    refine Rj_b_ne (q := 39) (t := 42) d_M_ratio_36 rfl (by decide) (fun c36 => ?_) (fun c36 => ?_)
                    · have c36 := of_decide_eq_true c36
                      refine Rj_aload_n (q := 43) d_M_ratio_42 rfl rfl rfl ?_
                      refine Rj_gr (q := 46) (zd := 17) gM_M_60_0 rfl rfl d_M_ratio_43 rfl ?_
                      refine Rj_iload_n (q := 47) d_M_ratio_46 rfl rfl rfl ?_
                      refine Rj_za (q := 48) (v := ν 17 a) aM_17 rfl (by omega) rfl d_M_ratio_47 rfl ?_
                      refine Rj_if_eq (q := 51) (t := 57) d_M_ratio_48 rfl (by decide) (by first | assumption | exact ⟨by omega, by omega⟩) (fun c48 => ?_) (fun c48 => ?_)
                      · refine Rj_aload_n (q := 58) d_M_ratio_57 rfl rfl rfl ?_
                        refine Rj_iload_n (q := 59) d_M_ratio_58 rfl rfl rfl ?_
                        refine Rj_iload_n (q := 60) d_M_ratio_59 rfl rfl rfl ?_
                        refine Rj_iload_n (q := 61) d_M_ratio_60 rfl rfl rfl ?_
                        refine Rj_vo (q := 64) (z := y_M_ratioOf) (as := [vI a, vI b, vI c]) (rest := []) (la := [vA 0, vI a, vI b, vI c]) oM_0_M_ratioOf ml_M_334 mw_M_ratioOf mv_M_ratioOf rfl d_M_ratio_61 rfl rfl rfl rfl rfl ?_
                        refine s_M_ratioOf hS hH ⟨by omega, by omega⟩ ⟨by omega, by omega⟩ (by first | decide | omega) ?_
                        refine Rj_lret d_M_ratio_64 rfl ?_
                        first | exact ⟨sm_L rfl, hC1, kp0 _, kq0 _⟩ | exact ⟨sm_L (by omega), hC1, kp0 _, kq0 _⟩ | exact ⟨sm_L (h.ratq ⟨by omega, by omega⟩ ⟨by omega, by omega⟩ (by omega) (by omega) (by omega)).symm, hC1, kp0 _, kq0 _⟩
                      · refine Rj_ldc2 (q := 54) k_M_358 d_M_ratio_51 rfl ?_
                        refine Rj_goto (t := 64) d_M_ratio_54 (by decide) ?_
                        refine Rj_lret d_M_ratio_64 rfl ?_
                        first | exact ⟨sm_L rfl, hC1, kp0 _, kq0 _⟩ | exact ⟨sm_L (by omega), hC1, kp0 _, kq0 _⟩ | exact ⟨sm_L (h.ratq ⟨by omega, by omega⟩ ⟨by omega, by omega⟩ (by omega) (by omega) (by omega)).symm, hC1, kp0 _, kq0 _⟩
                    · have c36 := of_decide_eq_false c36
                      refine Rj_iload_n (q := 40) d_M_ratio_39 rfl rfl rfl ?_
                      refine Rj_i2l (q := 41) d_M_ratio_40 rfl (by first | assumption | exact ⟨by omega, by omega⟩) ?_
                      refine Rj_lret d_M_ratio_41 rfl ?_
                      first | exact ⟨sm_L rfl, hC1, kp0 _, kq0 _⟩ | exact ⟨sm_L (by omega), hC1, kp0 _, kq0 _⟩ | exact ⟨sm_L (h.ratq ⟨by omega, by omega⟩ ⟨by omega, by omega⟩ (by omega) (by omega) (by omega)).symm, hC1, kp0 _, kq0 _⟩
                  · have c23 := of_decide_eq_false c23
                    refine Rj_ldc2 (q := 29) k_M_358 d_M_ratio_26 rfl ?_
                    refine Rj_lret d_M_ratio_29 rfl ?_
                    first | exact ⟨sm_L rfl, hC1, kp0 _, kq0 _⟩ | exact ⟨sm_L (by omega), hC1, kp0 _, kq0 _⟩ | exact ⟨sm_L (h.ratq ⟨by omega, by omega⟩ ⟨by omega, by omega⟩ (by omega) (by omega) (by omega)).symm, hC1, kp0 _, kq0 _⟩
          · refine Rj_iload_n (q := 5) d_D_isPart_4 rfl rfl rfl ?_
            refine Rj_iconst (q := 6) d_D_isPart_5 rfl ?_
            refine Rj_icmp_ne (q := 9) (t := 13) d_D_isPart_6 rfl (by decide) (by first | assumption | exact ⟨by omega, by omega⟩) (by decide) (fun c23_6 => ?_) (fun c23_6 => ?_)
            · refine Rj_iconst (q := 14) d_D_isPart_13 rfl ?_
              refine Rj_bret0 d_D_isPart_14 rfl ?_
              refine Rj_if_ne (q := 29) (t := 33) d_D_ratio_26 rfl (by decide) (by decide) (fun c => absurd c (by decide)) (fun _ => ?_)
              refine Rj_ldc2 (q := 32) k_D_173 d_D_ratio_29 rfl ?_
              refine Rj_lret d_D_ratio_32 rfl ?_
              refine Rj_aload_n (q := 1) d_M_ratio_0 rfl rfl rfl ?_
              refine Rj_iload_n (q := 2) d_M_ratio_1 rfl rfl rfl ?_
              refine Rj_vo (q := 5) (z := y_M_isDoor) (as := [vI a]) (rest := []) (la := [vA 0, vI a]) oM_0_M_isDoor ml_M_353 mw_M_isDoor mv_M_isDoor rfl d_M_ratio_2 rfl rfl rfl rfl rfl ?_
              refine s_M_isDoor hD (by first | assumption | omega) ?_
              refine Rj_b_eq (q := 8) (t := 26) d_M_ratio_5 rfl (by decide) (fun c5 => ?_) (fun c5 => ?_)
              · have c5 := of_decide_eq_false c5
                refine Rj_ldc2 (q := 29) k_M_358 d_M_ratio_26 rfl ?_
                refine Rj_lret d_M_ratio_29 rfl ?_
                first | exact ⟨sm_L rfl, hC1, kp0 _, kq0 _⟩ | exact ⟨sm_L (by omega), hC1, kp0 _, kq0 _⟩ | exact ⟨sm_L (h.ratq ⟨by omega, by omega⟩ ⟨by omega, by omega⟩ (by omega) (by omega) (by omega)).symm, hC1, kp0 _, kq0 _⟩
              · have c5 := of_decide_eq_true c5
                refine Rj_aload_n (q := 9) d_M_ratio_8 rfl rfl rfl ?_
                refine Rj_iload_n (q := 10) d_M_ratio_9 rfl rfl rfl ?_
                refine Rj_vo (q := 13) (z := y_M_isDoor) (as := [vI b]) (rest := []) (la := [vA 0, vI b]) oM_0_M_isDoor ml_M_353 mw_M_isDoor mv_M_isDoor rfl d_M_ratio_10 rfl rfl rfl rfl rfl ?_
                refine s_M_isDoor hD (by first | assumption | omega) ?_
                refine Rj_b_eq (q := 16) (t := 26) d_M_ratio_13 rfl (by decide) (fun c13 => ?_) (fun c13 => ?_)
                · have c13 := of_decide_eq_false c13
                  refine Rj_ldc2 (q := 29) k_M_358 d_M_ratio_26 rfl ?_
                  refine Rj_lret d_M_ratio_29 rfl ?_
                  first | exact ⟨sm_L rfl, hC1, kp0 _, kq0 _⟩ | exact ⟨sm_L (by omega), hC1, kp0 _, kq0 _⟩ | exact ⟨sm_L (h.ratq ⟨by omega, by omega⟩ ⟨by omega, by omega⟩ (by omega) (by omega) (by omega)).symm, hC1, kp0 _, kq0 _⟩
                · have c13 := of_decide_eq_true c13
                  refine Rj_iload_n (q := 17) d_M_ratio_16 rfl rfl rfl ?_
                  refine Rj_i2l (q := 18) d_M_ratio_17 rfl (by first | assumption | exact ⟨by omega, by omega⟩) ?_
                  refine Rj_lconst (q := 19) (z := 0) d_M_ratio_18 rfl rfl ?_
                  refine Rj_lconst (q := 20) (z := 1) d_M_ratio_19 rfl rfl ?_
                  refine Rj_cs (q := 23) (z := y_M_in) (as := [vL c, vL 0, vL 1]) (rest := []) (la := [vL c, vU, vL 0, vU, vL 1, vU]) ml_M_138 mw_M_in ms_M_in d_M_ratio_20 rfl rfl rfl rfl rfl ?_
                  refine s_M_in ⟨by omega, by omega⟩ (by decide) (by decide) ?_
                  refine Rj_b_ne (q := 26) (t := 30) d_M_ratio_23 rfl (by decide) (fun c23 => ?_) (fun c23 => ?_)
                  · have c23 := of_decide_eq_true c23
                    refine Rj_aload_n (q := 31) d_M_ratio_30 rfl rfl rfl ?_
                    refine Rj_iload_n (q := 32) d_M_ratio_31 rfl rfl rfl ?_
                    refine Rj_iload_n (q := 33) d_M_ratio_32 rfl rfl rfl ?_
                    refine Rj_vo (q := 36) (z := y_M_areJoined) (as := [vI a, vI b]) (rest := []) (la := [vA 0, vI a, vI b]) oM_0_M_areJoined ml_M_363 mw_M_areJoined mv_M_areJoined rfl d_M_ratio_33 rfl rfl rfl rfl rfl ?_
                    refine s_M_areJoined2 (by omega) (by omega) (show -1 ≤ ν 14 a ∧ ν 14 a < 12 by omega) (show -1 ≤ ν 14 b ∧ ν 14 b < 12 by omega) ?_
                    refine Rj_b_ne (q := 39) (t := 42) d_M_ratio_36 rfl (by decide) (fun c36 => ?_) (fun c36 => ?_)
                    · have c36 := of_decide_eq_true c36
                      refine Rj_aload_n (q := 43) d_M_ratio_42 rfl rfl rfl ?_
                      refine Rj_gr (q := 46) (zd := 17) gM_M_60_0 rfl rfl d_M_ratio_43 rfl ?_
                      refine Rj_iload_n (q := 47) d_M_ratio_46 rfl rfl rfl ?_
                      refine Rj_za (q := 48) (v := ν 17 a) aM_17 rfl (by omega) rfl d_M_ratio_47 rfl ?_
                      refine Rj_if_eq (q := 51) (t := 57) d_M_ratio_48 rfl (by decide) (by first | assumption | exact ⟨by omega, by omega⟩) (fun c48 => ?_) (fun c48 => ?_)
                      · refine Rj_aload_n (q := 58) d_M_ratio_57 rfl rfl rfl ?_
                        refine Rj_iload_n (q := 59) d_M_ratio_58 rfl rfl rfl ?_
                        refine Rj_iload_n (q := 60) d_M_ratio_59 rfl rfl rfl ?_
                        refine Rj_iload_n (q := 61) d_M_ratio_60 rfl rfl rfl ?_
                        refine Rj_vo (q := 64) (z := y_M_ratioOf) (as := [vI a, vI b, vI c]) (rest := []) (la := [vA 0, vI a, vI b, vI c]) oM_0_M_ratioOf ml_M_334 mw_M_ratioOf mv_M_ratioOf rfl d_M_ratio_61 rfl rfl rfl rfl rfl ?_
                        refine s_M_ratioOf hS hH ⟨by omega, by omega⟩ ⟨by omega, by omega⟩ (by first | decide | omega) ?_
                        refine Rj_lret d_M_ratio_64 rfl ?_
                        first | exact ⟨sm_L rfl, hC1, kp0 _, kq0 _⟩ | exact ⟨sm_L (by omega), hC1, kp0 _, kq0 _⟩ | exact ⟨sm_L (h.ratq ⟨by omega, by omega⟩ ⟨by omega, by omega⟩ (by omega) (by omega) (by omega)).symm, hC1, kp0 _, kq0 _⟩
                      · refine Rj_ldc2 (q := 54) k_M_358 d_M_ratio_51 rfl ?_
                        refine Rj_goto (t := 64) d_M_ratio_54 (by decide) ?_
                        refine Rj_lret d_M_ratio_64 rfl ?_
                        first | exact ⟨sm_L rfl, hC1, kp0 _, kq0 _⟩ | exact ⟨sm_L (by omega), hC1, kp0 _, kq0 _⟩ | exact ⟨sm_L (h.ratq ⟨by omega, by omega⟩ ⟨by omega, by omega⟩ (by omega) (by omega) (by omega)).symm, hC1, kp0 _, kq0 _⟩
                    · have c36 := of_decide_eq_false c36
                      refine Rj_iload_n (q := 40) d_M_ratio_39 rfl rfl rfl ?_
                      refine Rj_i2l (q := 41) d_M_ratio_40 rfl (by first | assumption | exact ⟨by omega, by omega⟩) ?_
                      refine Rj_lret d_M_ratio_41 rfl ?_
                      first | exact ⟨sm_L rfl, hC1, kp0 _, kq0 _⟩ | exact ⟨sm_L (by omega), hC1, kp0 _, kq0 _⟩ | exact ⟨sm_L (h.ratq ⟨by omega, by omega⟩ ⟨by omega, by omega⟩ (by omega) (by omega) (by omega)).symm, hC1, kp0 _, kq0 _⟩
                  · have c23 := of_decide_eq_false c23
                    refine Rj_ldc2 (q := 29) k_M_358 d_M_ratio_26 rfl ?_
                    refine Rj_lret d_M_ratio_29 rfl ?_
                    first | exact ⟨sm_L rfl, hC1, kp0 _, kq0 _⟩ | exact ⟨sm_L (by omega), hC1, kp0 _, kq0 _⟩ | exact ⟨sm_L (h.ratq ⟨by omega, by omega⟩ ⟨by omega, by omega⟩ (by omega) (by omega) (by omega)).symm, hC1, kp0 _, kq0 _⟩
            · refine Rj_iconst (q := 10) d_D_isPart_9 rfl ?_
              refine Rj_goto (t := 14) d_D_isPart_10 (by decide) ?_
              refine Rj_bret1 d_D_isPart_14 rfl ?_
              refine Rj_if_ne (q := 29) (t := 33) d_D_ratio_26 rfl (by decide) (by decide) (fun _ => ?_) (fun c => absurd c (by decide))
              refine Rj_aload_n (q := 34) d_D_ratio_33 rfl rfl rfl ?_
              refine Rj_gr (q := 37) (zd := 59) gD_D_45_0 rfl rfl d_D_ratio_34 rfl ?_
              refine Rj_gr (q := 40) (zd := 60) gD_D_167_59 rfl rfl d_D_ratio_37 rfl ?_
              refine Rj_iload_n (q := 41) d_D_ratio_40 rfl rfl rfl ?_
              refine Rj_ia (q := 42) (v := μ 60 a) aD_60 rfl (by omega) rfl d_D_ratio_41 rfl ?_
              refine Rj_aload_n (q := 43) d_D_ratio_42 rfl rfl rfl ?_
              refine Rj_gr (q := 46) (zd := 59) gD_D_45_0 rfl rfl d_D_ratio_43 rfl ?_
              refine Rj_gr (q := 49) (zd := 60) gD_D_167_59 rfl rfl d_D_ratio_46 rfl ?_
              refine Rj_iload_n (q := 50) d_D_ratio_49 rfl rfl rfl ?_
              refine Rj_ia (q := 51) (v := μ 60 b) aD_60 rfl (by omega) rfl d_D_ratio_50 rfl ?_
              refine Rj_icmp_eq (q := 54) (t := 57) d_D_ratio_51 rfl (by decide) (by first | assumption | exact ⟨by omega, by omega⟩) (by first | assumption | exact ⟨by omega, by omega⟩) (fun c51 => ?_) (fun c51 => ?_)
              · refine Rj_aload_n (q := 58) d_D_ratio_57 rfl rfl rfl ?_
                refine Rj_gr (q := 61) (zd := 59) gD_D_45_0 rfl rfl d_D_ratio_58 rfl ?_
                refine Rj_gi (q := 64) (ki := 7) (v := μ 59 7) gD_D_164_59 rfl rfl rfl d_D_ratio_61 rfl ?_
                refine Rj_iload_n (q := 65) d_D_ratio_64 rfl rfl rfl ?_
                refine Rj_cs (q := 68) (z := y_D_bitOf) (as := [vI (μ 59 7), vI a]) (rest := []) (la := [vI (μ 59 7), vI a]) ml_D_157 mw_D_bitOf ms_D_bitOf d_D_ratio_65 rfl rfl rfl rfl rfl ?_
                refine s_D_bitOf (by omega) (by omega) ?_
                refine Rj_iconst (q := 69) d_D_ratio_68 rfl ?_
                refine Rj_icmp_ne (q := 72) (t := 76) d_D_ratio_69 rfl (by decide) (by first | assumption | exact ⟨by omega, by omega⟩) (by decide) (fun c69 => ?_) (fun c69 => ?_)
                · have sp := h.st (p := a) (d := b) ⟨by omega, by omega⟩ ⟨by omega, by omega⟩ (by omega) (by omega)
                  refine Rj_aload_n (q := 77) d_D_ratio_76 rfl rfl rfl ?_
                  refine Rj_gr (q := 80) (zd := 59) gD_D_45_0 rfl rfl d_D_ratio_77 rfl ?_
                  refine Rj_iload_n (q := 81) d_D_ratio_80 rfl rfl rfl ?_
                  refine Rj_iload_n (q := 82) d_D_ratio_81 rfl rfl rfl ?_
                  refine Rj_vo (q := 85) (z := y_Ge_stepOf) (as := [vI a, vI b]) (rest := []) (la := [vA 59, vI a, vI b]) oD_59_Ge_stepOf ml_D_198 mw_Ge_stepOf mv_Ge_stepOf rfl d_D_ratio_82 rfl rfl rfl rfl rfl ?_
                  refine Rj_aload_n (q := 1) d_Ge_stepOf_0 rfl rfl rfl ?_
                  refine Rj_gr (q := 4) (zd := 64) gD_Ge_25_59 rfl rfl d_Ge_stepOf_1 rfl ?_
                  refine Rj_iload_n (q := 5) d_Ge_stepOf_4 rfl rfl rfl ?_
                  refine Rj_bipush (q := 7) d_Ge_stepOf_5 rfl (by decide +kernel) ?_
                  refine Rj_imul (q := 8) d_Ge_stepOf_7 rfl ?_
                  refine Rj_iload_n (q := 9) d_Ge_stepOf_8 rfl rfl rfl ?_
                  refine Rj_iadd (q := 10) d_Ge_stepOf_9 rfl ?_
                  refine Rj_la (q := 11) (v := μ 64 ((a * 12) + b)) aD_64 rfl (by omega) rfl d_Ge_stepOf_10 rfl ?_
                  refine Rj_lret d_Ge_stepOf_11 rfl ?_
                  refine Rj_aload_n (q := 86) d_D_ratio_85 rfl rfl rfl ?_
                  refine Rj_gr (q := 89) (zd := 59) gD_D_45_0 rfl rfl d_D_ratio_86 rfl ?_
                  refine Rj_gr (q := 92) (zd := 63) gD_D_179_59 rfl rfl d_D_ratio_89 rfl ?_
                  refine Rj_iload_n (q := 93) d_D_ratio_92 rfl rfl rfl ?_
                  refine Rj_la (q := 94) (v := μ 63 b) aD_63 rfl (by omega) rfl d_D_ratio_93 rfl ?_
                  refine Rj_iload_n (q := 95) d_D_ratio_94 rfl rfl rfl ?_
                  refine Rj_cs (q := 98) (z := y_D_lowest) (as := [vL (μ 64 ((a * 12) + b)), vL (μ 63 b), vI c]) (rest := []) (la := [vL (μ 64 ((a * 12) + b)), vU, vL (μ 63 b), vU, vI c]) ml_D_182 mw_D_lowest ms_D_lowest d_D_ratio_95 rfl rfl rfl rfl rfl ?_
                  refine s_D_lowest (by omega) (by omega) (by omega) (by first | assumption | exact ⟨by omega, by omega⟩) ?_
                  refine Rj_lret d_D_ratio_98 rfl ?_
                  refine Rj_aload_n (q := 1) d_M_ratio_0 rfl rfl rfl ?_
                  refine Rj_iload_n (q := 2) d_M_ratio_1 rfl rfl rfl ?_
                  refine Rj_vo (q := 5) (z := y_M_isDoor) (as := [vI a]) (rest := []) (la := [vA 0, vI a]) oM_0_M_isDoor ml_M_353 mw_M_isDoor mv_M_isDoor rfl d_M_ratio_2 rfl rfl rfl rfl rfl ?_
                  refine s_M_isDoor hD (by first | assumption | omega) ?_
                  refine Rj_b_eq (q := 8) (t := 26) d_M_ratio_5 rfl (by decide) (fun c5 => ?_) (fun c5 => ?_)
                  · have c5 := of_decide_eq_false c5
                    refine Rj_ldc2 (q := 29) k_M_358 d_M_ratio_26 rfl ?_
                    refine Rj_lret d_M_ratio_29 rfl ?_
                    first | exact ⟨sm_L rfl, hC1, kp0 _, kq0 _⟩ | exact ⟨sm_L (by omega), hC1, kp0 _, kq0 _⟩ | exact ⟨sm_L (h.ratq ⟨by omega, by omega⟩ ⟨by omega, by omega⟩ (by omega) (by omega) (by omega)).symm, hC1, kp0 _, kq0 _⟩
                  · have c5 := of_decide_eq_true c5
                    refine Rj_aload_n (q := 9) d_M_ratio_8 rfl rfl rfl ?_
                    refine Rj_iload_n (q := 10) d_M_ratio_9 rfl rfl rfl ?_
                    refine Rj_vo (q := 13) (z := y_M_isDoor) (as := [vI b]) (rest := []) (la := [vA 0, vI b]) oM_0_M_isDoor ml_M_353 mw_M_isDoor mv_M_isDoor rfl d_M_ratio_10 rfl rfl rfl rfl rfl ?_
                    refine s_M_isDoor hD (by first | assumption | omega) ?_
                    refine Rj_b_eq (q := 16) (t := 26) d_M_ratio_13 rfl (by decide) (fun c13 => ?_) (fun c13 => ?_)
                    · have c13 := of_decide_eq_false c13
                      refine Rj_ldc2 (q := 29) k_M_358 d_M_ratio_26 rfl ?_
                      refine Rj_lret d_M_ratio_29 rfl ?_
                      first | exact ⟨sm_L rfl, hC1, kp0 _, kq0 _⟩ | exact ⟨sm_L (by omega), hC1, kp0 _, kq0 _⟩ | exact ⟨sm_L (h.ratq ⟨by omega, by omega⟩ ⟨by omega, by omega⟩ (by omega) (by omega) (by omega)).symm, hC1, kp0 _, kq0 _⟩
                    · have c13 := of_decide_eq_true c13
                      refine Rj_iload_n (q := 17) d_M_ratio_16 rfl rfl rfl ?_
                      refine Rj_i2l (q := 18) d_M_ratio_17 rfl (by first | assumption | exact ⟨by omega, by omega⟩) ?_
                      refine Rj_lconst (q := 19) (z := 0) d_M_ratio_18 rfl rfl ?_
                      refine Rj_lconst (q := 20) (z := 1) d_M_ratio_19 rfl rfl ?_
                      refine Rj_cs (q := 23) (z := y_M_in) (as := [vL c, vL 0, vL 1]) (rest := []) (la := [vL c, vU, vL 0, vU, vL 1, vU]) ml_M_138 mw_M_in ms_M_in d_M_ratio_20 rfl rfl rfl rfl rfl ?_
                      refine s_M_in ⟨by omega, by omega⟩ (by decide) (by decide) ?_
                      refine Rj_b_ne (q := 26) (t := 30) d_M_ratio_23 rfl (by decide) (fun c23 => ?_) (fun c23 => ?_)
                      · have c23 := of_decide_eq_true c23
                        refine Rj_aload_n (q := 31) d_M_ratio_30 rfl rfl rfl ?_
                        refine Rj_iload_n (q := 32) d_M_ratio_31 rfl rfl rfl ?_
                        refine Rj_iload_n (q := 33) d_M_ratio_32 rfl rfl rfl ?_
                        refine Rj_vo (q := 36) (z := y_M_areJoined) (as := [vI a, vI b]) (rest := []) (la := [vA 0, vI a, vI b]) oM_0_M_areJoined ml_M_363 mw_M_areJoined mv_M_areJoined rfl d_M_ratio_33 rfl rfl rfl rfl rfl ?_
                        refine s_M_areJoined2 (by omega) (by omega) (show -1 ≤ ν 14 a ∧ ν 14 a < 12 by omega) (show -1 ≤ ν 14 b ∧ ν 14 b < 12 by omega) ?_
                        refine Rj_b_ne (q := 39) (t := 42) d_M_ratio_36 rfl (by decide) (fun c36 => ?_) (fun c36 => ?_)
                        · have c36 := of_decide_eq_true c36
                          refine Rj_aload_n (q := 43) d_M_ratio_42 rfl rfl rfl ?_
                          refine Rj_gr (q := 46) (zd := 17) gM_M_60_0 rfl rfl d_M_ratio_43 rfl ?_
                          refine Rj_iload_n (q := 47) d_M_ratio_46 rfl rfl rfl ?_
                          refine Rj_za (q := 48) (v := ν 17 a) aM_17 rfl (by omega) rfl d_M_ratio_47 rfl ?_
                          refine Rj_if_eq (q := 51) (t := 57) d_M_ratio_48 rfl (by decide) (by first | assumption | exact ⟨by omega, by omega⟩) (fun c48 => ?_) (fun c48 => ?_)
                          · refine Rj_aload_n (q := 58) d_M_ratio_57 rfl rfl rfl ?_
                            refine Rj_iload_n (q := 59) d_M_ratio_58 rfl rfl rfl ?_
                            refine Rj_iload_n (q := 60) d_M_ratio_59 rfl rfl rfl ?_
                            refine Rj_iload_n (q := 61) d_M_ratio_60 rfl rfl rfl ?_
                            refine Rj_vo (q := 64) (z := y_M_ratioOf) (as := [vI a, vI b, vI c]) (rest := []) (la := [vA 0, vI a, vI b, vI c]) oM_0_M_ratioOf ml_M_334 mw_M_ratioOf mv_M_ratioOf rfl d_M_ratio_61 rfl rfl rfl rfl rfl ?_
                            refine s_M_ratioOf hS hH ⟨by omega, by omega⟩ ⟨by omega, by omega⟩ (by first | decide | omega) ?_
                            refine Rj_lret d_M_ratio_64 rfl ?_
                            first | exact ⟨sm_L rfl, hC1, kp0 _, kq0 _⟩ | exact ⟨sm_L (by omega), hC1, kp0 _, kq0 _⟩ | exact ⟨sm_L (h.ratq ⟨by omega, by omega⟩ ⟨by omega, by omega⟩ (by omega) (by omega) (by omega)).symm, hC1, kp0 _, kq0 _⟩
                          · refine Rj_ldc2 (q := 54) k_M_358 d_M_ratio_51 rfl ?_
                            refine Rj_goto (t := 64) d_M_ratio_54 (by decide) ?_
                            refine Rj_lret d_M_ratio_64 rfl ?_
                            first | exact ⟨sm_L rfl, hC1, kp0 _, kq0 _⟩ | exact ⟨sm_L (by omega), hC1, kp0 _, kq0 _⟩ | exact ⟨sm_L (h.ratq ⟨by omega, by omega⟩ ⟨by omega, by omega⟩ (by omega) (by omega) (by omega)).symm, hC1, kp0 _, kq0 _⟩
                        · have c36 := of_decide_eq_false c36
                          refine Rj_iload_n (q := 40) d_M_ratio_39 rfl rfl rfl ?_
                          refine Rj_i2l (q := 41) d_M_ratio_40 rfl (by first | assumption | exact ⟨by omega, by omega⟩) ?_
                          refine Rj_lret d_M_ratio_41 rfl ?_
                          first | exact ⟨sm_L rfl, hC1, kp0 _, kq0 _⟩ | exact ⟨sm_L (by omega), hC1, kp0 _, kq0 _⟩ | exact ⟨sm_L (h.ratq ⟨by omega, by omega⟩ ⟨by omega, by omega⟩ (by omega) (by omega) (by omega)).symm, hC1, kp0 _, kq0 _⟩
                      · have c23 := of_decide_eq_false c23
                        refine Rj_ldc2 (q := 29) k_M_358 d_M_ratio_26 rfl ?_
                        refine Rj_lret d_M_ratio_29 rfl ?_
                        first | exact ⟨sm_L rfl, hC1, kp0 _, kq0 _⟩ | exact ⟨sm_L (by omega), hC1, kp0 _, kq0 _⟩ | exact ⟨sm_L (h.ratq ⟨by omega, by omega⟩ ⟨by omega, by omega⟩ (by omega) (by omega) (by omega)).symm, hC1, kp0 _, kq0 _⟩
                · refine Rj_ldc2 (q := 75) k_D_173 d_D_ratio_72 rfl ?_
                  refine Rj_lret d_D_ratio_75 rfl ?_
                  refine Rj_aload_n (q := 1) d_M_ratio_0 rfl rfl rfl ?_
                  refine Rj_iload_n (q := 2) d_M_ratio_1 rfl rfl rfl ?_
                  refine Rj_vo (q := 5) (z := y_M_isDoor) (as := [vI a]) (rest := []) (la := [vA 0, vI a]) oM_0_M_isDoor ml_M_353 mw_M_isDoor mv_M_isDoor rfl d_M_ratio_2 rfl rfl rfl rfl rfl ?_
                  refine s_M_isDoor hD (by first | assumption | omega) ?_
                  refine Rj_b_eq (q := 8) (t := 26) d_M_ratio_5 rfl (by decide) (fun c5 => ?_) (fun c5 => ?_)
                  · have c5 := of_decide_eq_false c5
                    refine Rj_ldc2 (q := 29) k_M_358 d_M_ratio_26 rfl ?_
                    refine Rj_lret d_M_ratio_29 rfl ?_
                    first | exact ⟨sm_L rfl, hC1, kp0 _, kq0 _⟩ | exact ⟨sm_L (by omega), hC1, kp0 _, kq0 _⟩ | exact ⟨sm_L (h.ratq ⟨by omega, by omega⟩ ⟨by omega, by omega⟩ (by omega) (by omega) (by omega)).symm, hC1, kp0 _, kq0 _⟩
                  · have c5 := of_decide_eq_true c5
                    refine Rj_aload_n (q := 9) d_M_ratio_8 rfl rfl rfl ?_
                    refine Rj_iload_n (q := 10) d_M_ratio_9 rfl rfl rfl ?_
                    refine Rj_vo (q := 13) (z := y_M_isDoor) (as := [vI b]) (rest := []) (la := [vA 0, vI b]) oM_0_M_isDoor ml_M_353 mw_M_isDoor mv_M_isDoor rfl d_M_ratio_10 rfl rfl rfl rfl rfl ?_
                    refine s_M_isDoor hD (by first | assumption | omega) ?_
                    refine Rj_b_eq (q := 16) (t := 26) d_M_ratio_13 rfl (by decide) (fun c13 => ?_) (fun c13 => ?_)
                    · have c13 := of_decide_eq_false c13
                      refine Rj_ldc2 (q := 29) k_M_358 d_M_ratio_26 rfl ?_
                      refine Rj_lret d_M_ratio_29 rfl ?_
                      first | exact ⟨sm_L rfl, hC1, kp0 _, kq0 _⟩ | exact ⟨sm_L (by omega), hC1, kp0 _, kq0 _⟩ | exact ⟨sm_L (h.ratq ⟨by omega, by omega⟩ ⟨by omega, by omega⟩ (by omega) (by omega) (by omega)).symm, hC1, kp0 _, kq0 _⟩
                    · have c13 := of_decide_eq_true c13
                      refine Rj_iload_n (q := 17) d_M_ratio_16 rfl rfl rfl ?_
                      refine Rj_i2l (q := 18) d_M_ratio_17 rfl (by first | assumption | exact ⟨by omega, by omega⟩) ?_
                      refine Rj_lconst (q := 19) (z := 0) d_M_ratio_18 rfl rfl ?_
                      refine Rj_lconst (q := 20) (z := 1) d_M_ratio_19 rfl rfl ?_
                      refine Rj_cs (q := 23) (z := y_M_in) (as := [vL c, vL 0, vL 1]) (rest := []) (la := [vL c, vU, vL 0, vU, vL 1, vU]) ml_M_138 mw_M_in ms_M_in d_M_ratio_20 rfl rfl rfl rfl rfl ?_
                      refine s_M_in ⟨by omega, by omega⟩ (by decide) (by decide) ?_
                      refine Rj_b_ne (q := 26) (t := 30) d_M_ratio_23 rfl (by decide) (fun c23 => ?_) (fun c23 => ?_)
                      · have c23 := of_decide_eq_true c23
                        refine Rj_aload_n (q := 31) d_M_ratio_30 rfl rfl rfl ?_
                        refine Rj_iload_n (q := 32) d_M_ratio_31 rfl rfl rfl ?_
                        refine Rj_iload_n (q := 33) d_M_ratio_32 rfl rfl rfl ?_
                        refine Rj_vo (q := 36) (z := y_M_areJoined) (as := [vI a, vI b]) (rest := []) (la := [vA 0, vI a, vI b]) oM_0_M_areJoined ml_M_363 mw_M_areJoined mv_M_areJoined rfl d_M_ratio_33 rfl rfl rfl rfl rfl ?_
                        refine s_M_areJoined2 (by omega) (by omega) (show -1 ≤ ν 14 a ∧ ν 14 a < 12 by omega) (show -1 ≤ ν 14 b ∧ ν 14 b < 12 by omega) ?_
                        refine Rj_b_ne (q := 39) (t := 42) d_M_ratio_36 rfl (by decide) (fun c36 => ?_) (fun c36 => ?_)
                        · have c36 := of_decide_eq_true c36
                          refine Rj_aload_n (q := 43) d_M_ratio_42 rfl rfl rfl ?_
                          refine Rj_gr (q := 46) (zd := 17) gM_M_60_0 rfl rfl d_M_ratio_43 rfl ?_
                          refine Rj_iload_n (q := 47) d_M_ratio_46 rfl rfl rfl ?_
                          refine Rj_za (q := 48) (v := ν 17 a) aM_17 rfl (by omega) rfl d_M_ratio_47 rfl ?_
                          refine Rj_if_eq (q := 51) (t := 57) d_M_ratio_48 rfl (by decide) (by first | assumption | exact ⟨by omega, by omega⟩) (fun c48 => ?_) (fun c48 => ?_)
                          · refine Rj_aload_n (q := 58) d_M_ratio_57 rfl rfl rfl ?_
                            refine Rj_iload_n (q := 59) d_M_ratio_58 rfl rfl rfl ?_
                            refine Rj_iload_n (q := 60) d_M_ratio_59 rfl rfl rfl ?_
                            refine Rj_iload_n (q := 61) d_M_ratio_60 rfl rfl rfl ?_
                            refine Rj_vo (q := 64) (z := y_M_ratioOf) (as := [vI a, vI b, vI c]) (rest := []) (la := [vA 0, vI a, vI b, vI c]) oM_0_M_ratioOf ml_M_334 mw_M_ratioOf mv_M_ratioOf rfl d_M_ratio_61 rfl rfl rfl rfl rfl ?_
                            refine s_M_ratioOf hS hH ⟨by omega, by omega⟩ ⟨by omega, by omega⟩ (by first | decide | omega) ?_
                            refine Rj_lret d_M_ratio_64 rfl ?_
                            first | exact ⟨sm_L rfl, hC1, kp0 _, kq0 _⟩ | exact ⟨sm_L (by omega), hC1, kp0 _, kq0 _⟩ | exact ⟨sm_L (h.ratq ⟨by omega, by omega⟩ ⟨by omega, by omega⟩ (by omega) (by omega) (by omega)).symm, hC1, kp0 _, kq0 _⟩
                          · refine Rj_ldc2 (q := 54) k_M_358 d_M_ratio_51 rfl ?_
                            refine Rj_goto (t := 64) d_M_ratio_54 (by decide) ?_
                            refine Rj_lret d_M_ratio_64 rfl ?_
                            first | exact ⟨sm_L rfl, hC1, kp0 _, kq0 _⟩ | exact ⟨sm_L (by omega), hC1, kp0 _, kq0 _⟩ | exact ⟨sm_L (h.ratq ⟨by omega, by omega⟩ ⟨by omega, by omega⟩ (by omega) (by omega) (by omega)).symm, hC1, kp0 _, kq0 _⟩
                        · have c36 := of_decide_eq_false c36
                          refine Rj_iload_n (q := 40) d_M_ratio_39 rfl rfl rfl ?_
                          refine Rj_i2l (q := 41) d_M_ratio_40 rfl (by first | assumption | exact ⟨by omega, by omega⟩) ?_
                          refine Rj_lret d_M_ratio_41 rfl ?_
                          first | exact ⟨sm_L rfl, hC1, kp0 _, kq0 _⟩ | exact ⟨sm_L (by omega), hC1, kp0 _, kq0 _⟩ | exact ⟨sm_L (h.ratq ⟨by omega, by omega⟩ ⟨by omega, by omega⟩ (by omega) (by omega) (by omega)).symm, hC1, kp0 _, kq0 _⟩
                      · have c23 := of_decide_eq_false c23
                        refine Rj_ldc2 (q := 29) k_M_358 d_M_ratio_26 rfl ?_
                        refine Rj_lret d_M_ratio_29 rfl ?_
                        first | exact ⟨sm_L rfl, hC1, kp0 _, kq0 _⟩ | exact ⟨sm_L (by omega), hC1, kp0 _, kq0 _⟩ | exact ⟨sm_L (h.ratq ⟨by omega, by omega⟩ ⟨by omega, by omega⟩ (by omega) (by omega) (by omega)).symm, hC1, kp0 _, kq0 _⟩
              · refine Rj_iload_n (q := 55) d_D_ratio_54 rfl rfl rfl ?_
                refine Rj_i2l (q := 56) d_D_ratio_55 rfl (by first | assumption | exact ⟨by omega, by omega⟩) ?_
                refine Rj_lret d_D_ratio_56 rfl ?_
                refine Rj_aload_n (q := 1) d_M_ratio_0 rfl rfl rfl ?_
                refine Rj_iload_n (q := 2) d_M_ratio_1 rfl rfl rfl ?_
                refine Rj_vo (q := 5) (z := y_M_isDoor) (as := [vI a]) (rest := []) (la := [vA 0, vI a]) oM_0_M_isDoor ml_M_353 mw_M_isDoor mv_M_isDoor rfl d_M_ratio_2 rfl rfl rfl rfl rfl ?_
                refine s_M_isDoor hD (by first | assumption | omega) ?_
                refine Rj_b_eq (q := 8) (t := 26) d_M_ratio_5 rfl (by decide) (fun c5 => ?_) (fun c5 => ?_)
                · have c5 := of_decide_eq_false c5
                  refine Rj_ldc2 (q := 29) k_M_358 d_M_ratio_26 rfl ?_
                  refine Rj_lret d_M_ratio_29 rfl ?_
                  first | exact ⟨sm_L rfl, hC1, kp0 _, kq0 _⟩ | exact ⟨sm_L (by omega), hC1, kp0 _, kq0 _⟩ | exact ⟨sm_L (h.ratq ⟨by omega, by omega⟩ ⟨by omega, by omega⟩ (by omega) (by omega) (by omega)).symm, hC1, kp0 _, kq0 _⟩
                · have c5 := of_decide_eq_true c5
                  refine Rj_aload_n (q := 9) d_M_ratio_8 rfl rfl rfl ?_
                  refine Rj_iload_n (q := 10) d_M_ratio_9 rfl rfl rfl ?_
                  refine Rj_vo (q := 13) (z := y_M_isDoor) (as := [vI b]) (rest := []) (la := [vA 0, vI b]) oM_0_M_isDoor ml_M_353 mw_M_isDoor mv_M_isDoor rfl d_M_ratio_10 rfl rfl rfl rfl rfl ?_
                  refine s_M_isDoor hD (by first | assumption | omega) ?_
                  refine Rj_b_eq (q := 16) (t := 26) d_M_ratio_13 rfl (by decide) (fun c13 => ?_) (fun c13 => ?_)
                  · have c13 := of_decide_eq_false c13
                    refine Rj_ldc2 (q := 29) k_M_358 d_M_ratio_26 rfl ?_
                    refine Rj_lret d_M_ratio_29 rfl ?_
                    first | exact ⟨sm_L rfl, hC1, kp0 _, kq0 _⟩ | exact ⟨sm_L (by omega), hC1, kp0 _, kq0 _⟩ | exact ⟨sm_L (h.ratq ⟨by omega, by omega⟩ ⟨by omega, by omega⟩ (by omega) (by omega) (by omega)).symm, hC1, kp0 _, kq0 _⟩
                  · have c13 := of_decide_eq_true c13
                    refine Rj_iload_n (q := 17) d_M_ratio_16 rfl rfl rfl ?_
                    refine Rj_i2l (q := 18) d_M_ratio_17 rfl (by first | assumption | exact ⟨by omega, by omega⟩) ?_
                    refine Rj_lconst (q := 19) (z := 0) d_M_ratio_18 rfl rfl ?_
                    refine Rj_lconst (q := 20) (z := 1) d_M_ratio_19 rfl rfl ?_
                    refine Rj_cs (q := 23) (z := y_M_in) (as := [vL c, vL 0, vL 1]) (rest := []) (la := [vL c, vU, vL 0, vU, vL 1, vU]) ml_M_138 mw_M_in ms_M_in d_M_ratio_20 rfl rfl rfl rfl rfl ?_
                    refine s_M_in ⟨by omega, by omega⟩ (by decide) (by decide) ?_
                    refine Rj_b_ne (q := 26) (t := 30) d_M_ratio_23 rfl (by decide) (fun c23 => ?_) (fun c23 => ?_)
                    · have c23 := of_decide_eq_true c23
                      refine Rj_aload_n (q := 31) d_M_ratio_30 rfl rfl rfl ?_
                      refine Rj_iload_n (q := 32) d_M_ratio_31 rfl rfl rfl ?_
                      refine Rj_iload_n (q := 33) d_M_ratio_32 rfl rfl rfl ?_
                      refine Rj_vo (q := 36) (z := y_M_areJoined) (as := [vI a, vI b]) (rest := []) (la := [vA 0, vI a, vI b]) oM_0_M_areJoined ml_M_363 mw_M_areJoined mv_M_areJoined rfl d_M_ratio_33 rfl rfl rfl rfl rfl ?_
                      refine s_M_areJoined2 (by omega) (by omega) (show -1 ≤ ν 14 a ∧ ν 14 a < 12 by omega) (show -1 ≤ ν 14 b ∧ ν 14 b < 12 by omega) ?_
                      refine Rj_b_ne (q := 39) (t := 42) d_M_ratio_36 rfl (by decide) (fun c36 => ?_) (fun c36 => ?_)
                      · have c36 := of_decide_eq_true c36
                        refine Rj_aload_n (q := 43) d_M_ratio_42 rfl rfl rfl ?_
                        refine Rj_gr (q := 46) (zd := 17) gM_M_60_0 rfl rfl d_M_ratio_43 rfl ?_
                        refine Rj_iload_n (q := 47) d_M_ratio_46 rfl rfl rfl ?_
                        refine Rj_za (q := 48) (v := ν 17 a) aM_17 rfl (by omega) rfl d_M_ratio_47 rfl ?_
                        refine Rj_if_eq (q := 51) (t := 57) d_M_ratio_48 rfl (by decide) (by first | assumption | exact ⟨by omega, by omega⟩) (fun c48 => ?_) (fun c48 => ?_)
                        · refine Rj_aload_n (q := 58) d_M_ratio_57 rfl rfl rfl ?_
                          refine Rj_iload_n (q := 59) d_M_ratio_58 rfl rfl rfl ?_
                          refine Rj_iload_n (q := 60) d_M_ratio_59 rfl rfl rfl ?_
                          refine Rj_iload_n (q := 61) d_M_ratio_60 rfl rfl rfl ?_
                          refine Rj_vo (q := 64) (z := y_M_ratioOf) (as := [vI a, vI b, vI c]) (rest := []) (la := [vA 0, vI a, vI b, vI c]) oM_0_M_ratioOf ml_M_334 mw_M_ratioOf mv_M_ratioOf rfl d_M_ratio_61 rfl rfl rfl rfl rfl ?_
                          refine s_M_ratioOf hS hH ⟨by omega, by omega⟩ ⟨by omega, by omega⟩ (by first | decide | omega) ?_
                          refine Rj_lret d_M_ratio_64 rfl ?_
                          first | exact ⟨sm_L rfl, hC1, kp0 _, kq0 _⟩ | exact ⟨sm_L (by omega), hC1, kp0 _, kq0 _⟩ | exact ⟨sm_L (h.ratq ⟨by omega, by omega⟩ ⟨by omega, by omega⟩ (by omega) (by omega) (by omega)).symm, hC1, kp0 _, kq0 _⟩
                        · refine Rj_ldc2 (q := 54) k_M_358 d_M_ratio_51 rfl ?_
                          refine Rj_goto (t := 64) d_M_ratio_54 (by decide) ?_
                          refine Rj_lret d_M_ratio_64 rfl ?_
                          first | exact ⟨sm_L rfl, hC1, kp0 _, kq0 _⟩ | exact ⟨sm_L (by omega), hC1, kp0 _, kq0 _⟩ | exact ⟨sm_L (h.ratq ⟨by omega, by omega⟩ ⟨by omega, by omega⟩ (by omega) (by omega) (by omega)).symm, hC1, kp0 _, kq0 _⟩
                      · have c36 := of_decide_eq_false c36
                        refine Rj_iload_n (q := 40) d_M_ratio_39 rfl rfl rfl ?_
                        refine Rj_i2l (q := 41) d_M_ratio_40 rfl (by first | assumption | exact ⟨by omega, by omega⟩) ?_
                        refine Rj_lret d_M_ratio_41 rfl ?_
                        first | exact ⟨sm_L rfl, hC1, kp0 _, kq0 _⟩ | exact ⟨sm_L (by omega), hC1, kp0 _, kq0 _⟩ | exact ⟨sm_L (h.ratq ⟨by omega, by omega⟩ ⟨by omega, by omega⟩ (by omega) (by omega) (by omega)).symm, hC1, kp0 _, kq0 _⟩
                    · have c23 := of_decide_eq_false c23
                      refine Rj_ldc2 (q := 29) k_M_358 d_M_ratio_26 rfl ?_
                      refine Rj_lret d_M_ratio_29 rfl ?_
                      first | exact ⟨sm_L rfl, hC1, kp0 _, kq0 _⟩ | exact ⟨sm_L (by omega), hC1, kp0 _, kq0 _⟩ | exact ⟨sm_L (h.ratq ⟨by omega, by omega⟩ ⟨by omega, by omega⟩ (by omega) (by omega) (by omega)).symm, hC1, kp0 _, kq0 _⟩
set_option maxHeartbeats 8000000 in
theorem C_end {n : Nat} {μ ν : Mem} {a : Int} (hC : Cor n μ ν) (hn : n ≤ 511) (ha : i32 a)  : Rj YD y_D_end 0 [vA 0, vI a] [] μ (fun r μ' => Rj YM y_M_end 0 [vA 0, vI a] [] ν (fun r' ν' => Sm 1 r' r ∧ Cor (n + 1) μ' ν' ∧ Kp μ μ' ∧ Kq ν ν')) := by
  obtain ⟨hTP, hK, hSc, h, hM, hSB, hBK, hIM⟩ := id hC
  have hC1 := hC.next
  obtain ⟨z0, z1, z2, z3, z4, z5, z6, z7⟩ := h.z
  obtain ⟨hS, hH, hP, hB, hFx⟩ := id hM
  have hD := z0
  have hJ := z1
  have t0 := hTP.1
  have t1 := hTP.2.1
  refine Rj_iload_n (q := 1) d_D_end_0 rfl rfl rfl ?_
  refine Rj_if_lt (q := 4) (t := 12) d_D_end_1 rfl (by decide) (by first | assumption | exact ⟨by omega, by omega⟩) (fun c1 => ?_) (fun c1 => ?_)
  · refine Rj_iconst (q := 13) d_D_end_12 rfl ?_
    refine Rj_iret d_D_end_13 rfl ?_
    refine Rj_iload_n (q := 1) d_M_end_0 rfl rfl rfl ?_
    refine Rj_if_lt (q := 4) (t := 12) d_M_end_1 rfl (by decide) (by first | assumption | exact ⟨by omega, by omega⟩) (fun c1 => ?_) (fun c1 => ?_)
    · refine Rj_iconst (q := 13) d_M_end_12 rfl ?_
      refine Rj_iret d_M_end_13 rfl ?_
      exact ⟨sm_I rfl, hC1, kp0 _, kq0 _⟩
    · refine Rj_iload_n (q := 5) d_M_end_4 rfl rfl rfl ?_
      refine Rj_aload_n (q := 6) d_M_end_5 rfl rfl rfl ?_
      refine Rj_gi (q := 9) (ki := 1) (v := ν 0 1) gM_M_99_0 rfl rfl rfl d_M_end_6 rfl ?_
      refine Rj_icmp_le (q := 12) (t := 14) d_M_end_9 rfl (by decide) (by first | assumption | exact ⟨by omega, by omega⟩) (by first | assumption | exact ⟨by omega, by omega⟩) (fun c9 => ?_) (fun c9 => ?_)
      · refine Rj_aload_n (q := 15) d_M_end_14 rfl rfl rfl ?_
        refine Rj_iload_n (q := 16) d_M_end_15 rfl rfl rfl ?_
        refine Rj_pi (q := 19) (ki := 1) pM_M_99_0 rfl rfl d_M_end_16 rfl ?_
        refine Rj_iload_n (q := 20) d_M_end_19 rfl rfl rfl ?_
        refine Rj_iret d_M_end_20 rfl ?_
        exfalso; omega
      · refine Rj_iconst (q := 13) d_M_end_12 rfl ?_
        refine Rj_iret d_M_end_13 rfl ?_
        exact ⟨sm_I rfl, hC1, kp0 _, kq0 _⟩
  · refine Rj_iload_n (q := 5) d_D_end_4 rfl rfl rfl ?_
    refine Rj_aload_n (q := 6) d_D_end_5 rfl rfl rfl ?_
    refine Rj_gi (q := 9) (ki := 1) (v := μ 0 1) gD_D_104_0 rfl rfl rfl d_D_end_6 rfl ?_
    refine Rj_icmp_le (q := 12) (t := 14) d_D_end_9 rfl (by decide) (by first | assumption | exact ⟨by omega, by omega⟩) (by first | assumption | exact ⟨by omega, by omega⟩) (fun c9 => ?_) (fun c9 => ?_)
    · refine Rj_aload_n (q := 15) d_D_end_14 rfl rfl rfl ?_
      refine Rj_iload_n (q := 16) d_D_end_15 rfl rfl rfl ?_
      refine Rj_pi (q := 19) (ki := 1) pD_D_104_0 rfl rfl d_D_end_16 rfl ?_
      refine Rj_iload_n (q := 20) d_D_end_19 rfl rfl rfl ?_
      refine Rj_iret d_D_end_20 rfl ?_
      refine Rj_iload_n (q := 1) d_M_end_0 rfl rfl rfl ?_
      refine Rj_if_lt (q := 4) (t := 12) d_M_end_1 rfl (by decide) (by first | assumption | exact ⟨by omega, by omega⟩) (fun c1 => ?_) (fun c1 => ?_)
      · refine Rj_iconst (q := 13) d_M_end_12 rfl ?_
        refine Rj_iret d_M_end_13 rfl ?_
        exfalso; omega
      · refine Rj_iload_n (q := 5) d_M_end_4 rfl rfl rfl ?_
        refine Rj_aload_n (q := 6) d_M_end_5 rfl rfl rfl ?_
        refine Rj_gi (q := 9) (ki := 1) (v := ν 0 1) gM_M_99_0 rfl rfl rfl d_M_end_6 rfl ?_
        refine Rj_icmp_le (q := 12) (t := 14) d_M_end_9 rfl (by decide) (by first | assumption | exact ⟨by omega, by omega⟩) (by first | assumption | exact ⟨by omega, by omega⟩) (fun c9 => ?_) (fun c9 => ?_)
        · refine Rj_aload_n (q := 15) d_M_end_14 rfl rfl rfl ?_
          refine Rj_iload_n (q := 16) d_M_end_15 rfl rfl rfl ?_
          refine Rj_pi (q := 19) (ki := 1) pM_M_99_0 rfl rfl d_M_end_16 rfl ?_
          refine Rj_iload_n (q := 20) d_M_end_19 rfl rfl rfl ?_
          refine Rj_iret d_M_end_20 rfl ?_
          refine ⟨sm_I rfl, ?_, fun c i q => mset_o (by omega), fun c i q => mset_o (by omega)⟩
          obtain ⟨a1, a2, a3, a4, a5, a6, a7, a8⟩ := hC1
          refine ⟨⟨⟨by rw [mset_same]; omega, by rw [mset_same]; omega⟩, rfl, hTP.2.2⟩, a2, a3.keep (fun c i q1 q2 => mset_o (by omega)), a4.keep (fun c i q => mset_o (by unfold gxc at q; omega)), a5, a6, a7, a8.keep (fun c i q1 q2 => mset_o (by omega)) rfl rfl rfl⟩
        · refine Rj_iconst (q := 13) d_M_end_12 rfl ?_
          refine Rj_iret d_M_end_13 rfl ?_
          exfalso; omega
    · refine Rj_iconst (q := 13) d_D_end_12 rfl ?_
      refine Rj_iret d_D_end_13 rfl ?_
      refine Rj_iload_n (q := 1) d_M_end_0 rfl rfl rfl ?_
      refine Rj_if_lt (q := 4) (t := 12) d_M_end_1 rfl (by decide) (by first | assumption | exact ⟨by omega, by omega⟩) (fun c1 => ?_) (fun c1 => ?_)
      · refine Rj_iconst (q := 13) d_M_end_12 rfl ?_
        refine Rj_iret d_M_end_13 rfl ?_
        exact ⟨sm_I rfl, hC1, kp0 _, kq0 _⟩
      · refine Rj_iload_n (q := 5) d_M_end_4 rfl rfl rfl ?_
        refine Rj_aload_n (q := 6) d_M_end_5 rfl rfl rfl ?_
        refine Rj_gi (q := 9) (ki := 1) (v := ν 0 1) gM_M_99_0 rfl rfl rfl d_M_end_6 rfl ?_
        refine Rj_icmp_le (q := 12) (t := 14) d_M_end_9 rfl (by decide) (by first | assumption | exact ⟨by omega, by omega⟩) (by first | assumption | exact ⟨by omega, by omega⟩) (fun c9 => ?_) (fun c9 => ?_)
        · refine Rj_aload_n (q := 15) d_M_end_14 rfl rfl rfl ?_
          refine Rj_iload_n (q := 16) d_M_end_15 rfl rfl rfl ?_
          refine Rj_pi (q := 19) (ki := 1) pM_M_99_0 rfl rfl d_M_end_16 rfl ?_
          refine Rj_iload_n (q := 20) d_M_end_19 rfl rfl rfl ?_
          refine Rj_iret d_M_end_20 rfl ?_
          exfalso; omega
        · refine Rj_iconst (q := 13) d_M_end_12 rfl ?_
          refine Rj_iret d_M_end_13 rfl ?_
          exact ⟨sm_I rfl, hC1, kp0 _, kq0 _⟩
