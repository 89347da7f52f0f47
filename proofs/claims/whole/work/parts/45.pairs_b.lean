theorem gD_D_242_3 : GI YD "DoorsOnCogs" 242 3 12 none := ⟨by decide, _, _, _, fl_D_242, cD_3, by decide, rfl⟩
theorem pD_D_242_3 : PI YD "DoorsOnCogs" 242 3 12 none .int := ⟨by decide, _, _, _, fl_D_242, fp_6_12, cD_3, by decide, rfl⟩
theorem gD_D_245_3 : GI YD "DoorsOnCogs" 245 3 13 (some (some 10)) := ⟨by decide, _, _, _, fl_D_245, cD_3, by decide, rfl⟩
theorem aD_10 : AI YD 10 (.int) 12 := ⟨by decide, cD_10, by decide⟩
theorem gD_D_263_3 : GI YD "DoorsOnCogs" 263 3 14 none := ⟨by decide, _, _, _, fl_D_263, cD_3, by decide, rfl⟩
theorem gD_D_266_3 : GI YD "DoorsOnCogs" 266 3 15 (some (some 11)) := ⟨by decide, _, _, _, fl_D_266, cD_3, by decide, rfl⟩
theorem aD_11 : AI YD 11 (.int) 40 := ⟨by decide, cD_11, by decide⟩
theorem pD_D_263_3 : PI YD "DoorsOnCogs" 263 3 14 none .int := ⟨by decide, _, _, _, fl_D_263, fp_6_14, cD_3, by decide, rfl⟩
/-! pairs of calls: seen, coming, want -/
set_option maxHeartbeats 8000000 in
theorem C_seen {n : Nat} {μ ν : Mem} {a b : Int} (hC : Cor n μ ν) (hn : n ≤ 511) (ha : i32 a) (hb : i32 b)  : Rj YD y_D_seen 0 [vA 0, vI a, vI b] [] μ (fun r μ' => Rj YM y_M_seen 0 [vA 0, vI a, vI b] [] ν (fun r' ν' => Sm 1 r' r ∧ Cor (n + 1) μ' ν' ∧ Kp μ μ' ∧ Kq ν ν')) := by
  obtain ⟨hTP, hK, hSc, h, hM, hSB, hBK, hIM⟩ := id hC
  have hC1 := hC.next
  obtain ⟨z0, z1, z2, z3, z4, z5, z6, z7⟩ := h.z
  obtain ⟨hS, hH, hP, hB, hFx⟩ := id hM
  have hD := z0
  have hJ := z1
  refine Rj_iload_n (q := 1) d_D_seen_0 rfl rfl rfl ?_
  refine Rj_iconst (q := 2) d_D_seen_1 rfl ?_
  refine Rj_icmp_ne (q := 5) (t := 15) d_D_seen_2 rfl (by decide) (by first | assumption | exact ⟨by omega, by omega⟩) (by decide) (fun c2 => ?_) (fun c2 => ?_)
  · refine Rj_aload_n (q := 16) d_D_seen_15 rfl rfl rfl ?_
    refine Rj_gr (q := 19) (zd := 3) gD_D_25_0 rfl rfl d_D_seen_16 rfl ?_
    refine Rj_iload_n (q := 20) d_D_seen_19 rfl rfl rfl ?_
    refine Rj_vo (q := 23) (z := y_Sc_isDoor) (as := [vI a]) (rest := []) (la := [vA 3, vI a]) oD_3_Sc_isDoor ml_D_144 mw_Sc_isDoor mv_Sc_isDoor rfl d_D_seen_20 rfl rfl rfl rfl rfl ?_
    refine Rj_iload_n (q := 1) d_Sc_isDoor_0 rfl rfl rfl ?_
    refine Rj_if_lt (q := 4) (t := 16) d_Sc_isDoor_1 rfl (by decide) (by first | assumption | exact ⟨by omega, by omega⟩) (fun c20_1 => ?_) (fun c20_1 => ?_)
    · refine Rj_iconst (q := 17) d_Sc_isDoor_16 rfl ?_
      refine Rj_bret0 d_Sc_isDoor_17 rfl ?_
      refine Rj_if_eq (q := 26) (t := 36) d_D_seen_23 rfl (by decide) (by decide) (fun _ => ?_) (fun c => absurd c (by decide))
      refine Rj_iconst (q := 37) d_D_seen_36 rfl ?_
      refine Rj_bret0 d_D_seen_37 rfl ?_
      refine Rj_iload_n (q := 1) d_M_seen_0 rfl rfl rfl ?_
      refine Rj_iconst (q := 2) d_M_seen_1 rfl ?_
      refine Rj_icmp_ne (q := 5) (t := 15) d_M_seen_2 rfl (by decide) (by first | assumption | exact ⟨by omega, by omega⟩) (by decide) (fun c2 => ?_) (fun c2 => ?_)
      · refine Rj_aload_n (q := 16) d_M_seen_15 rfl rfl rfl ?_
        refine Rj_iload_n (q := 17) d_M_seen_16 rfl rfl rfl ?_
        refine Rj_vo (q := 20) (z := y_M_isDoor) (as := [vI a]) (rest := []) (la := [vA 0, vI a]) oM_0_M_isDoor ml_M_353 mw_M_isDoor mv_M_isDoor rfl d_M_seen_17 rfl rfl rfl rfl rfl ?_
        refine s_M_isDoor hD (by first | assumption | omega) ?_
        refine Rj_b_eq (q := 23) (t := 37) d_M_seen_20 rfl (by decide) (fun c20 => ?_) (fun c20 => ?_)
        · have c20 := of_decide_eq_false c20
          refine Rj_iconst (q := 38) d_M_seen_37 rfl ?_
          refine Rj_bret0 d_M_seen_38 rfl ?_
          exact ⟨sm_I rfl, hC1, kp0 _, kq0 _⟩
        · have c20 := of_decide_eq_true c20
          refine Rj_iload_n (q := 24) d_M_seen_23 rfl rfl rfl ?_
          refine Rj_i2l (q := 25) d_M_seen_24 rfl (by first | assumption | exact ⟨by omega, by omega⟩) ?_
          refine Rj_ldc2 (q := 28) k_M_445 d_M_seen_25 rfl ?_
          refine Rj_ldc2 (q := 31) k_M_447 d_M_seen_28 rfl ?_
          refine Rj_cs (q := 34) (z := y_M_in) (as := [vL b, vL (-9999), vL 9999]) (rest := []) (la := [vL b, vU, vL (-9999), vU, vL 9999, vU]) ml_M_138 mw_M_in ms_M_in d_M_seen_31 rfl rfl rfl rfl rfl ?_
          refine s_M_in ⟨by omega, by omega⟩ (by decide) (by decide) ?_
          refine Rj_b_ne (q := 37) (t := 39) d_M_seen_34 rfl (by decide) (fun c34 => ?_) (fun c34 => ?_)
          · have c34 := of_decide_eq_true c34
            refine Rj_aload_n (q := 40) d_M_seen_39 rfl rfl rfl ?_
            refine Rj_gr (q := 43) (zd := 11) gM_M_42_0 rfl rfl d_M_seen_40 rfl ?_
            refine Rj_bipush (q := 45) d_M_seen_43 rfl (by decide +kernel) ?_
            refine Rj_dup2 (q := 46) d_M_seen_45 rfl (by intro h; cases h) (by intro h; cases h) ?_
            refine Rj_ia (q := 47) (v := ν 11 6) aM_11 rfl (by decide) rfl d_M_seen_46 rfl ?_
            refine Rj_iconst (q := 48) d_M_seen_47 rfl ?_
            refine Rj_iload_n (q := 49) d_M_seen_48 rfl rfl rfl ?_
            refine Rj_ishl (q := 50) (z := z_shl 1 a) d_M_seen_49 rfl rfl ?_
            refine Rj_ior (q := 51) (z := z_or (ν 11 6) (z_shl 1 a)) d_M_seen_50 rfl rfl ?_
            refine Rj_is (q := 52) aM_11 rfl (by decide) d_M_seen_51 rfl ?_
            refine Rj_aload_n (q := 53) d_M_seen_52 rfl rfl rfl ?_
            refine Rj_gr (q := 56) (zd := 11) gM_M_42_0 rfl rfl d_M_seen_53 rfl ?_
            refine Rj_bipush (q := 58) d_M_seen_56 rfl (by decide +kernel) ?_
            refine Rj_iload_n (q := 59) d_M_seen_58 rfl rfl rfl ?_
            refine Rj_iadd (q := 60) d_M_seen_59 rfl ?_
            refine Rj_iload_n (q := 61) d_M_seen_60 rfl rfl rfl ?_
            refine Rj_is (q := 62) aM_11 rfl (by omega) d_M_seen_61 rfl ?_
            refine Rj_iconst (q := 63) d_M_seen_62 rfl ?_
            refine Rj_bret1 d_M_seen_63 rfl ?_
            exfalso; omega
          · have c34 := of_decide_eq_false c34
            refine Rj_iconst (q := 38) d_M_seen_37 rfl ?_
            refine Rj_bret0 d_M_seen_38 rfl ?_
            exact ⟨sm_I rfl, hC1, kp0 _, kq0 _⟩
      · refine Rj_aload_n (q := 6) d_M_seen_5 rfl rfl rfl ?_
        refine Rj_gr (q := 9) (zd := 11) gM_M_42_0 rfl rfl d_M_seen_6 rfl ?_
        refine Rj_bipush (q := 11) d_M_seen_9 rfl (by decide +kernel) ?_
        refine Rj_iconst (q := 12) d_M_seen_11 rfl ?_
        refine Rj_is (q := 13) aM_11 rfl (by decide) d_M_seen_12 rfl ?_
        refine Rj_iconst (q := 14) d_M_seen_13 rfl ?_
        refine Rj_bret1 d_M_seen_14 rfl ?_
        exfalso; omega
    · refine Rj_iload_n (q := 5) d_Sc_isDoor_4 rfl rfl rfl ?_
      refine Rj_aload_n (q := 6) d_Sc_isDoor_5 rfl rfl rfl ?_
      refine Rj_gi (q := 9) (ki := 0) (v := μ 3 0) gD_Sc_37_3 rfl rfl rfl d_Sc_isDoor_6 rfl ?_
      refine Rj_icmp_ge (q := 12) (t := 16) d_Sc_isDoor_9 rfl (by decide) (by first | assumption | exact ⟨by omega, by omega⟩) (by first | assumption | exact ⟨by omega, by omega⟩) (fun c20_9 => ?_) (fun c20_9 => ?_)
      · refine Rj_iconst (q := 17) d_Sc_isDoor_16 rfl ?_
        refine Rj_bret0 d_Sc_isDoor_17 rfl ?_
        refine Rj_if_eq (q := 26) (t := 36) d_D_seen_23 rfl (by decide) (by decide) (fun _ => ?_) (fun c => absurd c (by decide))
        refine Rj_iconst (q := 37) d_D_seen_36 rfl ?_
        refine Rj_bret0 d_D_seen_37 rfl ?_
        refine Rj_iload_n (q := 1) d_M_seen_0 rfl rfl rfl ?_
        refine Rj_iconst (q := 2) d_M_seen_1 rfl ?_
        refine Rj_icmp_ne (q := 5) (t := 15) d_M_seen_2 rfl (by decide) (by first | assumption | exact ⟨by omega, by omega⟩) (by decide) (fun c2 => ?_) (fun c2 => ?_)
        · refine Rj_aload_n (q := 16) d_M_seen_15 rfl rfl rfl ?_
          refine Rj_iload_n (q := 17) d_M_seen_16 rfl rfl rfl ?_
          refine Rj_vo (q := 20) (z := y_M_isDoor) (as := [vI a]) (rest := []) (la := [vA 0, vI a]) oM_0_M_isDoor ml_M_353 mw_M_isDoor mv_M_isDoor rfl d_M_seen_17 rfl rfl rfl rfl rfl ?_
          refine s_M_isDoor hD (by first | assumption | omega) ?_
          refine Rj_b_eq (q := 23) (t := 37) d_M_seen_20 rfl (by decide) (fun c20 => ?_) (fun c20 => ?_)
          · have c20 := of_decide_eq_false c20
            refine Rj_iconst (q := 38) d_M_seen_37 rfl ?_
            refine Rj_bret0 d_M_seen_38 rfl ?_
            exact ⟨sm_I rfl, hC1, kp0 _, kq0 _⟩
          · have c20 := of_decide_eq_true c20
            refine Rj_iload_n (q := 24) d_M_seen_23 rfl rfl rfl ?_
            refine Rj_i2l (q := 25) d_M_seen_24 rfl (by first | assumption | exact ⟨by omega, by omega⟩) ?_
            refine Rj_ldc2 (q := 28) k_M_445 d_M_seen_25 rfl ?_
            refine Rj_ldc2 (q := 31) k_M_447 d_M_seen_28 rfl ?_
            refine Rj_cs (q := 34) (z := y_M_in) (as := [vL b, vL (-9999), vL 9999]) (rest := []) (la := [vL b, vU, vL (-9999), vU, vL 9999, vU]) ml_M_138 mw_M_in ms_M_in d_M_seen_31 rfl rfl rfl rfl rfl ?_
            refine s_M_in ⟨by omega, by omega⟩ (by decide) (by decide) ?_
            refine Rj_b_ne (q := 37) (t := 39) d_M_seen_34 rfl (by decide) (fun c34 => ?_) (fun c34 => ?_)
            · have c34 := of_decide_eq_true c34
              refine Rj_aload_n (q := 40) d_M_seen_39 rfl rfl rfl ?_
              refine Rj_gr (q := 43) (zd := 11) gM_M_42_0 rfl rfl d_M_seen_40 rfl ?_
              refine Rj_bipush (q := 45) d_M_seen_43 rfl (by decide +kernel) ?_
              refine Rj_dup2 (q := 46) d_M_seen_45 rfl (by intro h; cases h) (by intro h; cases h) ?_
              refine Rj_ia (q := 47) (v := ν 11 6) aM_11 rfl (by decide) rfl d_M_seen_46 rfl ?_
              refine Rj_iconst (q := 48) d_M_seen_47 rfl ?_
              refine Rj_iload_n (q := 49) d_M_seen_48 rfl rfl rfl ?_
              refine Rj_ishl (q := 50) (z := z_shl 1 a) d_M_seen_49 rfl rfl ?_
              refine Rj_ior (q := 51) (z := z_or (ν 11 6) (z_shl 1 a)) d_M_seen_50 rfl rfl ?_
              refine Rj_is (q := 52) aM_11 rfl (by decide) d_M_seen_51 rfl ?_
              refine Rj_aload_n (q := 53) d_M_seen_52 rfl rfl rfl ?_
              refine Rj_gr (q := 56) (zd := 11) gM_M_42_0 rfl rfl d_M_seen_53 rfl ?_
              refine Rj_bipush (q := 58) d_M_seen_56 rfl (by decide +kernel) ?_
              refine Rj_iload_n (q := 59) d_M_seen_58 rfl rfl rfl ?_
              refine Rj_iadd (q := 60) d_M_seen_59 rfl ?_
              refine Rj_iload_n (q := 61) d_M_seen_60 rfl rfl rfl ?_
              refine Rj_is (q := 62) aM_11 rfl (by omega) d_M_seen_61 rfl ?_
              refine Rj_iconst (q := 63) d_M_seen_62 rfl ?_
              refine Rj_bret1 d_M_seen_63 rfl ?_
              exfalso; omega
            · have c34 := of_decide_eq_false c34
              refine Rj_iconst (q := 38) d_M_seen_37 rfl ?_
              refine Rj_bret0 d_M_seen_38 rfl ?_
              exact ⟨sm_I rfl, hC1, kp0 _, kq0 _⟩
        · refine Rj_aload_n (q := 6) d_M_seen_5 rfl rfl rfl ?_
          refine Rj_gr (q := 9) (zd := 11) gM_M_42_0 rfl rfl d_M_seen_6 rfl ?_
          refine Rj_bipush (q := 11) d_M_seen_9 rfl (by decide +kernel) ?_
          refine Rj_iconst (q := 12) d_M_seen_11 rfl ?_
          refine Rj_is (q := 13) aM_11 rfl (by decide) d_M_seen_12 rfl ?_
          refine Rj_iconst (q := 14) d_M_seen_13 rfl ?_
          refine Rj_bret1 d_M_seen_14 rfl ?_
          exfalso; omega
      · refine Rj_iconst (q := 13) d_Sc_isDoor_12 rfl ?_
        refine Rj_goto (t := 17) d_Sc_isDoor_13 (by decide) ?_
        refine Rj_bret1 d_Sc_isDoor_17 rfl ?_
        refine Rj_if_eq (q := 26) (t := 36) d_D_seen_23 rfl (by decide) (by decide) (fun c => absurd c (by decide)) (fun _ => ?_)
        refine Rj_iload_n (q := 27) d_D_seen_26 rfl rfl rfl ?_
        refine Rj_sipush (q := 30) d_D_seen_27 rfl (by decide +kernel) ?_
        refine Rj_cs (q := 33) (z := y_D_isWithin) (as := [vI b, vI 9999]) (rest := []) (la := [vI b, vI 9999]) ml_D_209 mw_D_isWithin ms_D_isWithin d_D_seen_30 rfl rfl rfl rfl rfl ?_
        refine Rj_iload_n (q := 1) d_D_isWithin_0 rfl rfl rfl ?_
        refine Rj_iload_n (q := 2) d_D_isWithin_1 rfl rfl rfl ?_
        refine Rj_ineg (q := 3) d_D_isWithin_2 rfl ?_
        refine Rj_icmp_lt (q := 6) (t := 15) d_D_isWithin_3 rfl (by decide) (by first | assumption | exact ⟨by omega, by omega⟩) (by decide) (fun c30_3 => ?_) (fun c30_3 => ?_)
        · refine Rj_iconst (q := 16) d_D_isWithin_15 rfl ?_
          refine Rj_bret0 d_D_isWithin_16 rfl ?_
          refine Rj_if_ne (q := 36) (t := 38) d_D_seen_33 rfl (by decide) (by decide) (fun c => absurd c (by decide)) (fun _ => ?_)
          refine Rj_iconst (q := 37) d_D_seen_36 rfl ?_
          refine Rj_bret0 d_D_seen_37 rfl ?_
          refine Rj_iload_n (q := 1) d_M_seen_0 rfl rfl rfl ?_
          refine Rj_iconst (q := 2) d_M_seen_1 rfl ?_
          refine Rj_icmp_ne (q := 5) (t := 15) d_M_seen_2 rfl (by decide) (by first | assumption | exact ⟨by omega, by omega⟩) (by decide) (fun c2 => ?_) (fun c2 => ?_)
          · refine Rj_aload_n (q := 16) d_M_seen_15 rfl rfl rfl ?_
            refine Rj_iload_n (q := 17) d_M_seen_16 rfl rfl rfl ?_
            refine Rj_vo (q := 20) (z := y_M_isDoor) (as := [vI a]) (rest := []) (la := [vA 0, vI a]) oM_0_M_isDoor ml_M_353 mw_M_isDoor mv_M_isDoor rfl d_M_seen_17 rfl rfl rfl rfl rfl ?_
            refine s_M_isDoor hD (by first | assumption | omega) ?_
            refine Rj_b_eq (q := 23) (t := 37) d_M_seen_20 rfl (by decide) (fun c20 => ?_) (fun c20 => ?_)
            · have c20 := of_decide_eq_false c20
              refine Rj_iconst (q := 38) d_M_seen_37 rfl ?_
              refine Rj_bret0 d_M_seen_38 rfl ?_
              exact ⟨sm_I rfl, hC1, kp0 _, kq0 _⟩
            · have c20 := of_decide_eq_true c20
              refine Rj_iload_n (q := 24) d_M_seen_23 rfl rfl rfl ?_
              refine Rj_i2l (q := 25) d_M_seen_24 rfl (by first | assumption | exact ⟨by omega, by omega⟩) ?_
              refine Rj_ldc2 (q := 28) k_M_445 d_M_seen_25 rfl ?_
              refine Rj_ldc2 (q := 31) k_M_447 d_M_seen_28 rfl ?_
              refine Rj_cs (q := 34) (z := y_M_in) (as := [vL b, vL (-9999), vL 9999]) (rest := []) (la := [vL b, vU, vL (-9999), vU, vL 9999, vU]) ml_M_138 mw_M_in ms_M_in d_M_seen_31 rfl rfl rfl rfl rfl ?_
              refine s_M_in ⟨by omega, by omega⟩ (by decide) (by decide) ?_
              refine Rj_b_ne (q := 37) (t := 39) d_M_seen_34 rfl (by decide) (fun c34 => ?_) (fun c34 => ?_)
              · have c34 := of_decide_eq_true c34
                refine Rj_aload_n (q := 40) d_M_seen_39 rfl rfl rfl ?_
                refine Rj_gr (q := 43) (zd := 11) gM_M_42_0 rfl rfl d_M_seen_40 rfl ?_
                refine Rj_bipush (q := 45) d_M_seen_43 rfl (by decide +kernel) ?_
                refine Rj_dup2 (q := 46) d_M_seen_45 rfl (by intro h; cases h) (by intro h; cases h) ?_
                refine Rj_ia (q := 47) (v := ν 11 6) aM_11 rfl (by decide) rfl d_M_seen_46 rfl ?_
                refine Rj_iconst (q := 48) d_M_seen_47 rfl ?_
                refine Rj_iload_n (q := 49) d_M_seen_48 rfl rfl rfl ?_
                refine Rj_ishl (q := 50) (z := z_shl 1 a) d_M_seen_49 rfl rfl ?_
                refine Rj_ior (q := 51) (z := z_or (ν 11 6) (z_shl 1 a)) d_M_seen_50 rfl rfl ?_
                refine Rj_is (q := 52) aM_11 rfl (by decide) d_M_seen_51 rfl ?_
                refine Rj_aload_n (q := 53) d_M_seen_52 rfl rfl rfl ?_
                refine Rj_gr (q := 56) (zd := 11) gM_M_42_0 rfl rfl d_M_seen_53 rfl ?_
                refine Rj_bipush (q := 58) d_M_seen_56 rfl (by decide +kernel) ?_
                refine Rj_iload_n (q := 59) d_M_seen_58 rfl rfl rfl ?_
                refine Rj_iadd (q := 60) d_M_seen_59 rfl ?_
                refine Rj_iload_n (q := 61) d_M_seen_60 rfl rfl rfl ?_
                refine Rj_is (q := 62) aM_11 rfl (by omega) d_M_seen_61 rfl ?_
                refine Rj_iconst (q := 63) d_M_seen_62 rfl ?_
                refine Rj_bret1 d_M_seen_63 rfl ?_
                exfalso; omega
              · have c34 := of_decide_eq_false c34
                refine Rj_iconst (q := 38) d_M_seen_37 rfl ?_
                refine Rj_bret0 d_M_seen_38 rfl ?_
                exact ⟨sm_I rfl, hC1, kp0 _, kq0 _⟩
          · refine Rj_aload_n (q := 6) d_M_seen_5 rfl rfl rfl ?_
            refine Rj_gr (q := 9) (zd := 11) gM_M_42_0 rfl rfl d_M_seen_6 rfl ?_
            refine Rj_bipush (q := 11) d_M_seen_9 rfl (by decide +kernel) ?_
            refine Rj_iconst (q := 12) d_M_seen_11 rfl ?_
            refine Rj_is (q := 13) aM_11 rfl (by decide) d_M_seen_12 rfl ?_
            refine Rj_iconst (q := 14) d_M_seen_13 rfl ?_
            refine Rj_bret1 d_M_seen_14 rfl ?_
            exfalso; omega
        · refine Rj_iload_n (q := 7) d_D_isWithin_6 rfl rfl rfl ?_
          refine Rj_iload_n (q := 8) d_D_isWithin_7 rfl rfl rfl ?_
          refine Rj_icmp_gt (q := 11) (t := 15) d_D_isWithin_8 rfl (by decide) (by first | assumption | exact ⟨by omega, by omega⟩) (by decide) (fun c30_8 => ?_) (fun c30_8 => ?_)
          · refine Rj_iconst (q := 16) d_D_isWithin_15 rfl ?_
            refine Rj_bret0 d_D_isWithin_16 rfl ?_
            refine Rj_if_ne (q := 36) (t := 38) d_D_seen_33 rfl (by decide) (by decide) (fun c => absurd c (by decide)) (fun _ => ?_)
            refine Rj_iconst (q := 37) d_D_seen_36 rfl ?_
            refine Rj_bret0 d_D_seen_37 rfl ?_
            refine Rj_iload_n (q := 1) d_M_seen_0 rfl rfl rfl ?_
            refine Rj_iconst (q := 2) d_M_seen_1 rfl ?_
            refine Rj_icmp_ne (q := 5) (t := 15) d_M_seen_2 rfl (by decide) (by first | assumption | exact ⟨by omega, by omega⟩) (by decide) (fun c2 => ?_) (fun c2 => ?_)
            · refine Rj_aload_n (q := 16) d_M_seen_15 rfl rfl rfl ?_
              refine Rj_iload_n (q := 17) d_M_seen_16 rfl rfl rfl ?_
              refine Rj_vo (q := 20) (z := y_M_isDoor) (as := [vI a]) (rest := []) (la := [vA 0, vI a]) oM_0_M_isDoor ml_M_353 mw_M_isDoor mv_M_isDoor rfl d_M_seen_17 rfl rfl rfl rfl rfl ?_
              refine s_M_isDoor hD (by first | assumption | omega) ?_
              refine Rj_b_eq (q := 23) (t := 37) d_M_seen_20 rfl (by decide) (fun c20 => ?_) (fun c20 => ?_)
              · have c20 := of_decide_eq_false c20
                refine Rj_iconst (q := 38) d_M_seen_37 rfl ?_
                refine Rj_bret0 d_M_seen_38 rfl ?_
                exact ⟨sm_I rfl, hC1, kp0 _, kq0 _⟩
              · have c20 := of_decide_eq_true c20
                refine Rj_iload_n (q := 24) d_M_seen_23 rfl rfl rfl ?_
                refine Rj_i2l (q := 25) d_M_seen_24 rfl (by first | assumption | exact ⟨by omega, by omega⟩) ?_
                refine Rj_ldc2 (q := 28) k_M_445 d_M_seen_25 rfl ?_
                refine Rj_ldc2 (q := 31) k_M_447 d_M_seen_28 rfl ?_
                refine Rj_cs (q := 34) (z := y_M_in) (as := [vL b, vL (-9999), vL 9999]) (rest := []) (la := [vL b, vU, vL (-9999), vU, vL 9999, vU]) ml_M_138 mw_M_in ms_M_in d_M_seen_31 rfl rfl rfl rfl rfl ?_
                refine s_M_in ⟨by omega, by omega⟩ (by decide) (by decide) ?_
                refine Rj_b_ne (q := 37) (t := 39) d_M_seen_34 rfl (by decide) (fun c34 => ?_) (fun c34 => ?_)
                · have c34 := of_decide_eq_true c34
                  refine Rj_aload_n (q := 40) d_M_seen_39 rfl rfl rfl ?_
                  refine Rj_gr (q := 43) (zd := 11) gM_M_42_0 rfl rfl d_M_seen_40 rfl ?_
                  refine Rj_bipush (q := 45) d_M_seen_43 rfl (by decide +kernel) ?_
                  refine Rj_dup2 (q := 46) d_M_seen_45 rfl (by intro h; cases h) (by intro h; cases h) ?_
                  refine Rj_ia (q := 47) (v := ν 11 6) aM_11 rfl (by decide) rfl d_M_seen_46 rfl ?_
                  refine Rj_iconst (q := 48) d_M_seen_47 rfl ?_
                  refine Rj_iload_n (q := 49) d_M_seen_48 rfl rfl rfl ?_
                  refine Rj_ishl (q := 50) (z := z_shl 1 a) d_M_seen_49 rfl rfl ?_
                  refine Rj_ior (q := 51) (z := z_or (ν 11 6) (z_shl 1 a)) d_M_seen_50 rfl rfl ?_
                  refine Rj_is (q := 52) aM_11 rfl (by decide) d_M_seen_51 rfl ?_
                  refine Rj_aload_n (q := 53) d_M_seen_52 rfl rfl rfl ?_
                  refine Rj_gr (q := 56) (zd := 11) gM_M_42_0 rfl rfl d_M_seen_53 rfl ?_
                  refine Rj_bipush (q := 58) d_M_seen_56 rfl (by decide +kernel) ?_
                  refine Rj_iload_n (q := 59) d_M_seen_58 rfl rfl rfl ?_
                  refine Rj_iadd (q := 60) d_M_seen_59 rfl ?_
                  refine Rj_iload_n (q := 61) d_M_seen_60 rfl rfl rfl ?_
                  refine Rj_is (q := 62) aM_11 rfl (by omega) d_M_seen_61 rfl ?_
                  refine Rj_iconst (q := 63) d_M_seen_62 rfl ?_
                  refine Rj_bret1 d_M_seen_63 rfl ?_
                  exfalso; omega
                · have c34 := of_decide_eq_false c34
                  refine Rj_iconst (q := 38) d_M_seen_37 rfl ?_
                  refine Rj_bret0 d_M_seen_38 rfl ?_
                  exact ⟨sm_I rfl, hC1, kp0 _, kq0 _⟩
            · refine Rj_aload_n (q := 6) d_M_seen_5 rfl rfl rfl ?_
              refine Rj_gr (q := 9) (zd := 11) gM_M_42_0 rfl rfl d_M_seen_6 rfl ?_
              refine Rj_bipush (q := 11) d_M_seen_9 rfl (by decide +kernel) ?_
              refine Rj_iconst (q := 12) d_M_seen_11 rfl ?_
              refine Rj_is (q := 13) aM_11 rfl (by decide) d_M_seen_12 rfl ?_
              refine Rj_iconst (q := 14) d_M_seen_13 rfl ?_
              refine Rj_bret1 d_M_seen_14 rfl ?_
              exfalso; omega
          · refine Rj_iconst (q := 12) d_D_isWithin_11 rfl ?_
            refine Rj_goto (t := 16) d_D_isWithin_12 (by decide) ?_
            refine Rj_bret1 d_D_isWithin_16 rfl ?_
            refine Rj_if_ne (q := 36) (t := 38) d_D_seen_33 rfl (by decide) (by decide) (fun _ => ?_) (fun c => absurd c (by decide))
            refine Rj_aload_n (q := 39) d_D_seen_38 rfl rfl rfl ?_
            refine Rj_gr (q := 42) (zd := 3) gD_D_25_0 rfl rfl d_D_seen_39 rfl ?_
            refine Rj_dup (q := 43) d_D_seen_42 rfl (by intro h; cases h) ?_
            refine Rj_gi (q := 46) (ki := 12) (v := μ 3 12) gD_D_242_3 rfl rfl rfl d_D_seen_43 rfl ?_
            refine Rj_iconst (q := 47) d_D_seen_46 rfl ?_
            refine Rj_iload_n (q := 48) d_D_seen_47 rfl rfl rfl ?_
            refine Rj_ishl (q := 49) (z := z_shl 1 a) d_D_seen_48 rfl rfl ?_
            refine Rj_ior (q := 50) (z := z_or (μ 3 12) (z_shl 1 a)) d_D_seen_49 rfl rfl ?_
            refine Rj_pi (q := 53) (ki := 12) pD_D_242_3 rfl rfl d_D_seen_50 rfl ?_
            refine Rj_aload_n (q := 54) d_D_seen_53 rfl rfl rfl ?_
            refine Rj_gr (q := 57) (zd := 3) gD_D_25_0 rfl rfl d_D_seen_54 rfl ?_
            refine Rj_gr (q := 60) (zd := 10) gD_D_245_3 rfl rfl d_D_seen_57 rfl ?_
            refine Rj_iload_n (q := 61) d_D_seen_60 rfl rfl rfl ?_
            refine Rj_iload_n (q := 62) d_D_seen_61 rfl rfl rfl ?_
            refine Rj_is (q := 63) aD_10 rfl (by omega) d_D_seen_62 rfl ?_
            refine Rj_iconst (q := 64) d_D_seen_63 rfl ?_
            refine Rj_bret1 d_D_seen_64 rfl ?_
            refine Rj_iload_n (q := 1) d_M_seen_0 rfl rfl rfl ?_
            refine Rj_iconst (q := 2) d_M_seen_1 rfl ?_
            refine Rj_icmp_ne (q := 5) (t := 15) d_M_seen_2 rfl (by decide) (by first | assumption | exact ⟨by omega, by omega⟩) (by decide) (fun c2 => ?_) (fun c2 => ?_)
            · refine Rj_aload_n (q := 16) d_M_seen_15 rfl rfl rfl ?_
              refine Rj_iload_n (q := 17) d_M_seen_16 rfl rfl rfl ?_
              refine Rj_vo (q := 20) (z := y_M_isDoor) (as := [vI a]) (rest := []) (la := [vA 0, vI a]) oM_0_M_isDoor ml_M_353 mw_M_isDoor mv_M_isDoor rfl d_M_seen_17 rfl rfl rfl rfl rfl ?_
              refine s_M_isDoor hD (by first | assumption | omega) ?_
              refine Rj_b_eq (q := 23) (t := 37) d_M_seen_20 rfl (by decide) (fun c20 => ?_) (fun c20 => ?_)
              · have c20 := of_decide_eq_false c20
                refine Rj_iconst (q := 38) d_M_seen_37 rfl ?_
                refine Rj_bret0 d_M_seen_38 rfl ?_
                exfalso; omega
              · have c20 := of_decide_eq_true c20
                refine Rj_iload_n (q := 24) d_M_seen_23 rfl rfl rfl ?_
                refine Rj_i2l (q := 25) d_M_seen_24 rfl (by first | assumption | exact ⟨by omega, by omega⟩) ?_
                refine Rj_ldc2 (q := 28) k_M_445 d_M_seen_25 rfl ?_
                refine Rj_ldc2 (q := 31) k_M_447 d_M_seen_28 rfl ?_
                refine Rj_cs (q := 34) (z := y_M_in) (as := [vL b, vL (-9999), vL 9999]) (rest := []) (la := [vL b, vU, vL (-9999), vU, vL 9999, vU]) ml_M_138 mw_M_in ms_M_in d_M_seen_31 rfl rfl rfl rfl rfl ?_
                refine s_M_in ⟨by omega, by omega⟩ (by decide) (by decide) ?_
                refine Rj_b_ne (q := 37) (t := 39) d_M_seen_34 rfl (by decide) (fun c34 => ?_) (fun c34 => ?_)
                · have c34 := of_decide_eq_true c34
                  refine Rj_aload_n (q := 40) d_M_seen_39 rfl rfl rfl ?_
                  refine Rj_gr (q := 43) (zd := 11) gM_M_42_0 rfl rfl d_M_seen_40 rfl ?_
                  refine Rj_bipush (q := 45) d_M_seen_43 rfl (by decide +kernel) ?_
                  refine Rj_dup2 (q := 46) d_M_seen_45 rfl (by intro h; cases h) (by intro h; cases h) ?_
                  refine Rj_ia (q := 47) (v := ν 11 6) aM_11 rfl (by decide) rfl d_M_seen_46 rfl ?_
                  refine Rj_iconst (q := 48) d_M_seen_47 rfl ?_
                  refine Rj_iload_n (q := 49) d_M_seen_48 rfl rfl rfl ?_
                  refine Rj_ishl (q := 50) (z := z_shl 1 a) d_M_seen_49 rfl rfl ?_
                  refine Rj_ior (q := 51) (z := z_or (ν 11 6) (z_shl 1 a)) d_M_seen_50 rfl rfl ?_
                  refine Rj_is (q := 52) aM_11 rfl (by decide) d_M_seen_51 rfl ?_
                  refine Rj_aload_n (q := 53) d_M_seen_52 rfl rfl rfl ?_
                  refine Rj_gr (q := 56) (zd := 11) gM_M_42_0 rfl rfl d_M_seen_53 rfl ?_
                  refine Rj_bipush (q := 58) d_M_seen_56 rfl (by decide +kernel) ?_
                  refine Rj_iload_n (q := 59) d_M_seen_58 rfl rfl rfl ?_
                  refine Rj_iadd (q := 60) d_M_seen_59 rfl ?_
                  refine Rj_iload_n (q := 61) d_M_seen_60 rfl rfl rfl ?_
                  refine Rj_is (q := 62) aM_11 rfl (by omega) d_M_seen_61 rfl ?_
                  refine Rj_iconst (q := 63) d_M_seen_62 rfl ?_
                  refine Rj_bret1 d_M_seen_63 rfl ?_
                  obtain ⟨w3, w5, w6, w8⟩ := hC.w
                  have pw := pow_rng (d := a) (n := 12) (by omega) (by decide)
                  have orr := z_or_rng (a := ν 11 6) (b := z_shl 1 a) (n := 12) (by decide) w6.1 pw
                  have w61 := w6.1
                  have pw2 : 0 ≤ z_shl 1 a ∧ z_shl 1 a < 4096 := pw
                  refine ⟨sm_I rfl, hC.told2 (fun c i q1 q2 => (mset_o (by omega)).trans (mset_o (by omega))) (fun c i q1 q2 => (mset_o (by omega)).trans (mset_o (by omega))) (fun i q => (mset_o (by unfold sti at q; omega)).trans (mset_o (by unfold sti at q; omega))) (w3.keep rfl rfl (mset_o (by omega)) (mset_o (by omega)) (mset_o (by omega))) (w5.keep rfl rfl (mset_o (by omega)) (fun i i0 i1 => (mset_o (by omega)).trans (mset_o (by omega))) (mset_o (by omega))) ⟨?_, ?_, fun d d0 d1 d2 => ?_⟩ ⟨?_, ?_⟩, fun c i q => (mset_o (by omega)).trans (mset_o (by omega)), fun c i q => (mset_o (by omega)).trans (mset_o (by omega))⟩
                  · rw [mset_o (by omega), mset_same]; exact orr
                  · rw [mset_o (by omega), mset_same, mset_o (by omega), mset_same, w6.2.1]
                  · rw [mset_o (by omega), mset_o (by omega)] at d1
                    rw [mset_o (by omega), mset_same, zbit_or (by omega) (by omega) d0, zbit_pow (by omega) d0] at d2
                    by_cases e : d = a
                    · subst e
                      rw [mset_same, mset_same]; exact ⟨by omega, rfl⟩
                    · rw [mset_o (by omega), mset_o (by omega), mset_o (by omega), mset_o (by omega)]
                      exact w6.2.2 d d0 d1 (d2.resolve_right e)
                  · rw [mset_o (by omega), mset_o (by omega)]; exact w8.1
                  · rw [mset_o (by omega), mset_o (by omega), mset_o (by omega), mset_o (by omega)]; exact w8.2
                · have c34 := of_decide_eq_false c34
                  refine Rj_iconst (q := 38) d_M_seen_37 rfl ?_
                  refine Rj_bret0 d_M_seen_38 rfl ?_
                  exfalso; omega
            · refine Rj_aload_n (q := 6) d_M_seen_5 rfl rfl rfl ?_
              refine Rj_gr (q := 9) (zd := 11) gM_M_42_0 rfl rfl d_M_seen_6 rfl ?_
              refine Rj_bipush (q := 11) d_M_seen_9 rfl (by decide +kernel) ?_
              refine Rj_iconst (q := 12) d_M_seen_11 rfl ?_
              refine Rj_is (q := 13) aM_11 rfl (by decide) d_M_seen_12 rfl ?_
              refine Rj_iconst (q := 14) d_M_seen_13 rfl ?_
              refine Rj_bret1 d_M_seen_14 rfl ?_
              exfalso; omega
  · refine Rj_aload_n (q := 6) d_D_seen_5 rfl rfl rfl ?_
    refine Rj_gr (q := 9) (zd := 3) gD_D_25_0 rfl rfl d_D_seen_6 rfl ?_
    refine Rj_iconst (q := 10) d_D_seen_9 rfl ?_
    refine Rj_pi (q := 13) (ki := 12) pD_D_242_3 rfl rfl d_D_seen_10 rfl ?_
    refine Rj_iconst (q := 14) d_D_seen_13 rfl ?_
    refine Rj_bret1 d_D_seen_14 rfl ?_
    refine Rj_iload_n (q := 1) d_M_seen_0 rfl rfl rfl ?_
    refine Rj_iconst (q := 2) d_M_seen_1 rfl ?_
    refine Rj_icmp_ne (q := 5) (t := 15) d_M_seen_2 rfl (by decide) (by first | assumption | exact ⟨by omega, by omega⟩) (by decide) (fun c2 => ?_) (fun c2 => ?_)
    · refine Rj_aload_n (q := 16) d_M_seen_15 rfl rfl rfl ?_
      refine Rj_iload_n (q := 17) d_M_seen_16 rfl rfl rfl ?_
      refine Rj_vo (q := 20) (z := y_M_isDoor) (as := [vI a]) (rest := []) (la := [vA 0, vI a]) oM_0_M_isDoor ml_M_353 mw_M_isDoor mv_M_isDoor rfl d_M_seen_17 rfl rfl rfl rfl rfl ?_
      refine s_M_isDoor hD (by first | assumption | omega) ?_
      refine Rj_b_eq (q := 23) (t := 37) d_M_seen_20 rfl (by decide) (fun c20 => ?_) (fun c20 => ?_)
      · have c20 := of_decide_eq_false c20
        refine Rj_iconst (q := 38) d_M_seen_37 rfl ?_
        refine Rj_bret0 d_M_seen_38 rfl ?_
        exfalso; omega
      · have c20 := of_decide_eq_true c20
        refine Rj_iload_n (q := 24) d_M_seen_23 rfl rfl rfl ?_
        refine Rj_i2l (q := 25) d_M_seen_24 rfl (by first | assumption | exact ⟨by omega, by omega⟩) ?_
        refine Rj_ldc2 (q := 28) k_M_445 d_M_seen_25 rfl ?_
        refine Rj_ldc2 (q := 31) k_M_447 d_M_seen_28 rfl ?_
        refine Rj_cs (q := 34) (z := y_M_in) (as := [vL b, vL (-9999), vL 9999]) (rest := []) (la := [vL b, vU, vL (-9999), vU, vL 9999, vU]) ml_M_138 mw_M_in ms_M_in d_M_seen_31 rfl rfl rfl rfl rfl ?_
        refine s_M_in ⟨by omega, by omega⟩ (by decide) (by decide) ?_
        refine Rj_b_ne (q := 37) (t := 39) d_M_seen_34 rfl (by decide) (fun c34 => ?_) (fun c34 => ?_)
        · have c34 := of_decide_eq_true c34
          refine Rj_aload_n (q := 40) d_M_seen_39 rfl rfl rfl ?_
          refine Rj_gr (q := 43) (zd := 11) gM_M_42_0 rfl rfl d_M_seen_40 rfl ?_
          refine Rj_bipush (q := 45) d_M_seen_43 rfl (by decide +kernel) ?_
          refine Rj_dup2 (q := 46) d_M_seen_45 rfl (by intro h; cases h) (by intro h; cases h) ?_
          refine Rj_ia (q := 47) (v := ν 11 6) aM_11 rfl (by decide) rfl d_M_seen_46 rfl ?_
          refine Rj_iconst (q := 48) d_M_seen_47 rfl ?_
          refine Rj_iload_n (q := 49) d_M_seen_48 rfl rfl rfl ?_
          refine Rj_ishl (q := 50) (z := z_shl 1 a) d_M_seen_49 rfl rfl ?_
          refine Rj_ior (q := 51) (z := z_or (ν 11 6) (z_shl 1 a)) d_M_seen_50 rfl rfl ?_
          refine Rj_is (q := 52) aM_11 rfl (by decide) d_M_seen_51 rfl ?_
          refine Rj_aload_n (q := 53) d_M_seen_52 rfl rfl rfl ?_
          refine Rj_gr (q := 56) (zd := 11) gM_M_42_0 rfl rfl d_M_seen_53 rfl ?_
          refine Rj_bipush (q := 58) d_M_seen_56 rfl (by decide +kernel) ?_
          refine Rj_iload_n (q := 59) d_M_seen_58 rfl rfl rfl ?_
          refine Rj_iadd (q := 60) d_M_seen_59 rfl ?_
          refine Rj_iload_n (q := 61) d_M_seen_60 rfl rfl rfl ?_
          refine Rj_is (q := 62) aM_11 rfl (by omega) d_M_seen_61 rfl ?_
          refine Rj_iconst (q := 63) d_M_seen_62 rfl ?_
          refine Rj_bret1 d_M_seen_63 rfl ?_
          exfalso; omega
        · have c34 := of_decide_eq_false c34
          refine Rj_iconst (q := 38) d_M_seen_37 rfl ?_
          refine Rj_bret0 d_M_seen_38 rfl ?_
          exfalso; omega
    · refine Rj_aload_n (q := 6) d_M_seen_5 rfl rfl rfl ?_
      refine Rj_gr (q := 9) (zd := 11) gM_M_42_0 rfl rfl d_M_seen_6 rfl ?_
      refine Rj_bipush (q := 11) d_M_seen_9 rfl (by decide +kernel) ?_
      refine Rj_iconst (q := 12) d_M_seen_11 rfl ?_
      refine Rj_is (q := 13) aM_11 rfl (by decide) d_M_seen_12 rfl ?_
      refine Rj_iconst (q := 14) d_M_seen_13 rfl ?_
      refine Rj_bret1 d_M_seen_14 rfl ?_
      obtain ⟨w3, w5, w6, w8⟩ := hC.w
      exact ⟨sm_I rfl, hC.told2 (fun c i q1 q2 => mset_o (by omega)) (fun c i q1 q2 => mset_o (by omega)) (fun i q => mset_o (by unfold sti at q; omega)) (w3.keep rfl rfl rfl rfl rfl) (w5.keep rfl rfl rfl (fun i i0 i1 => mset_o (by omega)) rfl) ⟨⟨Int.le_refl 0, (show (0 : Int) < 4096 by decide)⟩, rfl, fun d d0 d1 d2 => by rw [mset_same, zbit_0] at d2; exact absurd d2 (by decide)⟩ w8, fun c i q => mset_o (by omega), fun c i q => mset_o (by omega)⟩
set_option maxHeartbeats 8000000 in
theorem C_coming {n : Nat} {μ ν : Mem} {a : Int} (hC : Cor n μ ν) (hn : n ≤ 511) (ha : i32 a)  : Rj YD y_D_coming 0 [vA 0, vI a] [] μ (fun r μ' => Rj YM y_M_coming 0 [vA 0, vI a] [] ν (fun r' ν' => Sm 1 r' r ∧ Cor (n + 1) μ' ν' ∧ Kp μ μ' ∧ Kq ν ν')) := by
  obtain ⟨hTP, hK, hSc, h, hM, hSB, hBK, hIM⟩ := id hC
  have hC1 := hC.next
  obtain ⟨z0, z1, z2, z3, z4, z5, z6, z7⟩ := h.z
  obtain ⟨hS, hH, hP, hB, hFx⟩ := id hM
  have hD := z0
  have hJ := z1
  have e50 := hK.2.2.2.2.1
  have e60 := hSc.2.2.2.2.2.1
  refine Rj_iload_n (q := 1) d_D_coming_0 rfl rfl rfl ?_
  refine Rj_iconst (q := 2) d_D_coming_1 rfl ?_
  refine Rj_icmp_ne (q := 5) (t := 15) d_D_coming_2 rfl (by decide) (by first | assumption | exact ⟨by omega, by omega⟩) (by decide) (fun c2 => ?_) (fun c2 => ?_)
  · refine Rj_aload_n (q := 16) d_D_coming_15 rfl rfl rfl ?_
    refine Rj_gr (q := 19) (zd := 3) gD_D_25_0 rfl rfl d_D_coming_16 rfl ?_
    refine Rj_iload_n (q := 20) d_D_coming_19 rfl rfl rfl ?_
    refine Rj_vo (q := 23) (z := y_Sc_isDoor) (as := [vI a]) (rest := []) (la := [vA 3, vI a]) oD_3_Sc_isDoor ml_D_144 mw_Sc_isDoor mv_Sc_isDoor rfl d_D_coming_20 rfl rfl rfl rfl rfl ?_
    refine Rj_iload_n (q := 1) d_Sc_isDoor_0 rfl rfl rfl ?_
    refine Rj_if_lt (q := 4) (t := 16) d_Sc_isDoor_1 rfl (by decide) (by first | assumption | exact ⟨by omega, by omega⟩) (fun c20_1 => ?_) (fun c20_1 => ?_)
    · refine Rj_iconst (q := 17) d_Sc_isDoor_16 rfl ?_
      refine Rj_bret0 d_Sc_isDoor_17 rfl ?_
      refine Rj_if_eq (q := 26) (t := 38) d_D_coming_23 rfl (by decide) (by decide) (fun _ => ?_) (fun c => absurd c (by decide))
      refine Rj_bipush (q := 40) d_D_coming_38 rfl (by decide +kernel) ?_
      refine Rj_iret d_D_coming_40 rfl ?_
      refine Rj_iload_n (q := 1) d_M_coming_0 rfl rfl rfl ?_
      refine Rj_iconst (q := 2) d_M_coming_1 rfl ?_
      refine Rj_icmp_ne (q := 5) (t := 14) d_M_coming_2 rfl (by decide) (by first | assumption | exact ⟨by omega, by omega⟩) (by decide) (fun c2 => ?_) (fun c2 => ?_)
      · refine Rj_aload_n (q := 15) d_M_coming_14 rfl rfl rfl ?_
        refine Rj_iload_n (q := 16) d_M_coming_15 rfl rfl rfl ?_
        refine Rj_vo (q := 19) (z := y_M_isDoor) (as := [vI a]) (rest := []) (la := [vA 0, vI a]) oM_0_M_isDoor ml_M_353 mw_M_isDoor mv_M_isDoor rfl d_M_coming_16 rfl rfl rfl rfl rfl ?_
        refine s_M_isDoor hD (by first | assumption | omega) ?_
        refine Rj_b_eq (q := 22) (t := 33) d_M_coming_19 rfl (by decide) (fun c19 => ?_) (fun c19 => ?_)
        · have c19 := of_decide_eq_false c19
          refine Rj_bipush (q := 35) d_M_coming_33 rfl (by decide +kernel) ?_
          refine Rj_iret d_M_coming_35 rfl ?_
          exact ⟨sm_I rfl, hC1, kp0 _, kq0 _⟩
        · have c19 := of_decide_eq_true c19
          refine Rj_aload_n (q := 23) d_M_coming_22 rfl rfl rfl ?_
          refine Rj_gr (q := 26) (zd := 11) gM_M_42_0 rfl rfl d_M_coming_23 rfl ?_
          refine Rj_iconst (q := 27) d_M_coming_26 rfl ?_
          refine Rj_ia (q := 28) (v := ν 11 5) aM_11 rfl (by decide) rfl d_M_coming_27 rfl ?_
          refine Rj_bipush (q := 30) d_M_coming_28 rfl (by decide +kernel) ?_
          refine Rj_icmp_ne (q := 33) (t := 36) d_M_coming_30 rfl (by decide) (by first | assumption | exact ⟨by omega, by omega⟩) (by decide) (fun c30 => ?_) (fun c30 => ?_)
          · refine Rj_aload_n (q := 37) d_M_coming_36 rfl rfl rfl ?_
            refine Rj_gr (q := 40) (zd := 11) gM_M_42_0 rfl rfl d_M_coming_37 rfl ?_
            refine Rj_bipush (q := 42) d_M_coming_40 rfl (by decide +kernel) ?_
            refine Rj_aload_n (q := 43) d_M_coming_42 rfl rfl rfl ?_
            refine Rj_gr (q := 46) (zd := 11) gM_M_42_0 rfl rfl d_M_coming_43 rfl ?_
            refine Rj_iconst (q := 47) d_M_coming_46 rfl ?_
            refine Rj_ia (q := 48) (v := ν 11 5) aM_11 rfl (by decide) rfl d_M_coming_47 rfl ?_
            refine Rj_iadd (q := 49) d_M_coming_48 rfl ?_
            refine Rj_iload_n (q := 50) d_M_coming_49 rfl rfl rfl ?_
            refine Rj_is (q := 51) aM_11 rfl (by omega) d_M_coming_50 rfl ?_
            refine Rj_aload_n (q := 52) d_M_coming_51 rfl rfl rfl ?_
            refine Rj_gr (q := 55) (zd := 11) gM_M_42_0 rfl rfl d_M_coming_52 rfl ?_
            refine Rj_iconst (q := 56) d_M_coming_55 rfl ?_
            refine Rj_dup2 (q := 57) d_M_coming_56 rfl (by intro h; cases h) (by intro h; cases h) ?_
            refine Rj_ia (q := 58) (v := ν 11 5) aM_11 rfl (by decide) (mset_o (by omega)) d_M_coming_57 rfl ?_
            refine Rj_iconst (q := 59) d_M_coming_58 rfl ?_
            refine Rj_iadd (q := 60) d_M_coming_59 rfl ?_
            refine Rj_is (q := 61) aM_11 rfl (by decide) d_M_coming_60 rfl ?_
            refine Rj_aload_n (q := 62) d_M_coming_61 rfl rfl rfl ?_
            refine Rj_gr (q := 65) (zd := 11) gM_M_42_0 rfl rfl d_M_coming_62 rfl ?_
            refine Rj_iconst (q := 66) d_M_coming_65 rfl ?_
            refine Rj_ia (q := 67) (v := ν 11 5 + 1) aM_11 rfl (by decide) (mset_same _ _ _ _) d_M_coming_66 rfl ?_
            refine Rj_iret d_M_coming_67 rfl ?_
            exfalso; omega
          · refine Rj_bipush (q := 35) d_M_coming_33 rfl (by decide +kernel) ?_
            refine Rj_iret d_M_coming_35 rfl ?_
            exact ⟨sm_I rfl, hC1, kp0 _, kq0 _⟩
      · refine Rj_aload_n (q := 6) d_M_coming_5 rfl rfl rfl ?_
        refine Rj_gr (q := 9) (zd := 11) gM_M_42_0 rfl rfl d_M_coming_6 rfl ?_
        refine Rj_iconst (q := 10) d_M_coming_9 rfl ?_
        refine Rj_iconst (q := 11) d_M_coming_10 rfl ?_
        refine Rj_is (q := 12) aM_11 rfl (by decide) d_M_coming_11 rfl ?_
        refine Rj_iconst (q := 13) d_M_coming_12 rfl ?_
        refine Rj_iret d_M_coming_13 rfl ?_
        exfalso; omega
    · refine Rj_iload_n (q := 5) d_Sc_isDoor_4 rfl rfl rfl ?_
      refine Rj_aload_n (q := 6) d_Sc_isDoor_5 rfl rfl rfl ?_
      refine Rj_gi (q := 9) (ki := 0) (v := μ 3 0) gD_Sc_37_3 rfl rfl rfl d_Sc_isDoor_6 rfl ?_
      refine Rj_icmp_ge (q := 12) (t := 16) d_Sc_isDoor_9 rfl (by decide) (by first | assumption | exact ⟨by omega, by omega⟩) (by first | assumption | exact ⟨by omega, by omega⟩) (fun c20_9 => ?_) (fun c20_9 => ?_)
      · refine Rj_iconst (q := 17) d_Sc_isDoor_16 rfl ?_
        refine Rj_bret0 d_Sc_isDoor_17 rfl ?_
        refine Rj_if_eq (q := 26) (t := 38) d_D_coming_23 rfl (by decide) (by decide) (fun _ => ?_) (fun c => absurd c (by decide))
        refine Rj_bipush (q := 40) d_D_coming_38 rfl (by decide +kernel) ?_
        refine Rj_iret d_D_coming_40 rfl ?_
        refine Rj_iload_n (q := 1) d_M_coming_0 rfl rfl rfl ?_
        refine Rj_iconst (q := 2) d_M_coming_1 rfl ?_
        refine Rj_icmp_ne (q := 5) (t := 14) d_M_coming_2 rfl (by decide) (by first | assumption | exact ⟨by omega, by omega⟩) (by decide) (fun c2 => ?_) (fun c2 => ?_)
        · refine Rj_aload_n (q := 15) d_M_coming_14 rfl rfl rfl ?_
          refine Rj_iload_n (q := 16) d_M_coming_15 rfl rfl rfl ?_
          refine Rj_vo (q := 19) (z := y_M_isDoor) (as := [vI a]) (rest := []) (la := [vA 0, vI a]) oM_0_M_isDoor ml_M_353 mw_M_isDoor mv_M_isDoor rfl d_M_coming_16 rfl rfl rfl rfl rfl ?_
          refine s_M_isDoor hD (by first | assumption | omega) ?_
          refine Rj_b_eq (q := 22) (t := 33) d_M_coming_19 rfl (by decide) (fun c19 => ?_) (fun c19 => ?_)
          · have c19 := of_decide_eq_false c19
            refine Rj_bipush (q := 35) d_M_coming_33 rfl (by decide +kernel) ?_
            refine Rj_iret d_M_coming_35 rfl ?_
            exact ⟨sm_I rfl, hC1, kp0 _, kq0 _⟩
          · have c19 := of_decide_eq_true c19
            refine Rj_aload_n (q := 23) d_M_coming_22 rfl rfl rfl ?_
            refine Rj_gr (q := 26) (zd := 11) gM_M_42_0 rfl rfl d_M_coming_23 rfl ?_
            refine Rj_iconst (q := 27) d_M_coming_26 rfl ?_
            refine Rj_ia (q := 28) (v := ν 11 5) aM_11 rfl (by decide) rfl d_M_coming_27 rfl ?_
            refine Rj_bipush (q := 30) d_M_coming_28 rfl (by decide +kernel) ?_
            refine Rj_icmp_ne (q := 33) (t := 36) d_M_coming_30 rfl (by decide) (by first | assumption | exact ⟨by omega, by omega⟩) (by decide) (fun c30 => ?_) (fun c30 => ?_)
            · refine Rj_aload_n (q := 37) d_M_coming_36 rfl rfl rfl ?_
              refine Rj_gr (q := 40) (zd := 11) gM_M_42_0 rfl rfl d_M_coming_37 rfl ?_
              refine Rj_bipush (q := 42) d_M_coming_40 rfl (by decide +kernel) ?_
              refine Rj_aload_n (q := 43) d_M_coming_42 rfl rfl rfl ?_
              refine Rj_gr (q := 46) (zd := 11) gM_M_42_0 rfl rfl d_M_coming_43 rfl ?_
              refine Rj_iconst (q := 47) d_M_coming_46 rfl ?_
              refine Rj_ia (q := 48) (v := ν 11 5) aM_11 rfl (by decide) rfl d_M_coming_47 rfl ?_
              refine Rj_iadd (q := 49) d_M_coming_48 rfl ?_
              refine Rj_iload_n (q := 50) d_M_coming_49 rfl rfl rfl ?_
              refine Rj_is (q := 51) aM_11 rfl (by omega) d_M_coming_50 rfl ?_
              refine Rj_aload_n (q := 52) d_M_coming_51 rfl rfl rfl ?_
              refine Rj_gr (q := 55) (zd := 11) gM_M_42_0 rfl rfl d_M_coming_52 rfl ?_
              refine Rj_iconst (q := 56) d_M_coming_55 rfl ?_
              refine Rj_dup2 (q := 57) d_M_coming_56 rfl (by intro h; cases h) (by intro h; cases h) ?_
              refine Rj_ia (q := 58) (v := ν 11 5) aM_11 rfl (by decide) (mset_o (by omega)) d_M_coming_57 rfl ?_
              refine Rj_iconst (q := 59) d_M_coming_58 rfl ?_
              refine Rj_iadd (q := 60) d_M_coming_59 rfl ?_
              refine Rj_is (q := 61) aM_11 rfl (by decide) d_M_coming_60 rfl ?_
              refine Rj_aload_n (q := 62) d_M_coming_61 rfl rfl rfl ?_
              refine Rj_gr (q := 65) (zd := 11) gM_M_42_0 rfl rfl d_M_coming_62 rfl ?_
              refine Rj_iconst (q := 66) d_M_coming_65 rfl ?_
              refine Rj_ia (q := 67) (v := ν 11 5 + 1) aM_11 rfl (by decide) (mset_same _ _ _ _) d_M_coming_66 rfl ?_
              refine Rj_iret d_M_coming_67 rfl ?_
              exfalso; omega
            · refine Rj_bipush (q := 35) d_M_coming_33 rfl (by decide +kernel) ?_
              refine Rj_iret d_M_coming_35 rfl ?_
              exact ⟨sm_I rfl, hC1, kp0 _, kq0 _⟩
        · refine Rj_aload_n (q := 6) d_M_coming_5 rfl rfl rfl ?_
          refine Rj_gr (q := 9) (zd := 11) gM_M_42_0 rfl rfl d_M_coming_6 rfl ?_
          refine Rj_iconst (q := 10) d_M_coming_9 rfl ?_
          refine Rj_iconst (q := 11) d_M_coming_10 rfl ?_
          refine Rj_is (q := 12) aM_11 rfl (by decide) d_M_coming_11 rfl ?_
          refine Rj_iconst (q := 13) d_M_coming_12 rfl ?_
          refine Rj_iret d_M_coming_13 rfl ?_
          exfalso; omega
      · refine Rj_iconst (q := 13) d_Sc_isDoor_12 rfl ?_
        refine Rj_goto (t := 17) d_Sc_isDoor_13 (by decide) ?_
        refine Rj_bret1 d_Sc_isDoor_17 rfl ?_
        refine Rj_if_eq (q := 26) (t := 38) d_D_coming_23 rfl (by decide) (by decide) (fun c => absurd c (by decide)) (fun _ => ?_)
        refine Rj_aload_n (q := 27) d_D_coming_26 rfl rfl rfl ?_
        refine Rj_gr (q := 30) (zd := 3) gD_D_25_0 rfl rfl d_D_coming_27 rfl ?_
        refine Rj_gi (q := 33) (ki := 14) (v := μ 3 14) gD_D_263_3 rfl rfl rfl d_D_coming_30 rfl ?_
        refine Rj_bipush (q := 35) d_D_coming_33 rfl (by decide +kernel) ?_
        refine Rj_icmp_lt (q := 38) (t := 41) d_D_coming_35 rfl (by decide) (by first | assumption | exact ⟨by omega, by omega⟩) (by decide) (fun c35 => ?_) (fun c35 => ?_)
        · refine Rj_aload_n (q := 42) d_D_coming_41 rfl rfl rfl ?_
          refine Rj_gr (q := 45) (zd := 3) gD_D_25_0 rfl rfl d_D_coming_42 rfl ?_
          refine Rj_gr (q := 48) (zd := 11) gD_D_266_3 rfl rfl d_D_coming_45 rfl ?_
          refine Rj_aload_n (q := 49) d_D_coming_48 rfl rfl rfl ?_
          refine Rj_gr (q := 52) (zd := 3) gD_D_25_0 rfl rfl d_D_coming_49 rfl ?_
          refine Rj_gi (q := 55) (ki := 14) (v := μ 3 14) gD_D_263_3 rfl rfl rfl d_D_coming_52 rfl ?_
          refine Rj_iload_n (q := 56) d_D_coming_55 rfl rfl rfl ?_
          refine Rj_is (q := 57) aD_11 rfl (by omega) d_D_coming_56 rfl ?_
          refine Rj_aload_n (q := 58) d_D_coming_57 rfl rfl rfl ?_
          refine Rj_gr (q := 61) (zd := 3) gD_D_25_0 rfl rfl d_D_coming_58 rfl ?_
          refine Rj_dup (q := 62) d_D_coming_61 rfl (by intro h; cases h) ?_
          refine Rj_gi (q := 65) (ki := 14) (v := μ 3 14) gD_D_263_3 rfl rfl rfl d_D_coming_62 rfl ?_
          refine Rj_iconst (q := 66) d_D_coming_65 rfl ?_
          refine Rj_iadd (q := 67) d_D_coming_66 rfl ?_
          refine Rj_pi (q := 70) (ki := 14) pD_D_263_3 rfl rfl d_D_coming_67 rfl ?_
          refine Rj_aload_n (q := 71) d_D_coming_70 rfl rfl rfl ?_
          refine Rj_gr (q := 74) (zd := 3) gD_D_25_0 rfl rfl d_D_coming_71 rfl ?_
          refine Rj_gi (q := 77) (ki := 14) (v := (μ 3 14) + 1) gD_D_263_3 rfl rfl rfl d_D_coming_74 rfl ?_
          refine Rj_iret d_D_coming_77 rfl ?_
          refine Rj_iload_n (q := 1) d_M_coming_0 rfl rfl rfl ?_
          refine Rj_iconst (q := 2) d_M_coming_1 rfl ?_
          refine Rj_icmp_ne (q := 5) (t := 14) d_M_coming_2 rfl (by decide) (by first | assumption | exact ⟨by omega, by omega⟩) (by decide) (fun c2 => ?_) (fun c2 => ?_)
          · refine Rj_aload_n (q := 15) d_M_coming_14 rfl rfl rfl ?_
            refine Rj_iload_n (q := 16) d_M_coming_15 rfl rfl rfl ?_
            refine Rj_vo (q := 19) (z := y_M_isDoor) (as := [vI a]) (rest := []) (la := [vA 0, vI a]) oM_0_M_isDoor ml_M_353 mw_M_isDoor mv_M_isDoor rfl d_M_coming_16 rfl rfl rfl rfl rfl ?_
            refine s_M_isDoor hD (by first | assumption | omega) ?_
            refine Rj_b_eq (q := 22) (t := 33) d_M_coming_19 rfl (by decide) (fun c19 => ?_) (fun c19 => ?_)
            · have c19 := of_decide_eq_false c19
              refine Rj_bipush (q := 35) d_M_coming_33 rfl (by decide +kernel) ?_
              refine Rj_iret d_M_coming_35 rfl ?_
              exfalso; omega
            · have c19 := of_decide_eq_true c19
              refine Rj_aload_n (q := 23) d_M_coming_22 rfl rfl rfl ?_
              refine Rj_gr (q := 26) (zd := 11) gM_M_42_0 rfl rfl d_M_coming_23 rfl ?_
              refine Rj_iconst (q := 27) d_M_coming_26 rfl ?_
              refine Rj_ia (q := 28) (v := ν 11 5) aM_11 rfl (by decide) rfl d_M_coming_27 rfl ?_
              refine Rj_bipush (q := 30) d_M_coming_28 rfl (by decide +kernel) ?_
              refine Rj_icmp_ne (q := 33) (t := 36) d_M_coming_30 rfl (by decide) (by first | assumption | exact ⟨by omega, by omega⟩) (by decide) (fun c30 => ?_) (fun c30 => ?_)
              · refine Rj_aload_n (q := 37) d_M_coming_36 rfl rfl rfl ?_
                refine Rj_gr (q := 40) (zd := 11) gM_M_42_0 rfl rfl d_M_coming_37 rfl ?_
                refine Rj_bipush (q := 42) d_M_coming_40 rfl (by decide +kernel) ?_
                refine Rj_aload_n (q := 43) d_M_coming_42 rfl rfl rfl ?_
                refine Rj_gr (q := 46) (zd := 11) gM_M_42_0 rfl rfl d_M_coming_43 rfl ?_
                refine Rj_iconst (q := 47) d_M_coming_46 rfl ?_
                refine Rj_ia (q := 48) (v := ν 11 5) aM_11 rfl (by decide) rfl d_M_coming_47 rfl ?_
                refine Rj_iadd (q := 49) d_M_coming_48 rfl ?_
                refine Rj_iload_n (q := 50) d_M_coming_49 rfl rfl rfl ?_
                refine Rj_is (q := 51) aM_11 rfl (by omega) d_M_coming_50 rfl ?_
                refine Rj_aload_n (q := 52) d_M_coming_51 rfl rfl rfl ?_
                refine Rj_gr (q := 55) (zd := 11) gM_M_42_0 rfl rfl d_M_coming_52 rfl ?_
                refine Rj_iconst (q := 56) d_M_coming_55 rfl ?_
                refine Rj_dup2 (q := 57) d_M_coming_56 rfl (by intro h; cases h) (by intro h; cases h) ?_
                refine Rj_ia (q := 58) (v := ν 11 5) aM_11 rfl (by decide) (mset_o (by omega)) d_M_coming_57 rfl ?_
                refine Rj_iconst (q := 59) d_M_coming_58 rfl ?_
                refine Rj_iadd (q := 60) d_M_coming_59 rfl ?_
                refine Rj_is (q := 61) aM_11 rfl (by decide) d_M_coming_60 rfl ?_
                refine Rj_aload_n (q := 62) d_M_coming_61 rfl rfl rfl ?_
                refine Rj_gr (q := 65) (zd := 11) gM_M_42_0 rfl rfl d_M_coming_62 rfl ?_
                refine Rj_iconst (q := 66) d_M_coming_65 rfl ?_
                refine Rj_ia (q := 67) (v := ν 11 5 + 1) aM_11 rfl (by decide) (mset_same _ _ _ _) d_M_coming_66 rfl ?_
                refine Rj_iret d_M_coming_67 rfl ?_
                obtain ⟨w3, w5, w6, w8⟩ := hC.w
                have e5 := w5.1
                have e6 := w5.2.1
                refine ⟨sm_I (by first | omega | (rw [e6])), hC.told2 (fun c i q1 q2 => (mset_o (by omega)).trans (mset_o (by omega))) (fun c i q1 q2 => (mset_o (by omega)).trans (mset_o (by omega))) (fun i q => (mset_o (by unfold sti at q; omega)).trans (mset_o (by unfold sti at q; omega))) (w3.keep rfl rfl ((mset_o (by omega)).trans (mset_o (by omega))) ((mset_o (by omega)).trans (mset_o (by omega))) ((mset_o (by omega)).trans (mset_o (by omega)))) ⟨?_, ?_, fun i i0 i1 => ?_⟩ (w6.keep z0.2 rfl rfl ((mset_o (by omega)).trans (mset_o (by omega))) (fun i i0 i1 => (mset_o (by omega)).trans (mset_o (by omega))) ((mset_o (by omega)).trans (mset_o (by omega)))) ⟨?_, ?_⟩, fun c i q => (mset_o (by omega)).trans (mset_o (by omega)), fun c i q => (mset_o (by omega)).trans (mset_o (by omega))⟩
                · rw [mset_same]; omega
                · rw [mset_same, mset_same, e6]
                · rw [mset_same] at i1
                  rw [show (mset (mset ν 11 (94 + ν 11 5) a) 11 5 (ν 11 5 + 1)) 11 0 = ν 11 0 from (mset_o (by omega)).trans (mset_o (by omega))]
                  by_cases e : i = ν 11 5
                  · subst e
                    rw [mset_o (by omega), mset_same, mset_o (by omega), e6, mset_same]; exact ⟨by omega, rfl⟩
                  · rw [mset_o (by omega), mset_o (by omega), mset_o (by omega), mset_o (by omega)]
                    exact w5.2.2 i i0 (by omega)
                · rw [mset_o (by omega), mset_o (by omega)]; exact w8.1
                · rw [mset_o (by omega), mset_o (by omega), mset_o (by omega), mset_o (by omega)]; exact w8.2
              · refine Rj_bipush (q := 35) d_M_coming_33 rfl (by decide +kernel) ?_
                refine Rj_iret d_M_coming_35 rfl ?_
                exfalso; omega
          · refine Rj_aload_n (q := 6) d_M_coming_5 rfl rfl rfl ?_
            refine Rj_gr (q := 9) (zd := 11) gM_M_42_0 rfl rfl d_M_coming_6 rfl ?_
            refine Rj_iconst (q := 10) d_M_coming_9 rfl ?_
            refine Rj_iconst (q := 11) d_M_coming_10 rfl ?_
            refine Rj_is (q := 12) aM_11 rfl (by decide) d_M_coming_11 rfl ?_
            refine Rj_iconst (q := 13) d_M_coming_12 rfl ?_
            refine Rj_iret d_M_coming_13 rfl ?_
            exfalso; omega
        · refine Rj_bipush (q := 40) d_D_coming_38 rfl (by decide +kernel) ?_
          refine Rj_iret d_D_coming_40 rfl ?_
          refine Rj_iload_n (q := 1) d_M_coming_0 rfl rfl rfl ?_
          refine Rj_iconst (q := 2) d_M_coming_1 rfl ?_
          refine Rj_icmp_ne (q := 5) (t := 14) d_M_coming_2 rfl (by decide) (by first | assumption | exact ⟨by omega, by omega⟩) (by decide) (fun c2 => ?_) (fun c2 => ?_)
          · refine Rj_aload_n (q := 15) d_M_coming_14 rfl rfl rfl ?_
            refine Rj_iload_n (q := 16) d_M_coming_15 rfl rfl rfl ?_
            refine Rj_vo (q := 19) (z := y_M_isDoor) (as := [vI a]) (rest := []) (la := [vA 0, vI a]) oM_0_M_isDoor ml_M_353 mw_M_isDoor mv_M_isDoor rfl d_M_coming_16 rfl rfl rfl rfl rfl ?_
            refine s_M_isDoor hD (by first | assumption | omega) ?_
            refine Rj_b_eq (q := 22) (t := 33) d_M_coming_19 rfl (by decide) (fun c19 => ?_) (fun c19 => ?_)
            · have c19 := of_decide_eq_false c19
              refine Rj_bipush (q := 35) d_M_coming_33 rfl (by decide +kernel) ?_
              refine Rj_iret d_M_coming_35 rfl ?_
              exact ⟨sm_I rfl, hC1, kp0 _, kq0 _⟩
            · have c19 := of_decide_eq_true c19
              refine Rj_aload_n (q := 23) d_M_coming_22 rfl rfl rfl ?_
              refine Rj_gr (q := 26) (zd := 11) gM_M_42_0 rfl rfl d_M_coming_23 rfl ?_
              refine Rj_iconst (q := 27) d_M_coming_26 rfl ?_
              refine Rj_ia (q := 28) (v := ν 11 5) aM_11 rfl (by decide) rfl d_M_coming_27 rfl ?_
              refine Rj_bipush (q := 30) d_M_coming_28 rfl (by decide +kernel) ?_
              refine Rj_icmp_ne (q := 33) (t := 36) d_M_coming_30 rfl (by decide) (by first | assumption | exact ⟨by omega, by omega⟩) (by decide) (fun c30 => ?_) (fun c30 => ?_)
              · refine Rj_aload_n (q := 37) d_M_coming_36 rfl rfl rfl ?_
                refine Rj_gr (q := 40) (zd := 11) gM_M_42_0 rfl rfl d_M_coming_37 rfl ?_
                refine Rj_bipush (q := 42) d_M_coming_40 rfl (by decide +kernel) ?_
                refine Rj_aload_n (q := 43) d_M_coming_42 rfl rfl rfl ?_
                refine Rj_gr (q := 46) (zd := 11) gM_M_42_0 rfl rfl d_M_coming_43 rfl ?_
                refine Rj_iconst (q := 47) d_M_coming_46 rfl ?_
                refine Rj_ia (q := 48) (v := ν 11 5) aM_11 rfl (by decide) rfl d_M_coming_47 rfl ?_
                refine Rj_iadd (q := 49) d_M_coming_48 rfl ?_
                refine Rj_iload_n (q := 50) d_M_coming_49 rfl rfl rfl ?_
                refine Rj_is (q := 51) aM_11 rfl (by omega) d_M_coming_50 rfl ?_
                refine Rj_aload_n (q := 52) d_M_coming_51 rfl rfl rfl ?_
                refine Rj_gr (q := 55) (zd := 11) gM_M_42_0 rfl rfl d_M_coming_52 rfl ?_
                refine Rj_iconst (q := 56) d_M_coming_55 rfl ?_
                refine Rj_dup2 (q := 57) d_M_coming_56 rfl (by intro h; cases h) (by intro h; cases h) ?_
                refine Rj_ia (q := 58) (v := ν 11 5) aM_11 rfl (by decide) (mset_o (by omega)) d_M_coming_57 rfl ?_
                refine Rj_iconst (q := 59) d_M_coming_58 rfl ?_
                refine Rj_iadd (q := 60) d_M_coming_59 rfl ?_
                refine Rj_is (q := 61) aM_11 rfl (by decide) d_M_coming_60 rfl ?_
                refine Rj_aload_n (q := 62) d_M_coming_61 rfl rfl rfl ?_
                refine Rj_gr (q := 65) (zd := 11) gM_M_42_0 rfl rfl d_M_coming_62 rfl ?_
                refine Rj_iconst (q := 66) d_M_coming_65 rfl ?_
                refine Rj_ia (q := 67) (v := ν 11 5 + 1) aM_11 rfl (by decide) (mset_same _ _ _ _) d_M_coming_66 rfl ?_
                refine Rj_iret d_M_coming_67 rfl ?_
                exfalso; omega
              · refine Rj_bipush (q := 35) d_M_coming_33 rfl (by decide +kernel) ?_
                refine Rj_iret d_M_coming_35 rfl ?_
                exact ⟨sm_I rfl, hC1, kp0 _, kq0 _⟩
          · refine Rj_aload_n (q := 6) d_M_coming_5 rfl rfl rfl ?_
            refine Rj_gr (q := 9) (zd := 11) gM_M_42_0 rfl rfl d_M_coming_6 rfl ?_
            refine Rj_iconst (q := 10) d_M_coming_9 rfl ?_
            refine Rj_iconst (q := 11) d_M_coming_10 rfl ?_
            refine Rj_is (q := 12) aM_11 rfl (by decide) d_M_coming_11 rfl ?_
            refine Rj_iconst (q := 13) d_M_coming_12 rfl ?_
            refine Rj_iret d_M_coming_13 rfl ?_
            exfalso; omega
  · refine Rj_aload_n (q := 6) d_D_coming_5 rfl rfl rfl ?_
    refine Rj_gr (q := 9) (zd := 3) gD_D_25_0 rfl rfl d_D_coming_6 rfl ?_
    refine Rj_iconst (q := 10) d_D_coming_9 rfl ?_
    refine Rj_pi (q := 13) (ki := 14) pD_D_263_3 rfl rfl d_D_coming_10 rfl ?_
    refine Rj_iconst (q := 14) d_D_coming_13 rfl ?_
    refine Rj_iret d_D_coming_14 rfl ?_
    refine Rj_iload_n (q := 1) d_M_coming_0 rfl rfl rfl ?_
    refine Rj_iconst (q := 2) d_M_coming_1 rfl ?_
    refine Rj_icmp_ne (q := 5) (t := 14) d_M_coming_2 rfl (by decide) (by first | assumption | exact ⟨by omega, by omega⟩) (by decide) (fun c2 => ?_) (fun c2 => ?_)
    · refine Rj_aload_n (q := 15) d_M_coming_14 rfl rfl rfl ?_
      refine Rj_iload_n (q := 16) d_M_coming_15 rfl rfl rfl ?_
      refine Rj_vo (q := 19) (z := y_M_isDoor) (as := [vI a]) (rest := []) (la := [vA 0, vI a]) oM_0_M_isDoor ml_M_353 mw_M_isDoor mv_M_isDoor rfl d_M_coming_16 rfl rfl rfl rfl rfl ?_
      refine s_M_isDoor hD (by first | assumption | omega) ?_
      refine Rj_b_eq (q := 22) (t := 33) d_M_coming_19 rfl (by decide) (fun c19 => ?_) (fun c19 => ?_)
      · have c19 := of_decide_eq_false c19
        refine Rj_bipush (q := 35) d_M_coming_33 rfl (by decide +kernel) ?_
        refine Rj_iret d_M_coming_35 rfl ?_
        exfalso; omega
      · have c19 := of_decide_eq_true c19
        refine Rj_aload_n (q := 23) d_M_coming_22 rfl rfl rfl ?_
        refine Rj_gr (q := 26) (zd := 11) gM_M_42_0 rfl rfl d_M_coming_23 rfl ?_
        refine Rj_iconst (q := 27) d_M_coming_26 rfl ?_
        refine Rj_ia (q := 28) (v := ν 11 5) aM_11 rfl (by decide) rfl d_M_coming_27 rfl ?_
        refine Rj_bipush (q := 30) d_M_coming_28 rfl (by decide +kernel) ?_
        refine Rj_icmp_ne (q := 33) (t := 36) d_M_coming_30 rfl (by decide) (by first | assumption | exact ⟨by omega, by omega⟩) (by decide) (fun c30 => ?_) (fun c30 => ?_)
        · refine Rj_aload_n (q := 37) d_M_coming_36 rfl rfl rfl ?_
          refine Rj_gr (q := 40) (zd := 11) gM_M_42_0 rfl rfl d_M_coming_37 rfl ?_
          refine Rj_bipush (q := 42) d_M_coming_40 rfl (by decide +kernel) ?_
          refine Rj_aload_n (q := 43) d_M_coming_42 rfl rfl rfl ?_
          refine Rj_gr (q := 46) (zd := 11) gM_M_42_0 rfl rfl d_M_coming_43 rfl ?_
          refine Rj_iconst (q := 47) d_M_coming_46 rfl ?_
          refine Rj_ia (q := 48) (v := ν 11 5) aM_11 rfl (by decide) rfl d_M_coming_47 rfl ?_
          refine Rj_iadd (q := 49) d_M_coming_48 rfl ?_
          refine Rj_iload_n (q := 50) d_M_coming_49 rfl rfl rfl ?_
          refine Rj_is (q := 51) aM_11 rfl (by omega) d_M_coming_50 rfl ?_
          refine Rj_aload_n (q := 52) d_M_coming_51 rfl rfl rfl ?_
          refine Rj_gr (q := 55) (zd := 11) gM_M_42_0 rfl rfl d_M_coming_52 rfl ?_
          refine Rj_iconst (q := 56) d_M_coming_55 rfl ?_
          refine Rj_dup2 (q := 57) d_M_coming_56 rfl (by intro h; cases h) (by intro h; cases h) ?_
          refine Rj_ia (q := 58) (v := ν 11 5) aM_11 rfl (by decide) (mset_o (by omega)) d_M_coming_57 rfl ?_
          refine Rj_iconst (q := 59) d_M_coming_58 rfl ?_
          refine Rj_iadd (q := 60) d_M_coming_59 rfl ?_
          refine Rj_is (q := 61) aM_11 rfl (by decide) d_M_coming_60 rfl ?_
          refine Rj_aload_n (q := 62) d_M_coming_61 rfl rfl rfl ?_
          refine Rj_gr (q := 65) (zd := 11) gM_M_42_0 rfl rfl d_M_coming_62 rfl ?_
          refine Rj_iconst (q := 66) d_M_coming_65 rfl ?_
          refine Rj_ia (q := 67) (v := ν 11 5 + 1) aM_11 rfl (by decide) (mset_same _ _ _ _) d_M_coming_66 rfl ?_
          refine Rj_iret d_M_coming_67 rfl ?_
          exfalso; omega
        · refine Rj_bipush (q := 35) d_M_coming_33 rfl (by decide +kernel) ?_
          refine Rj_iret d_M_coming_35 rfl ?_
          exfalso; omega
    · refine Rj_aload_n (q := 6) d_M_coming_5 rfl rfl rfl ?_
      refine Rj_gr (q := 9) (zd := 11) gM_M_42_0 rfl rfl d_M_coming_6 rfl ?_
      refine Rj_iconst (q := 10) d_M_coming_9 rfl ?_
      refine Rj_iconst (q := 11) d_M_coming_10 rfl ?_
      refine Rj_is (q := 12) aM_11 rfl (by decide) d_M_coming_11 rfl ?_
      refine Rj_iconst (q := 13) d_M_coming_12 rfl ?_
      refine Rj_iret d_M_coming_13 rfl ?_
      obtain ⟨w3, w5, w6, w8⟩ := hC.w
      exact ⟨sm_I rfl, hC.told2 (fun c i q1 q2 => mset_o (by omega)) (fun c i q1 q2 => mset_o (by omega)) (fun i q => mset_o (by unfold sti at q; omega)) (w3.keep rfl rfl rfl rfl rfl) ⟨⟨Int.le_refl 0, (show (0 : Int) ≤ 40 by decide)⟩, rfl, fun i i0 i1 => by rw [mset_same] at i1; omega⟩ (w6.keep z0.2 rfl rfl rfl (fun i i0 i1 => mset_o (by omega)) rfl) w8, fun c i q => mset_o (by omega), fun c i q => mset_o (by omega)⟩
