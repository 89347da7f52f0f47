/-! the pair drawn -/
theorem dws_pl {S lo up dn lk pl : Int → Int} {D : List CLS} {N : Int} : ∀ (k : Nat) (x : Int) (σ : DS), σ.1 = pl → (dws S lo up dn lk D pl N k x σ).1 = pl
  | 0, _, _, h => h
  | k + 1, x, σ, _ => dws_pl k (itr N.toNat x) (pl, _) rfl
set_option maxHeartbeats 8000000 in
theorem C_drawn {n : Nat} {μ ν : Mem} {a b c d : Int} (hC : Cor n μ ν) (hn : n ≤ 511) (ha : i32 a) (hb : i32 b) (hc : i32 c) (hd : i32 d) (hR : RULs μ ν) : Rj YD y_D_drawn 0 [vA 0, vI a, vI b, vI c, vI d] [] μ (fun r μ' => Rj YM y_M_drawn 0 [vA 0, vI a, vI b, vI c, vI d] [] ν (fun r' ν' => Sm 1 r' r ∧ Cor (n + 1) μ' ν' ∧ Kp μ μ' ∧ Kq ν ν')) := by
  obtain ⟨hTP, hK, hSc, h, hM, hSB, hBK, hIM⟩ := id hC
  have hC1 := hC.next
  obtain ⟨z0, z1, z2, z3, z4, z5, z6, z7⟩ := h.z
  obtain ⟨hS, hH, hP, hB, hFx⟩ := id hM
  have hD := z0
  have hJ := z1
  have r02 := hR.1
  refine Rj_aload_n (q := 1) d_D_drawn_0 rfl rfl rfl ?_
  refine Rj_iload_n (q := 2) d_D_drawn_1 rfl rfl rfl ?_
  refine Rj_vo (q := 5) (z := y_D_isDayBy) (as := [vI a]) (rest := []) (la := [vA 0, vI a]) oD_0_D_isDayBy ml_D_269 mw_D_isDayBy mv_D_isDayBy rfl d_D_drawn_2 rfl rfl rfl rfl rfl ?_
  refine Rj_aload_n (q := 1) d_D_isDayBy_0 rfl rfl rfl ?_
  refine Rj_gr (q := 4) (zd := 3) gD_D_25_0 rfl rfl d_D_isDayBy_1 rfl ?_
  refine Rj_gi (q := 7) (ki := 0) (v := ν 11 0) gD_D_130_3 rfl rfl z2 d_D_isDayBy_4 rfl ?_
  refine Rj_if_le (q := 10) (t := 29) d_D_isDayBy_7 rfl (by decide) (by first | assumption | exact ⟨by omega, by omega⟩) (fun c2_7 => ?_) (fun c2_7 => ?_)
  · refine Rj_iconst (q := 30) d_D_isDayBy_29 rfl ?_
    refine Rj_bret0 d_D_isDayBy_30 rfl ?_
    refine Rj_if_eq (q := 8) (t := 19) d_D_drawn_5 rfl (by decide) (by decide) (fun _ => ?_) (fun c => absurd c (by decide))
    refine Rj_iconst (q := 20) d_D_drawn_19 rfl ?_
    refine Rj_iret d_D_drawn_20 rfl ?_
    refine Rj_aload_n (q := 1) d_M_drawn_0 rfl rfl rfl ?_
    refine Rj_iload_n (q := 2) d_M_drawn_1 rfl rfl rfl ?_
    refine Rj_vo (q := 5) (z := y_M_canPass) (as := [vI a]) (rest := []) (la := [vA 0, vI a]) oM_0_M_canPass ml_M_489 mw_M_canPass mv_M_canPass rfl d_M_drawn_2 rfl rfl rfl rfl rfl ?_
    refine Rj_aload_n (q := 1) d_M_canPass_0 rfl rfl rfl ?_
    refine Rj_gr (q := 4) (zd := 11) gM_M_42_0 rfl rfl d_M_canPass_1 rfl ?_
    refine Rj_iconst (q := 5) d_M_canPass_4 rfl ?_
    refine Rj_ia (q := 6) (v := ν 11 0) aM_11 rfl (by decide) rfl d_M_canPass_5 rfl ?_
    refine Rj_if_le (q := 9) (t := 21) d_M_canPass_6 rfl (by decide) (by first | assumption | exact ⟨by omega, by omega⟩) (fun c2_6 => ?_) (fun c2_6 => ?_)
    · refine Rj_iconst (q := 22) d_M_canPass_21 rfl ?_
      refine Rj_bret0 d_M_canPass_22 rfl ?_
      refine Rj_if_eq (q := 8) (t := 45) d_M_drawn_5 rfl (by decide) (by decide) (fun _ => ?_) (fun c => absurd c (by decide))
      refine Rj_iconst (q := 46) d_M_drawn_45 rfl ?_
      refine Rj_iret d_M_drawn_46 rfl ?_
      exact ⟨sm_I rfl, hC1, kp0 _, kq0 _⟩
    · refine Rj_aload_n (q := 10) d_M_canPass_9 rfl rfl rfl ?_
      refine Rj_iload_n (q := 11) d_M_canPass_10 rfl rfl rfl ?_
      refine Rj_vo (q := 14) (z := y_M_isRule) (as := [vI a]) (rest := []) (la := [vA 0, vI a]) oM_0_M_isRule ml_M_486 mw_M_isRule mv_M_isRule rfl d_M_canPass_11 rfl rfl rfl rfl rfl ?_
      refine Rj_iload_n (q := 1) d_M_isRule_0 rfl rfl rfl ?_
      refine Rj_if_lt (q := 4) (t := 16) d_M_isRule_1 rfl (by decide) (by first | assumption | exact ⟨by omega, by omega⟩) (fun c2_11_1 => ?_) (fun c2_11_1 => ?_)
      · refine Rj_iconst (q := 17) d_M_isRule_16 rfl ?_
        refine Rj_bret0 d_M_isRule_17 rfl ?_
        refine Rj_if_eq (q := 17) (t := 21) d_M_canPass_14 rfl (by decide) (by decide) (fun _ => ?_) (fun c => absurd c (by decide))
        refine Rj_iconst (q := 22) d_M_canPass_21 rfl ?_
        refine Rj_bret0 d_M_canPass_22 rfl ?_
        refine Rj_if_eq (q := 8) (t := 45) d_M_drawn_5 rfl (by decide) (by decide) (fun _ => ?_) (fun c => absurd c (by decide))
        refine Rj_iconst (q := 46) d_M_drawn_45 rfl ?_
        refine Rj_iret d_M_drawn_46 rfl ?_
        exact ⟨sm_I rfl, hC1, kp0 _, kq0 _⟩
      · refine Rj_iload_n (q := 5) d_M_isRule_4 rfl rfl rfl ?_
        refine Rj_aload_n (q := 6) d_M_isRule_5 rfl rfl rfl ?_
        refine Rj_gi (q := 9) (ki := 2) (v := ν 0 2) gM_M_273_0 rfl rfl rfl d_M_isRule_6 rfl ?_
        refine Rj_icmp_ge (q := 12) (t := 16) d_M_isRule_9 rfl (by decide) (by first | assumption | exact ⟨by omega, by omega⟩) (by first | assumption | exact ⟨by omega, by omega⟩) (fun c2_11_9 => ?_) (fun c2_11_9 => ?_)
        · refine Rj_iconst (q := 17) d_M_isRule_16 rfl ?_
          refine Rj_bret0 d_M_isRule_17 rfl ?_
          refine Rj_if_eq (q := 17) (t := 21) d_M_canPass_14 rfl (by decide) (by decide) (fun _ => ?_) (fun c => absurd c (by decide))
          refine Rj_iconst (q := 22) d_M_canPass_21 rfl ?_
          refine Rj_bret0 d_M_canPass_22 rfl ?_
          refine Rj_if_eq (q := 8) (t := 45) d_M_drawn_5 rfl (by decide) (by decide) (fun _ => ?_) (fun c => absurd c (by decide))
          refine Rj_iconst (q := 46) d_M_drawn_45 rfl ?_
          refine Rj_iret d_M_drawn_46 rfl ?_
          exact ⟨sm_I rfl, hC1, kp0 _, kq0 _⟩
        · refine Rj_iconst (q := 13) d_M_isRule_12 rfl ?_
          refine Rj_goto (t := 17) d_M_isRule_13 (by decide) ?_
          refine Rj_bret1 d_M_isRule_17 rfl ?_
          refine Rj_if_eq (q := 17) (t := 21) d_M_canPass_14 rfl (by decide) (by decide) (fun c => absurd c (by decide)) (fun _ => ?_)
          refine Rj_iconst (q := 18) d_M_canPass_17 rfl ?_
          refine Rj_goto (t := 22) d_M_canPass_18 (by decide) ?_
          refine Rj_bret1 d_M_canPass_22 rfl ?_
          refine Rj_if_eq (q := 8) (t := 45) d_M_drawn_5 rfl (by decide) (by decide) (fun c => absurd c (by decide)) (fun _ => ?_)
          refine Rj_iload_n (q := 9) d_M_drawn_8 rfl rfl rfl ?_
          refine Rj_i2l (q := 10) d_M_drawn_9 rfl (by first | assumption | exact ⟨by omega, by omega⟩) ?_
          refine Rj_lconst (q := 11) (z := 1) d_M_drawn_10 rfl rfl ?_
          refine Rj_ldc2 (q := 14) k_M_503 d_M_drawn_11 rfl ?_
          refine Rj_cs (q := 17) (z := y_M_in) (as := [vL b, vL 1, vL 20]) (rest := []) (la := [vL b, vU, vL 1, vU, vL 20, vU]) ml_M_138 mw_M_in ms_M_in d_M_drawn_14 rfl rfl rfl rfl rfl ?_
          refine s_M_in ⟨by omega, by omega⟩ (by decide) (by decide) ?_
          refine Rj_b_eq (q := 20) (t := 45) d_M_drawn_17 rfl (by decide) (fun c17 => ?_) (fun c17 => ?_)
          · have c17 := of_decide_eq_false c17
            refine Rj_iconst (q := 46) d_M_drawn_45 rfl ?_
            refine Rj_iret d_M_drawn_46 rfl ?_
            exact ⟨sm_I rfl, hC1, kp0 _, kq0 _⟩
          · have c17 := of_decide_eq_true c17
            refine Rj_iload_n (q := 21) d_M_drawn_20 rfl rfl rfl ?_
            refine Rj_i2l (q := 22) d_M_drawn_21 rfl (by first | assumption | exact ⟨by omega, by omega⟩) ?_
            refine Rj_lconst (q := 23) (z := 1) d_M_drawn_22 rfl rfl ?_
            refine Rj_ldc2 (q := 26) k_M_374 d_M_drawn_23 rfl ?_
            refine Rj_cs (q := 29) (z := y_M_in) (as := [vL c, vL 1, vL 60]) (rest := []) (la := [vL c, vU, vL 1, vU, vL 60, vU]) ml_M_138 mw_M_in ms_M_in d_M_drawn_26 rfl rfl rfl rfl rfl ?_
            refine s_M_in ⟨by omega, by omega⟩ (by decide) (by decide) ?_
            refine Rj_b_eq (q := 32) (t := 45) d_M_drawn_29 rfl (by decide) (fun c29 => ?_) (fun c29 => ?_)
            · have c29 := of_decide_eq_false c29
              refine Rj_iconst (q := 46) d_M_drawn_45 rfl ?_
              refine Rj_iret d_M_drawn_46 rfl ?_
              exact ⟨sm_I rfl, hC1, kp0 _, kq0 _⟩
            · have c29 := of_decide_eq_true c29
              refine Rj_iload (q := 34) d_M_drawn_32 rfl rfl ?_
              refine Rj_i2l (q := 35) d_M_drawn_34 rfl (by first | assumption | exact ⟨by omega, by omega⟩) ?_
              refine Rj_lconst (q := 36) (z := 0) d_M_drawn_35 rfl rfl ?_
              refine Rj_ldc2 (q := 39) k_M_341 d_M_drawn_36 rfl ?_
              refine Rj_cs (q := 42) (z := y_M_in) (as := [vL d, vL 0, vL 2]) (rest := []) (la := [vL d, vU, vL 0, vU, vL 2, vU]) ml_M_138 mw_M_in ms_M_in d_M_drawn_39 rfl rfl rfl rfl rfl ?_
              refine s_M_in ⟨by omega, by omega⟩ (by decide) (by decide) ?_
              refine Rj_b_ne (q := 45) (t := 47) d_M_drawn_42 rfl (by decide) (fun c42 => ?_) (fun c42 => ?_)
              · have c42 := of_decide_eq_true c42
                refine Rj_aload_n (q := 48) d_M_drawn_47 rfl rfl rfl ?_
                refine Rj_vov (q := 51) (z := y_M_keeps) (as := []) (rest := []) (la := [vA 0]) oM_0_M_keeps ml_M_497 mw_M_keeps mv_M_keeps rfl d_M_drawn_48 rfl rfl rfl rfl rfl ?_
                exfalso; omega
              · have c42 := of_decide_eq_false c42
                refine Rj_iconst (q := 46) d_M_drawn_45 rfl ?_
                refine Rj_iret d_M_drawn_46 rfl ?_
                exact ⟨sm_I rfl, hC1, kp0 _, kq0 _⟩
  · refine Rj_iload_n (q := 11) d_D_isDayBy_10 rfl rfl rfl ?_
    refine Rj_if_lt (q := 14) (t := 29) d_D_isDayBy_11 rfl (by decide) (by first | assumption | exact ⟨by omega, by omega⟩) (fun c2_11 => ?_) (fun c2_11 => ?_)
    · refine Rj_iconst (q := 30) d_D_isDayBy_29 rfl ?_
      refine Rj_bret0 d_D_isDayBy_30 rfl ?_
      refine Rj_if_eq (q := 8) (t := 19) d_D_drawn_5 rfl (by decide) (by decide) (fun _ => ?_) (fun c => absurd c (by decide))
      refine Rj_iconst (q := 20) d_D_drawn_19 rfl ?_
      refine Rj_iret d_D_drawn_20 rfl ?_
      refine Rj_aload_n (q := 1) d_M_drawn_0 rfl rfl rfl ?_
      refine Rj_iload_n (q := 2) d_M_drawn_1 rfl rfl rfl ?_
      refine Rj_vo (q := 5) (z := y_M_canPass) (as := [vI a]) (rest := []) (la := [vA 0, vI a]) oM_0_M_canPass ml_M_489 mw_M_canPass mv_M_canPass rfl d_M_drawn_2 rfl rfl rfl rfl rfl ?_
      refine Rj_aload_n (q := 1) d_M_canPass_0 rfl rfl rfl ?_
      refine Rj_gr (q := 4) (zd := 11) gM_M_42_0 rfl rfl d_M_canPass_1 rfl ?_
      refine Rj_iconst (q := 5) d_M_canPass_4 rfl ?_
      refine Rj_ia (q := 6) (v := ν 11 0) aM_11 rfl (by decide) rfl d_M_canPass_5 rfl ?_
      refine Rj_if_le (q := 9) (t := 21) d_M_canPass_6 rfl (by decide) (by first | assumption | exact ⟨by omega, by omega⟩) (fun c2_6 => ?_) (fun c2_6 => ?_)
      · refine Rj_iconst (q := 22) d_M_canPass_21 rfl ?_
        refine Rj_bret0 d_M_canPass_22 rfl ?_
        refine Rj_if_eq (q := 8) (t := 45) d_M_drawn_5 rfl (by decide) (by decide) (fun _ => ?_) (fun c => absurd c (by decide))
        refine Rj_iconst (q := 46) d_M_drawn_45 rfl ?_
        refine Rj_iret d_M_drawn_46 rfl ?_
        exact ⟨sm_I rfl, hC1, kp0 _, kq0 _⟩
      · refine Rj_aload_n (q := 10) d_M_canPass_9 rfl rfl rfl ?_
        refine Rj_iload_n (q := 11) d_M_canPass_10 rfl rfl rfl ?_
        refine Rj_vo (q := 14) (z := y_M_isRule) (as := [vI a]) (rest := []) (la := [vA 0, vI a]) oM_0_M_isRule ml_M_486 mw_M_isRule mv_M_isRule rfl d_M_canPass_11 rfl rfl rfl rfl rfl ?_
        refine Rj_iload_n (q := 1) d_M_isRule_0 rfl rfl rfl ?_
        refine Rj_if_lt (q := 4) (t := 16) d_M_isRule_1 rfl (by decide) (by first | assumption | exact ⟨by omega, by omega⟩) (fun c2_11_1 => ?_) (fun c2_11_1 => ?_)
        · refine Rj_iconst (q := 17) d_M_isRule_16 rfl ?_
          refine Rj_bret0 d_M_isRule_17 rfl ?_
          refine Rj_if_eq (q := 17) (t := 21) d_M_canPass_14 rfl (by decide) (by decide) (fun _ => ?_) (fun c => absurd c (by decide))
          refine Rj_iconst (q := 22) d_M_canPass_21 rfl ?_
          refine Rj_bret0 d_M_canPass_22 rfl ?_
          refine Rj_if_eq (q := 8) (t := 45) d_M_drawn_5 rfl (by decide) (by decide) (fun _ => ?_) (fun c => absurd c (by decide))
          refine Rj_iconst (q := 46) d_M_drawn_45 rfl ?_
          refine Rj_iret d_M_drawn_46 rfl ?_
          exact ⟨sm_I rfl, hC1, kp0 _, kq0 _⟩
        · refine Rj_iload_n (q := 5) d_M_isRule_4 rfl rfl rfl ?_
          refine Rj_aload_n (q := 6) d_M_isRule_5 rfl rfl rfl ?_
          refine Rj_gi (q := 9) (ki := 2) (v := ν 0 2) gM_M_273_0 rfl rfl rfl d_M_isRule_6 rfl ?_
          refine Rj_icmp_ge (q := 12) (t := 16) d_M_isRule_9 rfl (by decide) (by first | assumption | exact ⟨by omega, by omega⟩) (by first | assumption | exact ⟨by omega, by omega⟩) (fun c2_11_9 => ?_) (fun c2_11_9 => ?_)
          · refine Rj_iconst (q := 17) d_M_isRule_16 rfl ?_
            refine Rj_bret0 d_M_isRule_17 rfl ?_
            refine Rj_if_eq (q := 17) (t := 21) d_M_canPass_14 rfl (by decide) (by decide) (fun _ => ?_) (fun c => absurd c (by decide))
            refine Rj_iconst (q := 22) d_M_canPass_21 rfl ?_
            refine Rj_bret0 d_M_canPass_22 rfl ?_
            refine Rj_if_eq (q := 8) (t := 45) d_M_drawn_5 rfl (by decide) (by decide) (fun _ => ?_) (fun c => absurd c (by decide))
            refine Rj_iconst (q := 46) d_M_drawn_45 rfl ?_
            refine Rj_iret d_M_drawn_46 rfl ?_
            exact ⟨sm_I rfl, hC1, kp0 _, kq0 _⟩
          · refine Rj_iconst (q := 13) d_M_isRule_12 rfl ?_
            refine Rj_goto (t := 17) d_M_isRule_13 (by decide) ?_
            refine Rj_bret1 d_M_isRule_17 rfl ?_
            refine Rj_if_eq (q := 17) (t := 21) d_M_canPass_14 rfl (by decide) (by decide) (fun c => absurd c (by decide)) (fun _ => ?_)
            refine Rj_iconst (q := 18) d_M_canPass_17 rfl ?_
            refine Rj_goto (t := 22) d_M_canPass_18 (by decide) ?_
            refine Rj_bret1 d_M_canPass_22 rfl ?_
            refine Rj_if_eq (q := 8) (t := 45) d_M_drawn_5 rfl (by decide) (by decide) (fun c => absurd c (by decide)) (fun _ => ?_)
            refine Rj_iload_n (q := 9) d_M_drawn_8 rfl rfl rfl ?_
            refine Rj_i2l (q := 10) d_M_drawn_9 rfl (by first | assumption | exact ⟨by omega, by omega⟩) ?_
            refine Rj_lconst (q := 11) (z := 1) d_M_drawn_10 rfl rfl ?_
            refine Rj_ldc2 (q := 14) k_M_503 d_M_drawn_11 rfl ?_
            refine Rj_cs (q := 17) (z := y_M_in) (as := [vL b, vL 1, vL 20]) (rest := []) (la := [vL b, vU, vL 1, vU, vL 20, vU]) ml_M_138 mw_M_in ms_M_in d_M_drawn_14 rfl rfl rfl rfl rfl ?_
            refine s_M_in ⟨by omega, by omega⟩ (by decide) (by decide) ?_
            refine Rj_b_eq (q := 20) (t := 45) d_M_drawn_17 rfl (by decide) (fun c17 => ?_) (fun c17 => ?_)
            · have c17 := of_decide_eq_false c17
              refine Rj_iconst (q := 46) d_M_drawn_45 rfl ?_
              refine Rj_iret d_M_drawn_46 rfl ?_
              exact ⟨sm_I rfl, hC1, kp0 _, kq0 _⟩
            · have c17 := of_decide_eq_true c17
              refine Rj_iload_n (q := 21) d_M_drawn_20 rfl rfl rfl ?_
              refine Rj_i2l (q := 22) d_M_drawn_21 rfl (by first | assumption | exact ⟨by omega, by omega⟩) ?_
              refine Rj_lconst (q := 23) (z := 1) d_M_drawn_22 rfl rfl ?_
              refine Rj_ldc2 (q := 26) k_M_374 d_M_drawn_23 rfl ?_
              refine Rj_cs (q := 29) (z := y_M_in) (as := [vL c, vL 1, vL 60]) (rest := []) (la := [vL c, vU, vL 1, vU, vL 60, vU]) ml_M_138 mw_M_in ms_M_in d_M_drawn_26 rfl rfl rfl rfl rfl ?_
              refine s_M_in ⟨by omega, by omega⟩ (by decide) (by decide) ?_
              refine Rj_b_eq (q := 32) (t := 45) d_M_drawn_29 rfl (by decide) (fun c29 => ?_) (fun c29 => ?_)
              · have c29 := of_decide_eq_false c29
                refine Rj_iconst (q := 46) d_M_drawn_45 rfl ?_
                refine Rj_iret d_M_drawn_46 rfl ?_
                exact ⟨sm_I rfl, hC1, kp0 _, kq0 _⟩
              · have c29 := of_decide_eq_true c29
                refine Rj_iload (q := 34) d_M_drawn_32 rfl rfl ?_
                refine Rj_i2l (q := 35) d_M_drawn_34 rfl (by first | assumption | exact ⟨by omega, by omega⟩) ?_
                refine Rj_lconst (q := 36) (z := 0) d_M_drawn_35 rfl rfl ?_
                refine Rj_ldc2 (q := 39) k_M_341 d_M_drawn_36 rfl ?_
                refine Rj_cs (q := 42) (z := y_M_in) (as := [vL d, vL 0, vL 2]) (rest := []) (la := [vL d, vU, vL 0, vU, vL 2, vU]) ml_M_138 mw_M_in ms_M_in d_M_drawn_39 rfl rfl rfl rfl rfl ?_
                refine s_M_in ⟨by omega, by omega⟩ (by decide) (by decide) ?_
                refine Rj_b_ne (q := 45) (t := 47) d_M_drawn_42 rfl (by decide) (fun c42 => ?_) (fun c42 => ?_)
                · have c42 := of_decide_eq_true c42
                  refine Rj_aload_n (q := 48) d_M_drawn_47 rfl rfl rfl ?_
                  refine Rj_vov (q := 51) (z := y_M_keeps) (as := []) (rest := []) (la := [vA 0]) oM_0_M_keeps ml_M_497 mw_M_keeps mv_M_keeps rfl d_M_drawn_48 rfl rfl rfl rfl rfl ?_
                  exfalso; omega
                · have c42 := of_decide_eq_false c42
                  refine Rj_iconst (q := 46) d_M_drawn_45 rfl ?_
                  refine Rj_iret d_M_drawn_46 rfl ?_
                  exact ⟨sm_I rfl, hC1, kp0 _, kq0 _⟩
    · refine Rj_iload_n (q := 15) d_D_isDayBy_14 rfl rfl rfl ?_
      refine Rj_aload_n (q := 16) d_D_isDayBy_15 rfl rfl rfl ?_
      refine Rj_gr (q := 19) (zd := 79) gD_D_70_0 rfl rfl d_D_isDayBy_16 rfl ?_
      refine Rj_gi (q := 22) (ki := 1) (v := ν 0 2) gD_D_133_79 rfl rfl hR.2.1 d_D_isDayBy_19 rfl ?_
      refine Rj_icmp_ge (q := 25) (t := 29) d_D_isDayBy_22 rfl (by decide) (by first | assumption | exact ⟨by omega, by omega⟩) (by first | assumption | exact ⟨by omega, by omega⟩) (fun c2_22 => ?_) (fun c2_22 => ?_)
      · refine Rj_iconst (q := 30) d_D_isDayBy_29 rfl ?_
        refine Rj_bret0 d_D_isDayBy_30 rfl ?_
        refine Rj_if_eq (q := 8) (t := 19) d_D_drawn_5 rfl (by decide) (by decide) (fun _ => ?_) (fun c => absurd c (by decide))
        refine Rj_iconst (q := 20) d_D_drawn_19 rfl ?_
        refine Rj_iret d_D_drawn_20 rfl ?_
        refine Rj_aload_n (q := 1) d_M_drawn_0 rfl rfl rfl ?_
        refine Rj_iload_n (q := 2) d_M_drawn_1 rfl rfl rfl ?_
        refine Rj_vo (q := 5) (z := y_M_canPass) (as := [vI a]) (rest := []) (la := [vA 0, vI a]) oM_0_M_canPass ml_M_489 mw_M_canPass mv_M_canPass rfl d_M_drawn_2 rfl rfl rfl rfl rfl ?_
        refine Rj_aload_n (q := 1) d_M_canPass_0 rfl rfl rfl ?_
        refine Rj_gr (q := 4) (zd := 11) gM_M_42_0 rfl rfl d_M_canPass_1 rfl ?_
        refine Rj_iconst (q := 5) d_M_canPass_4 rfl ?_
        refine Rj_ia (q := 6) (v := ν 11 0) aM_11 rfl (by decide) rfl d_M_canPass_5 rfl ?_
        refine Rj_if_le (q := 9) (t := 21) d_M_canPass_6 rfl (by decide) (by first | assumption | exact ⟨by omega, by omega⟩) (fun c2_6 => ?_) (fun c2_6 => ?_)
        · refine Rj_iconst (q := 22) d_M_canPass_21 rfl ?_
          refine Rj_bret0 d_M_canPass_22 rfl ?_
          refine Rj_if_eq (q := 8) (t := 45) d_M_drawn_5 rfl (by decide) (by decide) (fun _ => ?_) (fun c => absurd c (by decide))
          refine Rj_iconst (q := 46) d_M_drawn_45 rfl ?_
          refine Rj_iret d_M_drawn_46 rfl ?_
          exact ⟨sm_I rfl, hC1, kp0 _, kq0 _⟩
        · refine Rj_aload_n (q := 10) d_M_canPass_9 rfl rfl rfl ?_
          refine Rj_iload_n (q := 11) d_M_canPass_10 rfl rfl rfl ?_
          refine Rj_vo (q := 14) (z := y_M_isRule) (as := [vI a]) (rest := []) (la := [vA 0, vI a]) oM_0_M_isRule ml_M_486 mw_M_isRule mv_M_isRule rfl d_M_canPass_11 rfl rfl rfl rfl rfl ?_
          refine Rj_iload_n (q := 1) d_M_isRule_0 rfl rfl rfl ?_
          refine Rj_if_lt (q := 4) (t := 16) d_M_isRule_1 rfl (by decide) (by first | assumption | exact ⟨by omega, by omega⟩) (fun c2_11_1 => ?_) (fun c2_11_1 => ?_)
          · refine Rj_iconst (q := 17) d_M_isRule_16 rfl ?_
            refine Rj_bret0 d_M_isRule_17 rfl ?_
            refine Rj_if_eq (q := 17) (t := 21) d_M_canPass_14 rfl (by decide) (by decide) (fun _ => ?_) (fun c => absurd c (by decide))
            refine Rj_iconst (q := 22) d_M_canPass_21 rfl ?_
            refine Rj_bret0 d_M_canPass_22 rfl ?_
            refine Rj_if_eq (q := 8) (t := 45) d_M_drawn_5 rfl (by decide) (by decide) (fun _ => ?_) (fun c => absurd c (by decide))
            refine Rj_iconst (q := 46) d_M_drawn_45 rfl ?_
            refine Rj_iret d_M_drawn_46 rfl ?_
            exact ⟨sm_I rfl, hC1, kp0 _, kq0 _⟩
          · refine Rj_iload_n (q := 5) d_M_isRule_4 rfl rfl rfl ?_
            refine Rj_aload_n (q := 6) d_M_isRule_5 rfl rfl rfl ?_
            refine Rj_gi (q := 9) (ki := 2) (v := ν 0 2) gM_M_273_0 rfl rfl rfl d_M_isRule_6 rfl ?_
            refine Rj_icmp_ge (q := 12) (t := 16) d_M_isRule_9 rfl (by decide) (by first | assumption | exact ⟨by omega, by omega⟩) (by first | assumption | exact ⟨by omega, by omega⟩) (fun c2_11_9 => ?_) (fun c2_11_9 => ?_)
            · refine Rj_iconst (q := 17) d_M_isRule_16 rfl ?_
              refine Rj_bret0 d_M_isRule_17 rfl ?_
              refine Rj_if_eq (q := 17) (t := 21) d_M_canPass_14 rfl (by decide) (by decide) (fun _ => ?_) (fun c => absurd c (by decide))
              refine Rj_iconst (q := 22) d_M_canPass_21 rfl ?_
              refine Rj_bret0 d_M_canPass_22 rfl ?_
              refine Rj_if_eq (q := 8) (t := 45) d_M_drawn_5 rfl (by decide) (by decide) (fun _ => ?_) (fun c => absurd c (by decide))
              refine Rj_iconst (q := 46) d_M_drawn_45 rfl ?_
              refine Rj_iret d_M_drawn_46 rfl ?_
              exact ⟨sm_I rfl, hC1, kp0 _, kq0 _⟩
            · refine Rj_iconst (q := 13) d_M_isRule_12 rfl ?_
              refine Rj_goto (t := 17) d_M_isRule_13 (by decide) ?_
              refine Rj_bret1 d_M_isRule_17 rfl ?_
              refine Rj_if_eq (q := 17) (t := 21) d_M_canPass_14 rfl (by decide) (by decide) (fun c => absurd c (by decide)) (fun _ => ?_)
              refine Rj_iconst (q := 18) d_M_canPass_17 rfl ?_
              refine Rj_goto (t := 22) d_M_canPass_18 (by decide) ?_
              refine Rj_bret1 d_M_canPass_22 rfl ?_
              refine Rj_if_eq (q := 8) (t := 45) d_M_drawn_5 rfl (by decide) (by decide) (fun c => absurd c (by decide)) (fun _ => ?_)
              refine Rj_iload_n (q := 9) d_M_drawn_8 rfl rfl rfl ?_
              refine Rj_i2l (q := 10) d_M_drawn_9 rfl (by first | assumption | exact ⟨by omega, by omega⟩) ?_
              refine Rj_lconst (q := 11) (z := 1) d_M_drawn_10 rfl rfl ?_
              refine Rj_ldc2 (q := 14) k_M_503 d_M_drawn_11 rfl ?_
              refine Rj_cs (q := 17) (z := y_M_in) (as := [vL b, vL 1, vL 20]) (rest := []) (la := [vL b, vU, vL 1, vU, vL 20, vU]) ml_M_138 mw_M_in ms_M_in d_M_drawn_14 rfl rfl rfl rfl rfl ?_
              refine s_M_in ⟨by omega, by omega⟩ (by decide) (by decide) ?_
              refine Rj_b_eq (q := 20) (t := 45) d_M_drawn_17 rfl (by decide) (fun c17 => ?_) (fun c17 => ?_)
              · have c17 := of_decide_eq_false c17
                refine Rj_iconst (q := 46) d_M_drawn_45 rfl ?_
                refine Rj_iret d_M_drawn_46 rfl ?_
                exact ⟨sm_I rfl, hC1, kp0 _, kq0 _⟩
              · have c17 := of_decide_eq_true c17
                refine Rj_iload_n (q := 21) d_M_drawn_20 rfl rfl rfl ?_
                refine Rj_i2l (q := 22) d_M_drawn_21 rfl (by first | assumption | exact ⟨by omega, by omega⟩) ?_
                refine Rj_lconst (q := 23) (z := 1) d_M_drawn_22 rfl rfl ?_
                refine Rj_ldc2 (q := 26) k_M_374 d_M_drawn_23 rfl ?_
                refine Rj_cs (q := 29) (z := y_M_in) (as := [vL c, vL 1, vL 60]) (rest := []) (la := [vL c, vU, vL 1, vU, vL 60, vU]) ml_M_138 mw_M_in ms_M_in d_M_drawn_26 rfl rfl rfl rfl rfl ?_
                refine s_M_in ⟨by omega, by omega⟩ (by decide) (by decide) ?_
                refine Rj_b_eq (q := 32) (t := 45) d_M_drawn_29 rfl (by decide) (fun c29 => ?_) (fun c29 => ?_)
                · have c29 := of_decide_eq_false c29
                  refine Rj_iconst (q := 46) d_M_drawn_45 rfl ?_
                  refine Rj_iret d_M_drawn_46 rfl ?_
                  exact ⟨sm_I rfl, hC1, kp0 _, kq0 _⟩
                · have c29 := of_decide_eq_true c29
                  refine Rj_iload (q := 34) d_M_drawn_32 rfl rfl ?_
                  refine Rj_i2l (q := 35) d_M_drawn_34 rfl (by first | assumption | exact ⟨by omega, by omega⟩) ?_
                  refine Rj_lconst (q := 36) (z := 0) d_M_drawn_35 rfl rfl ?_
                  refine Rj_ldc2 (q := 39) k_M_341 d_M_drawn_36 rfl ?_
                  refine Rj_cs (q := 42) (z := y_M_in) (as := [vL d, vL 0, vL 2]) (rest := []) (la := [vL d, vU, vL 0, vU, vL 2, vU]) ml_M_138 mw_M_in ms_M_in d_M_drawn_39 rfl rfl rfl rfl rfl ?_
                  refine s_M_in ⟨by omega, by omega⟩ (by decide) (by decide) ?_
                  refine Rj_b_ne (q := 45) (t := 47) d_M_drawn_42 rfl (by decide) (fun c42 => ?_) (fun c42 => ?_)
                  · have c42 := of_decide_eq_true c42
                    refine Rj_aload_n (q := 48) d_M_drawn_47 rfl rfl rfl ?_
                    refine Rj_vov (q := 51) (z := y_M_keeps) (as := []) (rest := []) (la := [vA 0]) oM_0_M_keeps ml_M_497 mw_M_keeps mv_M_keeps rfl d_M_drawn_48 rfl rfl rfl rfl rfl ?_
                    exfalso; omega
                  · have c42 := of_decide_eq_false c42
                    refine Rj_iconst (q := 46) d_M_drawn_45 rfl ?_
                    refine Rj_iret d_M_drawn_46 rfl ?_
                    exact ⟨sm_I rfl, hC1, kp0 _, kq0 _⟩
      · refine Rj_iconst (q := 26) d_D_isDayBy_25 rfl ?_
        refine Rj_goto (t := 30) d_D_isDayBy_26 (by decide) ?_
        refine Rj_bret1 d_D_isDayBy_30 rfl ?_
        refine Rj_if_eq (q := 8) (t := 19) d_D_drawn_5 rfl (by decide) (by decide) (fun c => absurd c (by decide)) (fun _ => ?_)
        refine Rj_iload_n (q := 9) d_D_drawn_8 rfl rfl rfl ?_
        refine Rj_iconst (q := 10) d_D_drawn_9 rfl ?_
        refine Rj_icmp_lt (q := 13) (t := 19) d_D_drawn_10 rfl (by decide) (by first | assumption | exact ⟨by omega, by omega⟩) (by decide) (fun c10 => ?_) (fun c10 => ?_)
        · refine Rj_iconst (q := 20) d_D_drawn_19 rfl ?_
          refine Rj_iret d_D_drawn_20 rfl ?_
          refine Rj_aload_n (q := 1) d_M_drawn_0 rfl rfl rfl ?_
          refine Rj_iload_n (q := 2) d_M_drawn_1 rfl rfl rfl ?_
          refine Rj_vo (q := 5) (z := y_M_canPass) (as := [vI a]) (rest := []) (la := [vA 0, vI a]) oM_0_M_canPass ml_M_489 mw_M_canPass mv_M_canPass rfl d_M_drawn_2 rfl rfl rfl rfl rfl ?_
          refine Rj_aload_n (q := 1) d_M_canPass_0 rfl rfl rfl ?_
          refine Rj_gr (q := 4) (zd := 11) gM_M_42_0 rfl rfl d_M_canPass_1 rfl ?_
          refine Rj_iconst (q := 5) d_M_canPass_4 rfl ?_
          refine Rj_ia (q := 6) (v := ν 11 0) aM_11 rfl (by decide) rfl d_M_canPass_5 rfl ?_
          refine Rj_if_le (q := 9) (t := 21) d_M_canPass_6 rfl (by decide) (by first | assumption | exact ⟨by omega, by omega⟩) (fun c2_6 => ?_) (fun c2_6 => ?_)
          · refine Rj_iconst (q := 22) d_M_canPass_21 rfl ?_
            refine Rj_bret0 d_M_canPass_22 rfl ?_
            refine Rj_if_eq (q := 8) (t := 45) d_M_drawn_5 rfl (by decide) (by decide) (fun _ => ?_) (fun c => absurd c (by decide))
            refine Rj_iconst (q := 46) d_M_drawn_45 rfl ?_
            refine Rj_iret d_M_drawn_46 rfl ?_
            exact ⟨sm_I rfl, hC1, kp0 _, kq0 _⟩
          · refine Rj_aload_n (q := 10) d_M_canPass_9 rfl rfl rfl ?_
            refine Rj_iload_n (q := 11) d_M_canPass_10 rfl rfl rfl ?_
            refine Rj_vo (q := 14) (z := y_M_isRule) (as := [vI a]) (rest := []) (la := [vA 0, vI a]) oM_0_M_isRule ml_M_486 mw_M_isRule mv_M_isRule rfl d_M_canPass_11 rfl rfl rfl rfl rfl ?_
            refine Rj_iload_n (q := 1) d_M_isRule_0 rfl rfl rfl ?_
            refine Rj_if_lt (q := 4) (t := 16) d_M_isRule_1 rfl (by decide) (by first | assumption | exact ⟨by omega, by omega⟩) (fun c2_11_1 => ?_) (fun c2_11_1 => ?_)
            · refine Rj_iconst (q := 17) d_M_isRule_16 rfl ?_
              refine Rj_bret0 d_M_isRule_17 rfl ?_
              refine Rj_if_eq (q := 17) (t := 21) d_M_canPass_14 rfl (by decide) (by decide) (fun _ => ?_) (fun c => absurd c (by decide))
              refine Rj_iconst (q := 22) d_M_canPass_21 rfl ?_
              refine Rj_bret0 d_M_canPass_22 rfl ?_
              refine Rj_if_eq (q := 8) (t := 45) d_M_drawn_5 rfl (by decide) (by decide) (fun _ => ?_) (fun c => absurd c (by decide))
              refine Rj_iconst (q := 46) d_M_drawn_45 rfl ?_
              refine Rj_iret d_M_drawn_46 rfl ?_
              exact ⟨sm_I rfl, hC1, kp0 _, kq0 _⟩
            · refine Rj_iload_n (q := 5) d_M_isRule_4 rfl rfl rfl ?_
              refine Rj_aload_n (q := 6) d_M_isRule_5 rfl rfl rfl ?_
              refine Rj_gi (q := 9) (ki := 2) (v := ν 0 2) gM_M_273_0 rfl rfl rfl d_M_isRule_6 rfl ?_
              refine Rj_icmp_ge (q := 12) (t := 16) d_M_isRule_9 rfl (by decide) (by first | assumption | exact ⟨by omega, by omega⟩) (by first | assumption | exact ⟨by omega, by omega⟩) (fun c2_11_9 => ?_) (fun c2_11_9 => ?_)
              · refine Rj_iconst (q := 17) d_M_isRule_16 rfl ?_
                refine Rj_bret0 d_M_isRule_17 rfl ?_
                refine Rj_if_eq (q := 17) (t := 21) d_M_canPass_14 rfl (by decide) (by decide) (fun _ => ?_) (fun c => absurd c (by decide))
                refine Rj_iconst (q := 22) d_M_canPass_21 rfl ?_
                refine Rj_bret0 d_M_canPass_22 rfl ?_
                refine Rj_if_eq (q := 8) (t := 45) d_M_drawn_5 rfl (by decide) (by decide) (fun _ => ?_) (fun c => absurd c (by decide))
                refine Rj_iconst (q := 46) d_M_drawn_45 rfl ?_
                refine Rj_iret d_M_drawn_46 rfl ?_
                exact ⟨sm_I rfl, hC1, kp0 _, kq0 _⟩
              · refine Rj_iconst (q := 13) d_M_isRule_12 rfl ?_
                refine Rj_goto (t := 17) d_M_isRule_13 (by decide) ?_
                refine Rj_bret1 d_M_isRule_17 rfl ?_
                refine Rj_if_eq (q := 17) (t := 21) d_M_canPass_14 rfl (by decide) (by decide) (fun c => absurd c (by decide)) (fun _ => ?_)
                refine Rj_iconst (q := 18) d_M_canPass_17 rfl ?_
                refine Rj_goto (t := 22) d_M_canPass_18 (by decide) ?_
                refine Rj_bret1 d_M_canPass_22 rfl ?_
                refine Rj_if_eq (q := 8) (t := 45) d_M_drawn_5 rfl (by decide) (by decide) (fun c => absurd c (by decide)) (fun _ => ?_)
                refine Rj_iload_n (q := 9) d_M_drawn_8 rfl rfl rfl ?_
                refine Rj_i2l (q := 10) d_M_drawn_9 rfl (by first | assumption | exact ⟨by omega, by omega⟩) ?_
                refine Rj_lconst (q := 11) (z := 1) d_M_drawn_10 rfl rfl ?_
                refine Rj_ldc2 (q := 14) k_M_503 d_M_drawn_11 rfl ?_
                refine Rj_cs (q := 17) (z := y_M_in) (as := [vL b, vL 1, vL 20]) (rest := []) (la := [vL b, vU, vL 1, vU, vL 20, vU]) ml_M_138 mw_M_in ms_M_in d_M_drawn_14 rfl rfl rfl rfl rfl ?_
                refine s_M_in ⟨by omega, by omega⟩ (by decide) (by decide) ?_
                refine Rj_b_eq (q := 20) (t := 45) d_M_drawn_17 rfl (by decide) (fun c17 => ?_) (fun c17 => ?_)
                · have c17 := of_decide_eq_false c17
                  refine Rj_iconst (q := 46) d_M_drawn_45 rfl ?_
                  refine Rj_iret d_M_drawn_46 rfl ?_
                  exact ⟨sm_I rfl, hC1, kp0 _, kq0 _⟩
                · have c17 := of_decide_eq_true c17
                  refine Rj_iload_n (q := 21) d_M_drawn_20 rfl rfl rfl ?_
                  refine Rj_i2l (q := 22) d_M_drawn_21 rfl (by first | assumption | exact ⟨by omega, by omega⟩) ?_
                  refine Rj_lconst (q := 23) (z := 1) d_M_drawn_22 rfl rfl ?_
                  refine Rj_ldc2 (q := 26) k_M_374 d_M_drawn_23 rfl ?_
                  refine Rj_cs (q := 29) (z := y_M_in) (as := [vL c, vL 1, vL 60]) (rest := []) (la := [vL c, vU, vL 1, vU, vL 60, vU]) ml_M_138 mw_M_in ms_M_in d_M_drawn_26 rfl rfl rfl rfl rfl ?_
                  refine s_M_in ⟨by omega, by omega⟩ (by decide) (by decide) ?_
                  refine Rj_b_eq (q := 32) (t := 45) d_M_drawn_29 rfl (by decide) (fun c29 => ?_) (fun c29 => ?_)
                  · have c29 := of_decide_eq_false c29
                    refine Rj_iconst (q := 46) d_M_drawn_45 rfl ?_
                    refine Rj_iret d_M_drawn_46 rfl ?_
                    exact ⟨sm_I rfl, hC1, kp0 _, kq0 _⟩
                  · have c29 := of_decide_eq_true c29
                    refine Rj_iload (q := 34) d_M_drawn_32 rfl rfl ?_
                    refine Rj_i2l (q := 35) d_M_drawn_34 rfl (by first | assumption | exact ⟨by omega, by omega⟩) ?_
                    refine Rj_lconst (q := 36) (z := 0) d_M_drawn_35 rfl rfl ?_
                    refine Rj_ldc2 (q := 39) k_M_341 d_M_drawn_36 rfl ?_
                    refine Rj_cs (q := 42) (z := y_M_in) (as := [vL d, vL 0, vL 2]) (rest := []) (la := [vL d, vU, vL 0, vU, vL 2, vU]) ml_M_138 mw_M_in ms_M_in d_M_drawn_39 rfl rfl rfl rfl rfl ?_
                    refine s_M_in ⟨by omega, by omega⟩ (by decide) (by decide) ?_
                    refine Rj_b_ne (q := 45) (t := 47) d_M_drawn_42 rfl (by decide) (fun c42 => ?_) (fun c42 => ?_)
                    · have c42 := of_decide_eq_true c42
                      refine Rj_aload_n (q := 48) d_M_drawn_47 rfl rfl rfl ?_
                      refine Rj_vov (q := 51) (z := y_M_keeps) (as := []) (rest := []) (la := [vA 0]) oM_0_M_keeps ml_M_497 mw_M_keeps mv_M_keeps rfl d_M_drawn_48 rfl rfl rfl rfl rfl ?_
                      exfalso; omega
                    · have c42 := of_decide_eq_false c42
                      refine Rj_iconst (q := 46) d_M_drawn_45 rfl ?_
                      refine Rj_iret d_M_drawn_46 rfl ?_
                      exact ⟨sm_I rfl, hC1, kp0 _, kq0 _⟩
        · refine Rj_iload_n (q := 14) d_D_drawn_13 rfl rfl rfl ?_
          refine Rj_bipush (q := 16) d_D_drawn_14 rfl (by decide +kernel) ?_
          refine Rj_icmp_le (q := 19) (t := 21) d_D_drawn_16 rfl (by decide) (by first | assumption | exact ⟨by omega, by omega⟩) (by decide) (fun c16 => ?_) (fun c16 => ?_)
          · refine Rj_iload_n (q := 22) d_D_drawn_21 rfl rfl rfl ?_
            refine Rj_iconst (q := 23) d_D_drawn_22 rfl ?_
            refine Rj_icmp_lt (q := 26) (t := 43) d_D_drawn_23 rfl (by decide) (by first | assumption | exact ⟨by omega, by omega⟩) (by decide) (fun c23 => ?_) (fun c23 => ?_)
            · refine Rj_iconst (q := 44) d_D_drawn_43 rfl ?_
              refine Rj_iret d_D_drawn_44 rfl ?_
              refine Rj_aload_n (q := 1) d_M_drawn_0 rfl rfl rfl ?_
              refine Rj_iload_n (q := 2) d_M_drawn_1 rfl rfl rfl ?_
              refine Rj_vo (q := 5) (z := y_M_canPass) (as := [vI a]) (rest := []) (la := [vA 0, vI a]) oM_0_M_canPass ml_M_489 mw_M_canPass mv_M_canPass rfl d_M_drawn_2 rfl rfl rfl rfl rfl ?_
              refine Rj_aload_n (q := 1) d_M_canPass_0 rfl rfl rfl ?_
              refine Rj_gr (q := 4) (zd := 11) gM_M_42_0 rfl rfl d_M_canPass_1 rfl ?_
              refine Rj_iconst (q := 5) d_M_canPass_4 rfl ?_
              refine Rj_ia (q := 6) (v := ν 11 0) aM_11 rfl (by decide) rfl d_M_canPass_5 rfl ?_
              refine Rj_if_le (q := 9) (t := 21) d_M_canPass_6 rfl (by decide) (by first | assumption | exact ⟨by omega, by omega⟩) (fun c2_6 => ?_) (fun c2_6 => ?_)
              · refine Rj_iconst (q := 22) d_M_canPass_21 rfl ?_
                refine Rj_bret0 d_M_canPass_22 rfl ?_
                refine Rj_if_eq (q := 8) (t := 45) d_M_drawn_5 rfl (by decide) (by decide) (fun _ => ?_) (fun c => absurd c (by decide))
                refine Rj_iconst (q := 46) d_M_drawn_45 rfl ?_
                refine Rj_iret d_M_drawn_46 rfl ?_
                exact ⟨sm_I rfl, hC1, kp0 _, kq0 _⟩
              · refine Rj_aload_n (q := 10) d_M_canPass_9 rfl rfl rfl ?_
                refine Rj_iload_n (q := 11) d_M_canPass_10 rfl rfl rfl ?_
                refine Rj_vo (q := 14) (z := y_M_isRule) (as := [vI a]) (rest := []) (la := [vA 0, vI a]) oM_0_M_isRule ml_M_486 mw_M_isRule mv_M_isRule rfl d_M_canPass_11 rfl rfl rfl rfl rfl ?_
                refine Rj_iload_n (q := 1) d_M_isRule_0 rfl rfl rfl ?_
                refine Rj_if_lt (q := 4) (t := 16) d_M_isRule_1 rfl (by decide) (by first | assumption | exact ⟨by omega, by omega⟩) (fun c2_11_1 => ?_) (fun c2_11_1 => ?_)
                · refine Rj_iconst (q := 17) d_M_isRule_16 rfl ?_
                  refine Rj_bret0 d_M_isRule_17 rfl ?_
                  refine Rj_if_eq (q := 17) (t := 21) d_M_canPass_14 rfl (by decide) (by decide) (fun _ => ?_) (fun c => absurd c (by decide))
                  refine Rj_iconst (q := 22) d_M_canPass_21 rfl ?_
                  refine Rj_bret0 d_M_canPass_22 rfl ?_
                  refine Rj_if_eq (q := 8) (t := 45) d_M_drawn_5 rfl (by decide) (by decide) (fun _ => ?_) (fun c => absurd c (by decide))
                  refine Rj_iconst (q := 46) d_M_drawn_45 rfl ?_
                  refine Rj_iret d_M_drawn_46 rfl ?_
                  exact ⟨sm_I rfl, hC1, kp0 _, kq0 _⟩
                · refine Rj_iload_n (q := 5) d_M_isRule_4 rfl rfl rfl ?_
                  refine Rj_aload_n (q := 6) d_M_isRule_5 rfl rfl rfl ?_
                  refine Rj_gi (q := 9) (ki := 2) (v := ν 0 2) gM_M_273_0 rfl rfl rfl d_M_isRule_6 rfl ?_
                  refine Rj_icmp_ge (q := 12) (t := 16) d_M_isRule_9 rfl (by decide) (by first | assumption | exact ⟨by omega, by omega⟩) (by first | assumption | exact ⟨by omega, by omega⟩) (fun c2_11_9 => ?_) (fun c2_11_9 => ?_)
                  · refine Rj_iconst (q := 17) d_M_isRule_16 rfl ?_
                    refine Rj_bret0 d_M_isRule_17 rfl ?_
                    refine Rj_if_eq (q := 17) (t := 21) d_M_canPass_14 rfl (by decide) (by decide) (fun _ => ?_) (fun c => absurd c (by decide))
                    refine Rj_iconst (q := 22) d_M_canPass_21 rfl ?_
                    refine Rj_bret0 d_M_canPass_22 rfl ?_
                    refine Rj_if_eq (q := 8) (t := 45) d_M_drawn_5 rfl (by decide) (by decide) (fun _ => ?_) (fun c => absurd c (by decide))
                    refine Rj_iconst (q := 46) d_M_drawn_45 rfl ?_
                    refine Rj_iret d_M_drawn_46 rfl ?_
                    exact ⟨sm_I rfl, hC1, kp0 _, kq0 _⟩
                  · refine Rj_iconst (q := 13) d_M_isRule_12 rfl ?_
                    refine Rj_goto (t := 17) d_M_isRule_13 (by decide) ?_
                    refine Rj_bret1 d_M_isRule_17 rfl ?_
                    refine Rj_if_eq (q := 17) (t := 21) d_M_canPass_14 rfl (by decide) (by decide) (fun c => absurd c (by decide)) (fun _ => ?_)
                    refine Rj_iconst (q := 18) d_M_canPass_17 rfl ?_
                    refine Rj_goto (t := 22) d_M_canPass_18 (by decide) ?_
                    refine Rj_bret1 d_M_canPass_22 rfl ?_
                    refine Rj_if_eq (q := 8) (t := 45) d_M_drawn_5 rfl (by decide) (by decide) (fun c => absurd c (by decide)) (fun _ => ?_)
                    refine Rj_iload_n (q := 9) d_M_drawn_8 rfl rfl rfl ?_
                    refine Rj_i2l (q := 10) d_M_drawn_9 rfl (by first | assumption | exact ⟨by omega, by omega⟩) ?_
                    refine Rj_lconst (q := 11) (z := 1) d_M_drawn_10 rfl rfl ?_
                    refine Rj_ldc2 (q := 14) k_M_503 d_M_drawn_11 rfl ?_
                    refine Rj_cs (q := 17) (z := y_M_in) (as := [vL b, vL 1, vL 20]) (rest := []) (la := [vL b, vU, vL 1, vU, vL 20, vU]) ml_M_138 mw_M_in ms_M_in d_M_drawn_14 rfl rfl rfl rfl rfl ?_
                    refine s_M_in ⟨by omega, by omega⟩ (by decide) (by decide) ?_
                    refine Rj_b_eq (q := 20) (t := 45) d_M_drawn_17 rfl (by decide) (fun c17 => ?_) (fun c17 => ?_)
                    · have c17 := of_decide_eq_false c17
                      refine Rj_iconst (q := 46) d_M_drawn_45 rfl ?_
                      refine Rj_iret d_M_drawn_46 rfl ?_
                      exact ⟨sm_I rfl, hC1, kp0 _, kq0 _⟩
                    · have c17 := of_decide_eq_true c17
                      refine Rj_iload_n (q := 21) d_M_drawn_20 rfl rfl rfl ?_
                      refine Rj_i2l (q := 22) d_M_drawn_21 rfl (by first | assumption | exact ⟨by omega, by omega⟩) ?_
                      refine Rj_lconst (q := 23) (z := 1) d_M_drawn_22 rfl rfl ?_
                      refine Rj_ldc2 (q := 26) k_M_374 d_M_drawn_23 rfl ?_
                      refine Rj_cs (q := 29) (z := y_M_in) (as := [vL c, vL 1, vL 60]) (rest := []) (la := [vL c, vU, vL 1, vU, vL 60, vU]) ml_M_138 mw_M_in ms_M_in d_M_drawn_26 rfl rfl rfl rfl rfl ?_
                      refine s_M_in ⟨by omega, by omega⟩ (by decide) (by decide) ?_
                      refine Rj_b_eq (q := 32) (t := 45) d_M_drawn_29 rfl (by decide) (fun c29 => ?_) (fun c29 => ?_)
                      · have c29 := of_decide_eq_false c29
                        refine Rj_iconst (q := 46) d_M_drawn_45 rfl ?_
                        refine Rj_iret d_M_drawn_46 rfl ?_
                        exact ⟨sm_I rfl, hC1, kp0 _, kq0 _⟩
                      · have c29 := of_decide_eq_true c29
                        refine Rj_iload (q := 34) d_M_drawn_32 rfl rfl ?_
                        refine Rj_i2l (q := 35) d_M_drawn_34 rfl (by first | assumption | exact ⟨by omega, by omega⟩) ?_
                        refine Rj_lconst (q := 36) (z := 0) d_M_drawn_35 rfl rfl ?_
                        refine Rj_ldc2 (q := 39) k_M_341 d_M_drawn_36 rfl ?_
                        refine Rj_cs (q := 42) (z := y_M_in) (as := [vL d, vL 0, vL 2]) (rest := []) (la := [vL d, vU, vL 0, vU, vL 2, vU]) ml_M_138 mw_M_in ms_M_in d_M_drawn_39 rfl rfl rfl rfl rfl ?_
                        refine s_M_in ⟨by omega, by omega⟩ (by decide) (by decide) ?_
                        refine Rj_b_ne (q := 45) (t := 47) d_M_drawn_42 rfl (by decide) (fun c42 => ?_) (fun c42 => ?_)
                        · have c42 := of_decide_eq_true c42
                          refine Rj_aload_n (q := 48) d_M_drawn_47 rfl rfl rfl ?_
                          refine Rj_vov (q := 51) (z := y_M_keeps) (as := []) (rest := []) (la := [vA 0]) oM_0_M_keeps ml_M_497 mw_M_keeps mv_M_keeps rfl d_M_drawn_48 rfl rfl rfl rfl rfl ?_
                          exfalso; omega
                        · have c42 := of_decide_eq_false c42
                          refine Rj_iconst (q := 46) d_M_drawn_45 rfl ?_
                          refine Rj_iret d_M_drawn_46 rfl ?_
                          exact ⟨sm_I rfl, hC1, kp0 _, kq0 _⟩
            · refine Rj_iload_n (q := 27) d_D_drawn_26 rfl rfl rfl ?_
              refine Rj_bipush (q := 29) d_D_drawn_27 rfl (by decide +kernel) ?_
              refine Rj_icmp_gt (q := 32) (t := 43) d_D_drawn_29 rfl (by decide) (by first | assumption | exact ⟨by omega, by omega⟩) (by decide) (fun c29 => ?_) (fun c29 => ?_)
              · refine Rj_iconst (q := 44) d_D_drawn_43 rfl ?_
                refine Rj_iret d_D_drawn_44 rfl ?_
                refine Rj_aload_n (q := 1) d_M_drawn_0 rfl rfl rfl ?_
                refine Rj_iload_n (q := 2) d_M_drawn_1 rfl rfl rfl ?_
                refine Rj_vo (q := 5) (z := y_M_canPass) (as := [vI a]) (rest := []) (la := [vA 0, vI a]) oM_0_M_canPass ml_M_489 mw_M_canPass mv_M_canPass rfl d_M_drawn_2 rfl rfl rfl rfl rfl ?_
                refine Rj_aload_n (q := 1) d_M_canPass_0 rfl rfl rfl ?_
                refine Rj_gr (q := 4) (zd := 11) gM_M_42_0 rfl rfl d_M_canPass_1 rfl ?_
                refine Rj_iconst (q := 5) d_M_canPass_4 rfl ?_
                refine Rj_ia (q := 6) (v := ν 11 0) aM_11 rfl (by decide) rfl d_M_canPass_5 rfl ?_
                refine Rj_if_le (q := 9) (t := 21) d_M_canPass_6 rfl (by decide) (by first | assumption | exact ⟨by omega, by omega⟩) (fun c2_6 => ?_) (fun c2_6 => ?_)
                · refine Rj_iconst (q := 22) d_M_canPass_21 rfl ?_
                  refine Rj_bret0 d_M_canPass_22 rfl ?_
                  refine Rj_if_eq (q := 8) (t := 45) d_M_drawn_5 rfl (by decide) (by decide) (fun _ => ?_) (fun c => absurd c (by decide))
                  refine Rj_iconst (q := 46) d_M_drawn_45 rfl ?_
                  refine Rj_iret d_M_drawn_46 rfl ?_
                  exact ⟨sm_I rfl, hC1, kp0 _, kq0 _⟩
                · refine Rj_aload_n (q := 10) d_M_canPass_9 rfl rfl rfl ?_
                  refine Rj_iload_n (q := 11) d_M_canPass_10 rfl rfl rfl ?_
                  refine Rj_vo (q := 14) (z := y_M_isRule) (as := [vI a]) (rest := []) (la := [vA 0, vI a]) oM_0_M_isRule ml_M_486 mw_M_isRule mv_M_isRule rfl d_M_canPass_11 rfl rfl rfl rfl rfl ?_
                  refine Rj_iload_n (q := 1) d_M_isRule_0 rfl rfl rfl ?_
                  refine Rj_if_lt (q := 4) (t := 16) d_M_isRule_1 rfl (by decide) (by first | assumption | exact ⟨by omega, by omega⟩) (fun c2_11_1 => ?_) (fun c2_11_1 => ?_)
                  · refine Rj_iconst (q := 17) d_M_isRule_16 rfl ?_
                    refine Rj_bret0 d_M_isRule_17 rfl ?_
                    refine Rj_if_eq (q := 17) (t := 21) d_M_canPass_14 rfl (by decide) (by decide) (fun _ => ?_) (fun c => absurd c (by decide))
                    refine Rj_iconst (q := 22) d_M_canPass_21 rfl ?_
                    refine Rj_bret0 d_M_canPass_22 rfl ?_
                    refine Rj_if_eq (q := 8) (t := 45) d_M_drawn_5 rfl (by decide) (by decide) (fun _ => ?_) (fun c => absurd c (by decide))
                    refine Rj_iconst (q := 46) d_M_drawn_45 rfl ?_
                    refine Rj_iret d_M_drawn_46 rfl ?_
                    exact ⟨sm_I rfl, hC1, kp0 _, kq0 _⟩
                  · refine Rj_iload_n (q := 5) d_M_isRule_4 rfl rfl rfl ?_
                    refine Rj_aload_n (q := 6) d_M_isRule_5 rfl rfl rfl ?_
                    refine Rj_gi (q := 9) (ki := 2) (v := ν 0 2) gM_M_273_0 rfl rfl rfl d_M_isRule_6 rfl ?_
                    refine Rj_icmp_ge (q := 12) (t := 16) d_M_isRule_9 rfl (by decide) (by first | assumption | exact ⟨by omega, by omega⟩) (by first | assumption | exact ⟨by omega, by omega⟩) (fun c2_11_9 => ?_) (fun c2_11_9 => ?_)
                    · refine Rj_iconst (q := 17) d_M_isRule_16 rfl ?_
                      refine Rj_bret0 d_M_isRule_17 rfl ?_
                      refine Rj_if_eq (q := 17) (t := 21) d_M_canPass_14 rfl (by decide) (by decide) (fun _ => ?_) (fun c => absurd c (by decide))
                      refine Rj_iconst (q := 22) d_M_canPass_21 rfl ?_
                      refine Rj_bret0 d_M_canPass_22 rfl ?_
                      refine Rj_if_eq (q := 8) (t := 45) d_M_drawn_5 rfl (by decide) (by decide) (fun _ => ?_) (fun c => absurd c (by decide))
                      refine Rj_iconst (q := 46) d_M_drawn_45 rfl ?_
                      refine Rj_iret d_M_drawn_46 rfl ?_
                      exact ⟨sm_I rfl, hC1, kp0 _, kq0 _⟩
                    · refine Rj_iconst (q := 13) d_M_isRule_12 rfl ?_
                      refine Rj_goto (t := 17) d_M_isRule_13 (by decide) ?_
                      refine Rj_bret1 d_M_isRule_17 rfl ?_
                      refine Rj_if_eq (q := 17) (t := 21) d_M_canPass_14 rfl (by decide) (by decide) (fun c => absurd c (by decide)) (fun _ => ?_)
                      refine Rj_iconst (q := 18) d_M_canPass_17 rfl ?_
                      refine Rj_goto (t := 22) d_M_canPass_18 (by decide) ?_
                      refine Rj_bret1 d_M_canPass_22 rfl ?_
                      refine Rj_if_eq (q := 8) (t := 45) d_M_drawn_5 rfl (by decide) (by decide) (fun c => absurd c (by decide)) (fun _ => ?_)
                      refine Rj_iload_n (q := 9) d_M_drawn_8 rfl rfl rfl ?_
                      refine Rj_i2l (q := 10) d_M_drawn_9 rfl (by first | assumption | exact ⟨by omega, by omega⟩) ?_
                      refine Rj_lconst (q := 11) (z := 1) d_M_drawn_10 rfl rfl ?_
                      refine Rj_ldc2 (q := 14) k_M_503 d_M_drawn_11 rfl ?_
                      refine Rj_cs (q := 17) (z := y_M_in) (as := [vL b, vL 1, vL 20]) (rest := []) (la := [vL b, vU, vL 1, vU, vL 20, vU]) ml_M_138 mw_M_in ms_M_in d_M_drawn_14 rfl rfl rfl rfl rfl ?_
                      refine s_M_in ⟨by omega, by omega⟩ (by decide) (by decide) ?_
                      refine Rj_b_eq (q := 20) (t := 45) d_M_drawn_17 rfl (by decide) (fun c17 => ?_) (fun c17 => ?_)
                      · have c17 := of_decide_eq_false c17
                        refine Rj_iconst (q := 46) d_M_drawn_45 rfl ?_
                        refine Rj_iret d_M_drawn_46 rfl ?_
                        exact ⟨sm_I rfl, hC1, kp0 _, kq0 _⟩
                      · have c17 := of_decide_eq_true c17
                        refine Rj_iload_n (q := 21) d_M_drawn_20 rfl rfl rfl ?_
                        refine Rj_i2l (q := 22) d_M_drawn_21 rfl (by first | assumption | exact ⟨by omega, by omega⟩) ?_
                        refine Rj_lconst (q := 23) (z := 1) d_M_drawn_22 rfl rfl ?_
                        refine Rj_ldc2 (q := 26) k_M_374 d_M_drawn_23 rfl ?_
                        refine Rj_cs (q := 29) (z := y_M_in) (as := [vL c, vL 1, vL 60]) (rest := []) (la := [vL c, vU, vL 1, vU, vL 60, vU]) ml_M_138 mw_M_in ms_M_in d_M_drawn_26 rfl rfl rfl rfl rfl ?_
                        refine s_M_in ⟨by omega, by omega⟩ (by decide) (by decide) ?_
                        refine Rj_b_eq (q := 32) (t := 45) d_M_drawn_29 rfl (by decide) (fun c29 => ?_) (fun c29 => ?_)
                        · have c29 := of_decide_eq_false c29
                          refine Rj_iconst (q := 46) d_M_drawn_45 rfl ?_
                          refine Rj_iret d_M_drawn_46 rfl ?_
                          exact ⟨sm_I rfl, hC1, kp0 _, kq0 _⟩
                        · have c29 := of_decide_eq_true c29
                          refine Rj_iload (q := 34) d_M_drawn_32 rfl rfl ?_
                          refine Rj_i2l (q := 35) d_M_drawn_34 rfl (by first | assumption | exact ⟨by omega, by omega⟩) ?_
                          refine Rj_lconst (q := 36) (z := 0) d_M_drawn_35 rfl rfl ?_
                          refine Rj_ldc2 (q := 39) k_M_341 d_M_drawn_36 rfl ?_
                          refine Rj_cs (q := 42) (z := y_M_in) (as := [vL d, vL 0, vL 2]) (rest := []) (la := [vL d, vU, vL 0, vU, vL 2, vU]) ml_M_138 mw_M_in ms_M_in d_M_drawn_39 rfl rfl rfl rfl rfl ?_
                          refine s_M_in ⟨by omega, by omega⟩ (by decide) (by decide) ?_
                          refine Rj_b_ne (q := 45) (t := 47) d_M_drawn_42 rfl (by decide) (fun c42 => ?_) (fun c42 => ?_)
                          · have c42 := of_decide_eq_true c42
                            refine Rj_aload_n (q := 48) d_M_drawn_47 rfl rfl rfl ?_
                            refine Rj_vov (q := 51) (z := y_M_keeps) (as := []) (rest := []) (la := [vA 0]) oM_0_M_keeps ml_M_497 mw_M_keeps mv_M_keeps rfl d_M_drawn_48 rfl rfl rfl rfl rfl ?_
                            exfalso; omega
                          · have c42 := of_decide_eq_false c42
                            refine Rj_iconst (q := 46) d_M_drawn_45 rfl ?_
                            refine Rj_iret d_M_drawn_46 rfl ?_
                            exact ⟨sm_I rfl, hC1, kp0 _, kq0 _⟩
              · refine Rj_iload (q := 34) d_D_drawn_32 rfl rfl ?_
                refine Rj_if_lt (q := 37) (t := 43) d_D_drawn_34 rfl (by decide) (by first | assumption | exact ⟨by omega, by omega⟩) (fun c34 => ?_) (fun c34 => ?_)
                · refine Rj_iconst (q := 44) d_D_drawn_43 rfl ?_
                  refine Rj_iret d_D_drawn_44 rfl ?_
                  refine Rj_aload_n (q := 1) d_M_drawn_0 rfl rfl rfl ?_
                  refine Rj_iload_n (q := 2) d_M_drawn_1 rfl rfl rfl ?_
                  refine Rj_vo (q := 5) (z := y_M_canPass) (as := [vI a]) (rest := []) (la := [vA 0, vI a]) oM_0_M_canPass ml_M_489 mw_M_canPass mv_M_canPass rfl d_M_drawn_2 rfl rfl rfl rfl rfl ?_
                  refine Rj_aload_n (q := 1) d_M_canPass_0 rfl rfl rfl ?_
                  refine Rj_gr (q := 4) (zd := 11) gM_M_42_0 rfl rfl d_M_canPass_1 rfl ?_
                  refine Rj_iconst (q := 5) d_M_canPass_4 rfl ?_
                  refine Rj_ia (q := 6) (v := ν 11 0) aM_11 rfl (by decide) rfl d_M_canPass_5 rfl ?_
                  refine Rj_if_le (q := 9) (t := 21) d_M_canPass_6 rfl (by decide) (by first | assumption | exact ⟨by omega, by omega⟩) (fun c2_6 => ?_) (fun c2_6 => ?_)
                  · refine Rj_iconst (q := 22) d_M_canPass_21 rfl ?_
                    refine Rj_bret0 d_M_canPass_22 rfl ?_
                    refine Rj_if_eq (q := 8) (t := 45) d_M_drawn_5 rfl (by decide) (by decide) (fun _ => ?_) (fun c => absurd c (by decide))
                    refine Rj_iconst (q := 46) d_M_drawn_45 rfl ?_
                    refine Rj_iret d_M_drawn_46 rfl ?_
                    exact ⟨sm_I rfl, hC1, kp0 _, kq0 _⟩
                  · refine Rj_aload_n (q := 10) d_M_canPass_9 rfl rfl rfl ?_
                    refine Rj_iload_n (q := 11) d_M_canPass_10 rfl rfl rfl ?_
                    refine Rj_vo (q := 14) (z := y_M_isRule) (as := [vI a]) (rest := []) (la := [vA 0, vI a]) oM_0_M_isRule ml_M_486 mw_M_isRule mv_M_isRule rfl d_M_canPass_11 rfl rfl rfl rfl rfl ?_
                    refine Rj_iload_n (q := 1) d_M_isRule_0 rfl rfl rfl ?_
                    refine Rj_if_lt (q := 4) (t := 16) d_M_isRule_1 rfl (by decide) (by first | assumption | exact ⟨by omega, by omega⟩) (fun c2_11_1 => ?_) (fun c2_11_1 => ?_)
                    · refine Rj_iconst (q := 17) d_M_isRule_16 rfl ?_
                      refine Rj_bret0 d_M_isRule_17 rfl ?_
                      refine Rj_if_eq (q := 17) (t := 21) d_M_canPass_14 rfl (by decide) (by decide) (fun _ => ?_) (fun c => absurd c (by decide))
                      refine Rj_iconst (q := 22) d_M_canPass_21 rfl ?_
                      refine Rj_bret0 d_M_canPass_22 rfl ?_
                      refine Rj_if_eq (q := 8) (t := 45) d_M_drawn_5 rfl (by decide) (by decide) (fun _ => ?_) (fun c => absurd c (by decide))
                      refine Rj_iconst (q := 46) d_M_drawn_45 rfl ?_
                      refine Rj_iret d_M_drawn_46 rfl ?_
                      exact ⟨sm_I rfl, hC1, kp0 _, kq0 _⟩
                    · refine Rj_iload_n (q := 5) d_M_isRule_4 rfl rfl rfl ?_
                      refine Rj_aload_n (q := 6) d_M_isRule_5 rfl rfl rfl ?_
                      refine Rj_gi (q := 9) (ki := 2) (v := ν 0 2) gM_M_273_0 rfl rfl rfl d_M_isRule_6 rfl ?_
                      refine Rj_icmp_ge (q := 12) (t := 16) d_M_isRule_9 rfl (by decide) (by first | assumption | exact ⟨by omega, by omega⟩) (by first | assumption | exact ⟨by omega, by omega⟩) (fun c2_11_9 => ?_) (fun c2_11_9 => ?_)
                      · refine Rj_iconst (q := 17) d_M_isRule_16 rfl ?_
                        refine Rj_bret0 d_M_isRule_17 rfl ?_
                        refine Rj_if_eq (q := 17) (t := 21) d_M_canPass_14 rfl (by decide) (by decide) (fun _ => ?_) (fun c => absurd c (by decide))
                        refine Rj_iconst (q := 22) d_M_canPass_21 rfl ?_
                        refine Rj_bret0 d_M_canPass_22 rfl ?_
                        refine Rj_if_eq (q := 8) (t := 45) d_M_drawn_5 rfl (by decide) (by decide) (fun _ => ?_) (fun c => absurd c (by decide))
                        refine Rj_iconst (q := 46) d_M_drawn_45 rfl ?_
                        refine Rj_iret d_M_drawn_46 rfl ?_
                        exact ⟨sm_I rfl, hC1, kp0 _, kq0 _⟩
                      · refine Rj_iconst (q := 13) d_M_isRule_12 rfl ?_
                        refine Rj_goto (t := 17) d_M_isRule_13 (by decide) ?_
                        refine Rj_bret1 d_M_isRule_17 rfl ?_
                        refine Rj_if_eq (q := 17) (t := 21) d_M_canPass_14 rfl (by decide) (by decide) (fun c => absurd c (by decide)) (fun _ => ?_)
                        refine Rj_iconst (q := 18) d_M_canPass_17 rfl ?_
                        refine Rj_goto (t := 22) d_M_canPass_18 (by decide) ?_
                        refine Rj_bret1 d_M_canPass_22 rfl ?_
                        refine Rj_if_eq (q := 8) (t := 45) d_M_drawn_5 rfl (by decide) (by decide) (fun c => absurd c (by decide)) (fun _ => ?_)
                        refine Rj_iload_n (q := 9) d_M_drawn_8 rfl rfl rfl ?_
                        refine Rj_i2l (q := 10) d_M_drawn_9 rfl (by first | assumption | exact ⟨by omega, by omega⟩) ?_
                        refine Rj_lconst (q := 11) (z := 1) d_M_drawn_10 rfl rfl ?_
                        refine Rj_ldc2 (q := 14) k_M_503 d_M_drawn_11 rfl ?_
                        refine Rj_cs (q := 17) (z := y_M_in) (as := [vL b, vL 1, vL 20]) (rest := []) (la := [vL b, vU, vL 1, vU, vL 20, vU]) ml_M_138 mw_M_in ms_M_in d_M_drawn_14 rfl rfl rfl rfl rfl ?_
                        refine s_M_in ⟨by omega, by omega⟩ (by decide) (by decide) ?_
                        refine Rj_b_eq (q := 20) (t := 45) d_M_drawn_17 rfl (by decide) (fun c17 => ?_) (fun c17 => ?_)
                        · have c17 := of_decide_eq_false c17
                          refine Rj_iconst (q := 46) d_M_drawn_45 rfl ?_
                          refine Rj_iret d_M_drawn_46 rfl ?_
                          exact ⟨sm_I rfl, hC1, kp0 _, kq0 _⟩
                        · have c17 := of_decide_eq_true c17
                          refine Rj_iload_n (q := 21) d_M_drawn_20 rfl rfl rfl ?_
                          refine Rj_i2l (q := 22) d_M_drawn_21 rfl (by first | assumption | exact ⟨by omega, by omega⟩) ?_
                          refine Rj_lconst (q := 23) (z := 1) d_M_drawn_22 rfl rfl ?_
                          refine Rj_ldc2 (q := 26) k_M_374 d_M_drawn_23 rfl ?_
                          refine Rj_cs (q := 29) (z := y_M_in) (as := [vL c, vL 1, vL 60]) (rest := []) (la := [vL c, vU, vL 1, vU, vL 60, vU]) ml_M_138 mw_M_in ms_M_in d_M_drawn_26 rfl rfl rfl rfl rfl ?_
                          refine s_M_in ⟨by omega, by omega⟩ (by decide) (by decide) ?_
                          refine Rj_b_eq (q := 32) (t := 45) d_M_drawn_29 rfl (by decide) (fun c29 => ?_) (fun c29 => ?_)
                          · have c29 := of_decide_eq_false c29
                            refine Rj_iconst (q := 46) d_M_drawn_45 rfl ?_
                            refine Rj_iret d_M_drawn_46 rfl ?_
                            exact ⟨sm_I rfl, hC1, kp0 _, kq0 _⟩
                          · have c29 := of_decide_eq_true c29
                            refine Rj_iload (q := 34) d_M_drawn_32 rfl rfl ?_
                            refine Rj_i2l (q := 35) d_M_drawn_34 rfl (by first | assumption | exact ⟨by omega, by omega⟩) ?_
                            refine Rj_lconst (q := 36) (z := 0) d_M_drawn_35 rfl rfl ?_
                            refine Rj_ldc2 (q := 39) k_M_341 d_M_drawn_36 rfl ?_
                            refine Rj_cs (q := 42) (z := y_M_in) (as := [vL d, vL 0, vL 2]) (rest := []) (la := [vL d, vU, vL 0, vU, vL 2, vU]) ml_M_138 mw_M_in ms_M_in d_M_drawn_39 rfl rfl rfl rfl rfl ?_
                            refine s_M_in ⟨by omega, by omega⟩ (by decide) (by decide) ?_
                            refine Rj_b_ne (q := 45) (t := 47) d_M_drawn_42 rfl (by decide) (fun c42 => ?_) (fun c42 => ?_)
                            · have c42 := of_decide_eq_true c42
                              refine Rj_aload_n (q := 48) d_M_drawn_47 rfl rfl rfl ?_
                              refine Rj_vov (q := 51) (z := y_M_keeps) (as := []) (rest := []) (la := [vA 0]) oM_0_M_keeps ml_M_497 mw_M_keeps mv_M_keeps rfl d_M_drawn_48 rfl rfl rfl rfl rfl ?_
                              exfalso; omega
                            · have c42 := of_decide_eq_false c42
                              refine Rj_iconst (q := 46) d_M_drawn_45 rfl ?_
                              refine Rj_iret d_M_drawn_46 rfl ?_
                              exact ⟨sm_I rfl, hC1, kp0 _, kq0 _⟩
                · refine Rj_iload (q := 39) d_D_drawn_37 rfl rfl ?_
                  refine Rj_iconst (q := 40) d_D_drawn_39 rfl ?_
                  refine Rj_icmp_le (q := 43) (t := 45) d_D_drawn_40 rfl (by decide) (by first | assumption | exact ⟨by omega, by omega⟩) (by decide) (fun c40 => ?_) (fun c40 => ?_)
                  · refine Rj_aload_n (q := 46) d_D_drawn_45 rfl rfl rfl ?_
                    refine Rj_gr (q := 49) (zd := 86) gD_D_97_0 rfl rfl d_D_drawn_46 rfl ?_
                    refine Rj_vov (q := 52) (z := y_Di_clear) (as := []) (rest := []) (la := [vA 86]) oD_86_Di_clear ml_D_272 mw_Di_clear mv_Di_clear rfl d_D_drawn_49 rfl rfl rfl rfl rfl ?_
                    obtain ⟨D, hRc, hRm⟩ := hR.at (show 0 ≤ a by omega) (show a < ν 0 2 by omega)
                    obtain ⟨-, -, -, w8⟩ := hC.w
                    have w81 := w8.1
                    refine s_diClear (fun m4 f4 a4 b4 => ?_)
                    refine Rj_aload_n (q := 53) d_D_drawn_52 rfl rfl rfl ?_
                    refine Rj_gr (q := 56) (zd := 59) gD_D_45_0 rfl rfl d_D_drawn_53 rfl ?_
                    refine Rj_vov (q := 59) (z := y_Ge_keepSpots) (as := []) (rest := []) (la := [vA 59]) oD_59_Ge_keepSpots ml_D_294 mw_Ge_keepSpots mv_Ge_keepSpots rfl d_D_drawn_56 rfl rfl rfl rfl rfl ?_
                    refine s_keepSpots (fun m56 f56 q56 => ?_)
                    refine Rj_aload_n (q := 60) d_D_drawn_59 rfl rfl rfl ?_
                    refine Rj_gr (q := 63) (zd := 3) gD_D_25_0 rfl rfl d_D_drawn_60 rfl ?_
                    refine Rj_gi (q := 66) (ki := 16) (v := ν 11 8) gD_D_121_3 rfl rfl (((f56 3 16 (show ¬ (3 : Nat) = 65 by decide)).trans (f4 3 16 (by unfold Wdc; omega))).trans w8.2) d_D_drawn_63 rfl ?_
                    refine Rj_i2l (q := 67) d_D_drawn_66 rfl (by first | assumption | exact ⟨by omega, by omega⟩) ?_
                    refine Rj_lstore (q := 69) (ls' := [vA 0, vI a, vI b, vI c, vI d, vL (ν 11 8), vU]) d_D_drawn_67 rfl (by decide) rfl ?_
                    refine Rj_iconst (q := 70) d_D_drawn_69 rfl ?_
                    refine Rj_istore (q := 72) (ls' := [vA 0, vI a, vI b, vI c, vI d, vL (ν 11 8), vU, vI 0]) d_D_drawn_70 rfl (by decide) rfl ?_
                    have g56 : GX m56 (ν 11) (ν 14) (ν 15) (ν 16) (ν 17) (ν 12) := (h.fr f4 (fun c i q => by unfold gxc at q; unfold Wdc; omega)).keep (fun c i q => f56 c i (by unfold gxc at q; omega))
                    have t56 : CDT m56 (ν 11) (ν 12, 0, 0, 0, fun _ => 0) := (CDS_0 g56 ⟨(f56 86 2 (show ¬ (86 : Nat) = 65 by decide)).trans a4.1, (f56 86 3 (show ¬ (86 : Nat) = 65 by decide)).trans a4.2.1, (f56 86 4 (show ¬ (86 : Nat) = 65 by decide)).trans a4.2.2⟩ (fun j j0 j1 => (f56 87 j (show ¬ (87 : Nat) = 65 by decide)).trans (b4 j j0 j1))).2
                    refine s_drawn_72 (S := ν 11) (lo := ν 14) (up := ν 15) (dn := ν 16) (lk := ν 17) (pl := ν 12) (D := D) (t := (0, 0, 0, fun _ => 0)) (K := ((n : Int) * 112000000000000)) (kk := 0) (R := ν 0 2) _ (Nat.lt_succ_self _) g56 t56 (fun j j0 j1 => (q56 j j0 j1).trans (f56 9 j (show ¬ (9 : Nat) = 65 by decide)).symm) (hRc.keep ((f56 79 1 (show ¬ (79 : Nat) = 65 by decide)).trans (f4 79 1 (by unfold Wdc; omega))) ((f56.row (fun i q => absurd (show (80 : Nat) = 65 from q) (by decide))).trans (f4.row (fun i q => by unfold Wdc at q; omega))) ((f56.row (fun i q => absurd (show (81 : Nat) = 65 from q) (by decide))).trans (f4.row (fun i q => by unfold Wdc at q; omega)))) (s0_I hBK hSB) hBK hSB (by omega) (by omega) (by omega) (by omega) w8.1 (by omega) (by omega) (fun m f r9 cT => ?_)
                    have tp : (dws (ν 11) (ν 14) (ν 15) (ν 16) (ν 17) D (ν 12) c (b - 0).toNat (ν 11 8) (ν 12, 0, 0, 0, fun _ => 0)).1 = ν 12 := dws_pl _ _ _ rfl
                    generalize eτ : dws (ν 11) (ν 14) (ν 15) (ν 16) (ν 17) D (ν 12) c (b - 0).toNat (ν 11 8) (ν 12, 0, 0, 0, fun _ => 0) = τ at cT tp ⊢
                    refine Rj_aload_n (q := 1) d_M_drawn_0 rfl rfl rfl ?_
                    refine Rj_iload_n (q := 2) d_M_drawn_1 rfl rfl rfl ?_
                    refine Rj_vo (q := 5) (z := y_M_canPass) (as := [vI a]) (rest := []) (la := [vA 0, vI a]) oM_0_M_canPass ml_M_489 mw_M_canPass mv_M_canPass rfl d_M_drawn_2 rfl rfl rfl rfl rfl ?_
                    refine Rj_aload_n (q := 1) d_M_canPass_0 rfl rfl rfl ?_
                    refine Rj_gr (q := 4) (zd := 11) gM_M_42_0 rfl rfl d_M_canPass_1 rfl ?_
                    refine Rj_iconst (q := 5) d_M_canPass_4 rfl ?_
                    refine Rj_ia (q := 6) (v := ν 11 0) aM_11 rfl (by decide) rfl d_M_canPass_5 rfl ?_
                    refine Rj_if_le (q := 9) (t := 21) d_M_canPass_6 rfl (by decide) (by first | assumption | exact ⟨by omega, by omega⟩) (fun c2_6 => ?_) (fun c2_6 => ?_)
                    · refine Rj_iconst (q := 22) d_M_canPass_21 rfl ?_
                      refine Rj_bret0 d_M_canPass_22 rfl ?_
                      refine Rj_if_eq (q := 8) (t := 45) d_M_drawn_5 rfl (by decide) (by decide) (fun _ => ?_) (fun c => absurd c (by decide))
                      refine Rj_iconst (q := 46) d_M_drawn_45 rfl ?_
                      refine Rj_iret d_M_drawn_46 rfl ?_
                      exfalso; omega
                    · refine Rj_aload_n (q := 10) d_M_canPass_9 rfl rfl rfl ?_
                      refine Rj_iload_n (q := 11) d_M_canPass_10 rfl rfl rfl ?_
                      refine Rj_vo (q := 14) (z := y_M_isRule) (as := [vI a]) (rest := []) (la := [vA 0, vI a]) oM_0_M_isRule ml_M_486 mw_M_isRule mv_M_isRule rfl d_M_canPass_11 rfl rfl rfl rfl rfl ?_
                      refine Rj_iload_n (q := 1) d_M_isRule_0 rfl rfl rfl ?_
                      refine Rj_if_lt (q := 4) (t := 16) d_M_isRule_1 rfl (by decide) (by first | assumption | exact ⟨by omega, by omega⟩) (fun c2_11_1 => ?_) (fun c2_11_1 => ?_)
                      · refine Rj_iconst (q := 17) d_M_isRule_16 rfl ?_
                        refine Rj_bret0 d_M_isRule_17 rfl ?_
                        refine Rj_if_eq (q := 17) (t := 21) d_M_canPass_14 rfl (by decide) (by decide) (fun _ => ?_) (fun c => absurd c (by decide))
                        refine Rj_iconst (q := 22) d_M_canPass_21 rfl ?_
                        refine Rj_bret0 d_M_canPass_22 rfl ?_
                        refine Rj_if_eq (q := 8) (t := 45) d_M_drawn_5 rfl (by decide) (by decide) (fun _ => ?_) (fun c => absurd c (by decide))
                        refine Rj_iconst (q := 46) d_M_drawn_45 rfl ?_
                        refine Rj_iret d_M_drawn_46 rfl ?_
                        exfalso; omega
                      · refine Rj_iload_n (q := 5) d_M_isRule_4 rfl rfl rfl ?_
                        refine Rj_aload_n (q := 6) d_M_isRule_5 rfl rfl rfl ?_
                        refine Rj_gi (q := 9) (ki := 2) (v := ν 0 2) gM_M_273_0 rfl rfl rfl d_M_isRule_6 rfl ?_
                        refine Rj_icmp_ge (q := 12) (t := 16) d_M_isRule_9 rfl (by decide) (by first | assumption | exact ⟨by omega, by omega⟩) (by first | assumption | exact ⟨by omega, by omega⟩) (fun c2_11_9 => ?_) (fun c2_11_9 => ?_)
                        · refine Rj_iconst (q := 17) d_M_isRule_16 rfl ?_
                          refine Rj_bret0 d_M_isRule_17 rfl ?_
                          refine Rj_if_eq (q := 17) (t := 21) d_M_canPass_14 rfl (by decide) (by decide) (fun _ => ?_) (fun c => absurd c (by decide))
                          refine Rj_iconst (q := 22) d_M_canPass_21 rfl ?_
                          refine Rj_bret0 d_M_canPass_22 rfl ?_
                          refine Rj_if_eq (q := 8) (t := 45) d_M_drawn_5 rfl (by decide) (by decide) (fun _ => ?_) (fun c => absurd c (by decide))
                          refine Rj_iconst (q := 46) d_M_drawn_45 rfl ?_
                          refine Rj_iret d_M_drawn_46 rfl ?_
                          exfalso; omega
                        · refine Rj_iconst (q := 13) d_M_isRule_12 rfl ?_
                          refine Rj_goto (t := 17) d_M_isRule_13 (by decide) ?_
                          refine Rj_bret1 d_M_isRule_17 rfl ?_
                          refine Rj_if_eq (q := 17) (t := 21) d_M_canPass_14 rfl (by decide) (by decide) (fun c => absurd c (by decide)) (fun _ => ?_)
                          refine Rj_iconst (q := 18) d_M_canPass_17 rfl ?_
                          refine Rj_goto (t := 22) d_M_canPass_18 (by decide) ?_
                          refine Rj_bret1 d_M_canPass_22 rfl ?_
                          refine Rj_if_eq (q := 8) (t := 45) d_M_drawn_5 rfl (by decide) (by decide) (fun c => absurd c (by decide)) (fun _ => ?_)
                          refine Rj_iload_n (q := 9) d_M_drawn_8 rfl rfl rfl ?_
                          refine Rj_i2l (q := 10) d_M_drawn_9 rfl (by first | assumption | exact ⟨by omega, by omega⟩) ?_
                          refine Rj_lconst (q := 11) (z := 1) d_M_drawn_10 rfl rfl ?_
                          refine Rj_ldc2 (q := 14) k_M_503 d_M_drawn_11 rfl ?_
                          refine Rj_cs (q := 17) (z := y_M_in) (as := [vL b, vL 1, vL 20]) (rest := []) (la := [vL b, vU, vL 1, vU, vL 20, vU]) ml_M_138 mw_M_in ms_M_in d_M_drawn_14 rfl rfl rfl rfl rfl ?_
                          refine s_M_in ⟨by omega, by omega⟩ (by decide) (by decide) ?_
                          refine Rj_b_eq (q := 20) (t := 45) d_M_drawn_17 rfl (by decide) (fun c17 => ?_) (fun c17 => ?_)
                          · have c17 := of_decide_eq_false c17
                            refine Rj_iconst (q := 46) d_M_drawn_45 rfl ?_
                            refine Rj_iret d_M_drawn_46 rfl ?_
                            exfalso; omega
                          · have c17 := of_decide_eq_true c17
                            refine Rj_iload_n (q := 21) d_M_drawn_20 rfl rfl rfl ?_
                            refine Rj_i2l (q := 22) d_M_drawn_21 rfl (by first | assumption | exact ⟨by omega, by omega⟩) ?_
                            refine Rj_lconst (q := 23) (z := 1) d_M_drawn_22 rfl rfl ?_
                            refine Rj_ldc2 (q := 26) k_M_374 d_M_drawn_23 rfl ?_
                            refine Rj_cs (q := 29) (z := y_M_in) (as := [vL c, vL 1, vL 60]) (rest := []) (la := [vL c, vU, vL 1, vU, vL 60, vU]) ml_M_138 mw_M_in ms_M_in d_M_drawn_26 rfl rfl rfl rfl rfl ?_
                            refine s_M_in ⟨by omega, by omega⟩ (by decide) (by decide) ?_
                            refine Rj_b_eq (q := 32) (t := 45) d_M_drawn_29 rfl (by decide) (fun c29 => ?_) (fun c29 => ?_)
                            · have c29 := of_decide_eq_false c29
                              refine Rj_iconst (q := 46) d_M_drawn_45 rfl ?_
                              refine Rj_iret d_M_drawn_46 rfl ?_
                              exfalso; omega
                            · have c29 := of_decide_eq_true c29
                              refine Rj_iload (q := 34) d_M_drawn_32 rfl rfl ?_
                              refine Rj_i2l (q := 35) d_M_drawn_34 rfl (by first | assumption | exact ⟨by omega, by omega⟩) ?_
                              refine Rj_lconst (q := 36) (z := 0) d_M_drawn_35 rfl rfl ?_
                              refine Rj_ldc2 (q := 39) k_M_341 d_M_drawn_36 rfl ?_
                              refine Rj_cs (q := 42) (z := y_M_in) (as := [vL d, vL 0, vL 2]) (rest := []) (la := [vL d, vU, vL 0, vU, vL 2, vU]) ml_M_138 mw_M_in ms_M_in d_M_drawn_39 rfl rfl rfl rfl rfl ?_
                              refine s_M_in ⟨by omega, by omega⟩ (by decide) (by decide) ?_
                              refine Rj_b_ne (q := 45) (t := 47) d_M_drawn_42 rfl (by decide) (fun c42 => ?_) (fun c42 => ?_)
                              · have c42 := of_decide_eq_true c42
                                refine Rj_aload_n (q := 48) d_M_drawn_47 rfl rfl rfl ?_
                                refine Rj_vov (q := 51) (z := y_M_keeps) (as := []) (rest := []) (la := [vA 0]) oM_0_M_keeps ml_M_497 mw_M_keeps mv_M_keeps rfl d_M_drawn_48 rfl rfl rfl rfl rfl ?_
                                refine s_M_keeps (fun m48 f48 h48 => ?_)
                                refine Rj_aload_n (q := 52) d_M_drawn_51 rfl rfl rfl ?_
                                refine Rj_vov (q := 55) (z := y_M_begins) (as := []) (rest := []) (la := [vA 0]) oM_0_M_begins ml_M_480 mw_M_begins mv_M_begins rfl d_M_drawn_52 rfl rfl rfl rfl rfl ?_
                                refine s_M_begins (fun m52 f52 q52 => ?_)
                                have g52 : ∀ c i, ¬ (Wbg c i ∨ c = 13) → m52 c i = ν c i := fun c i q => (f52 c i (fun e => q (Or.inl e))).trans (f48 c i (fun e => q (Or.inr e)))
                                have u2 : m52 2 = ν 2 := funext fun i => g52 2 i (by unfold Wbg; omega)
                                have u4 : m52 4 = ν 4 := funext fun i => g52 4 i (by unfold Wbg; omega)
                                have u5 : m52 5 = ν 5 := funext fun i => g52 5 i (by unfold Wbg; omega)
                                have u11 : m52 11 = ν 11 := funext fun i => g52 11 i (by unfold Wbg; omega)
                                have u12 : m52 12 = ν 12 := funext fun i => g52 12 i (by unfold Wbg; omega)
                                have u14 : m52 14 = ν 14 := funext fun i => g52 14 i (by unfold Wbg; omega)
                                have u15 : m52 15 = ν 15 := funext fun i => g52 15 i (by unfold Wbg; omega)
                                have u16 : m52 16 = ν 16 := funext fun i => g52 16 i (by unfold Wbg; omega)
                                have u17 : m52 17 = ν 17 := funext fun i => g52 17 i (by unfold Wbg; omega)
                                rw [show m48 12 = ν 12 from f48.row (fun i q => absurd (show (12 : Nat) = 13 from q) (by decide))] at q52
                                have hM2 : MX m52 := hM.mv u11 u14 u15 u16 u17 (g52 0 32 (by unfold Wbg; omega)) (by rw [u12]; exact hB)
                                refine Rj_aload_n (q := 56) d_M_drawn_55 rfl rfl rfl ?_
                                refine Rj_gr (q := 59) (zd := 11) gM_M_42_0 rfl rfl d_M_drawn_56 rfl ?_
                                refine Rj_bipush (q := 61) d_M_drawn_59 rfl (by decide +kernel) ?_
                                refine Rj_ia (q := 62) (v := ν 11 8) aM_11 rfl (by decide) (g52 11 8 (by unfold Wbg; omega)) d_M_drawn_61 rfl ?_
                                refine Rj_i2l (q := 63) d_M_drawn_62 rfl (by first | assumption | exact ⟨by omega, by omega⟩) ?_
                                refine Rj_lstore (q := 65) (ls' := [vA 0, vI a, vI b, vI c, vI d, vL (ν 11 8), vU]) d_M_drawn_63 rfl (by decide) rfl ?_
                                refine Rj_iconst (q := 66) d_M_drawn_65 rfl ?_
                                refine Rj_istore (q := 68) (ls' := [vA 0, vI a, vI b, vI c, vI d, vL (ν 11 8), vU, vI 0]) d_M_drawn_66 rfl (by decide) rfl ?_
                                refine s_M_drawn_68 (S := ν 11) (lo := ν 14) (up := ν 15) (dn := ν 16) (lk := ν 17) (pl := ν 12) (D := D) (t := (0, 0, 0, fun _ => 0)) (K := ((n : Int) * 112000000000000)) (kk := 0) _ (Nat.lt_succ_self _) hM2 ⟨u11, u14, u15, u16, u17⟩ q52 (fun j j0 j1 => (f52 13 j (by unfold Wbg; omega)).trans (h48 j j0 j1)) (hRm.kp u4 u5 u2) (s0_I hBK hSB) hBK hSB (by omega) (by omega) (by omega) (by omega) w8.1 (by omega) (by omega) (fun m2 f2 q2 => ?_)
                                rw [eτ] at q2 ⊢
                                have fD : ∀ c i, ¬ (Wdw c i ∨ Wdc c i ∨ c = 65) → m c i = μ c i := fun c i q => ((f c i (fun e => q (Or.inl e))).trans (f56 c i (fun e => q (Or.inr (Or.inr e))))).trans (f4 c i (fun e => q (Or.inr (Or.inl e))))
                                have p9 : ∀ j, 0 ≤ j → j < 12 → m 9 j = μ 9 j := fun j j0 j1 => ((r9 j j0 j1).trans (f56 9 j (show ¬ (9 : Nat) = 65 by decide))).trans (f4 9 j (by unfold Wdc; omega))
                                have g2 : ∀ c i, ¬ (Wcm c i ∨ c = 13) → m2 c i = ν c i := fun c i q => (f2 c i (fun e => q (Or.inl e))).trans (g52 c i (by unfold Wcm at q; unfold Wbg; omega))
                                refine ⟨sm_I rfl, hC.moved (fun c i z1 z2 => fD c i (by unfold Wdw Wdy Wdc; omega)) (fun c i z1 z2 => g2 c i (by unfold cqm at z2; unfold Wcm; omega)) (by rw [q2.1, tp]; exact h.spots (fun c i z1 z2 => fD c i (by unfold gxc at z2; unfold Wdw Wdy Wdc; omega)) (fun y y0 y1 => p9 y y0 (by omega))) (by rw [q2.1, tp]; exact hSB) (by rw [q2.1, tp]; exact hBK.mono (by omega)), fun c i q => fD c i (by unfold Wdw Wdy Wdc; omega), fun c i q => g2 c i (by unfold Wcm; omega)⟩
                              · have c42 := of_decide_eq_false c42
                                refine Rj_iconst (q := 46) d_M_drawn_45 rfl ?_
                                refine Rj_iret d_M_drawn_46 rfl ?_
                                exfalso; omega
                  · refine Rj_iconst (q := 44) d_D_drawn_43 rfl ?_
                    refine Rj_iret d_D_drawn_44 rfl ?_
                    refine Rj_aload_n (q := 1) d_M_drawn_0 rfl rfl rfl ?_
                    refine Rj_iload_n (q := 2) d_M_drawn_1 rfl rfl rfl ?_
                    refine Rj_vo (q := 5) (z := y_M_canPass) (as := [vI a]) (rest := []) (la := [vA 0, vI a]) oM_0_M_canPass ml_M_489 mw_M_canPass mv_M_canPass rfl d_M_drawn_2 rfl rfl rfl rfl rfl ?_
                    refine Rj_aload_n (q := 1) d_M_canPass_0 rfl rfl rfl ?_
                    refine Rj_gr (q := 4) (zd := 11) gM_M_42_0 rfl rfl d_M_canPass_1 rfl ?_
                    refine Rj_iconst (q := 5) d_M_canPass_4 rfl ?_
                    refine Rj_ia (q := 6) (v := ν 11 0) aM_11 rfl (by decide) rfl d_M_canPass_5 rfl ?_
                    refine Rj_if_le (q := 9) (t := 21) d_M_canPass_6 rfl (by decide) (by first | assumption | exact ⟨by omega, by omega⟩) (fun c2_6 => ?_) (fun c2_6 => ?_)
                    · refine Rj_iconst (q := 22) d_M_canPass_21 rfl ?_
                      refine Rj_bret0 d_M_canPass_22 rfl ?_
                      refine Rj_if_eq (q := 8) (t := 45) d_M_drawn_5 rfl (by decide) (by decide) (fun _ => ?_) (fun c => absurd c (by decide))
                      refine Rj_iconst (q := 46) d_M_drawn_45 rfl ?_
                      refine Rj_iret d_M_drawn_46 rfl ?_
                      exact ⟨sm_I rfl, hC1, kp0 _, kq0 _⟩
                    · refine Rj_aload_n (q := 10) d_M_canPass_9 rfl rfl rfl ?_
                      refine Rj_iload_n (q := 11) d_M_canPass_10 rfl rfl rfl ?_
                      refine Rj_vo (q := 14) (z := y_M_isRule) (as := [vI a]) (rest := []) (la := [vA 0, vI a]) oM_0_M_isRule ml_M_486 mw_M_isRule mv_M_isRule rfl d_M_canPass_11 rfl rfl rfl rfl rfl ?_
                      refine Rj_iload_n (q := 1) d_M_isRule_0 rfl rfl rfl ?_
                      refine Rj_if_lt (q := 4) (t := 16) d_M_isRule_1 rfl (by decide) (by first | assumption | exact ⟨by omega, by omega⟩) (fun c2_11_1 => ?_) (fun c2_11_1 => ?_)
                      · refine Rj_iconst (q := 17) d_M_isRule_16 rfl ?_
                        refine Rj_bret0 d_M_isRule_17 rfl ?_
                        refine Rj_if_eq (q := 17) (t := 21) d_M_canPass_14 rfl (by decide) (by decide) (fun _ => ?_) (fun c => absurd c (by decide))
                        refine Rj_iconst (q := 22) d_M_canPass_21 rfl ?_
                        refine Rj_bret0 d_M_canPass_22 rfl ?_
                        refine Rj_if_eq (q := 8) (t := 45) d_M_drawn_5 rfl (by decide) (by decide) (fun _ => ?_) (fun c => absurd c (by decide))
                        refine Rj_iconst (q := 46) d_M_drawn_45 rfl ?_
                        refine Rj_iret d_M_drawn_46 rfl ?_
                        exact ⟨sm_I rfl, hC1, kp0 _, kq0 _⟩
                      · refine Rj_iload_n (q := 5) d_M_isRule_4 rfl rfl rfl ?_
                        refine Rj_aload_n (q := 6) d_M_isRule_5 rfl rfl rfl ?_
                        refine Rj_gi (q := 9) (ki := 2) (v := ν 0 2) gM_M_273_0 rfl rfl rfl d_M_isRule_6 rfl ?_
                        refine Rj_icmp_ge (q := 12) (t := 16) d_M_isRule_9 rfl (by decide) (by first | assumption | exact ⟨by omega, by omega⟩) (by first | assumption | exact ⟨by omega, by omega⟩) (fun c2_11_9 => ?_) (fun c2_11_9 => ?_)
                        · refine Rj_iconst (q := 17) d_M_isRule_16 rfl ?_
                          refine Rj_bret0 d_M_isRule_17 rfl ?_
                          refine Rj_if_eq (q := 17) (t := 21) d_M_canPass_14 rfl (by decide) (by decide) (fun _ => ?_) (fun c => absurd c (by decide))
                          refine Rj_iconst (q := 22) d_M_canPass_21 rfl ?_
                          refine Rj_bret0 d_M_canPass_22 rfl ?_
                          refine Rj_if_eq (q := 8) (t := 45) d_M_drawn_5 rfl (by decide) (by decide) (fun _ => ?_) (fun c => absurd c (by decide))
                          refine Rj_iconst (q := 46) d_M_drawn_45 rfl ?_
                          refine Rj_iret d_M_drawn_46 rfl ?_
                          exact ⟨sm_I rfl, hC1, kp0 _, kq0 _⟩
                        · refine Rj_iconst (q := 13) d_M_isRule_12 rfl ?_
                          refine Rj_goto (t := 17) d_M_isRule_13 (by decide) ?_
                          refine Rj_bret1 d_M_isRule_17 rfl ?_
                          refine Rj_if_eq (q := 17) (t := 21) d_M_canPass_14 rfl (by decide) (by decide) (fun c => absurd c (by decide)) (fun _ => ?_)
                          refine Rj_iconst (q := 18) d_M_canPass_17 rfl ?_
                          refine Rj_goto (t := 22) d_M_canPass_18 (by decide) ?_
                          refine Rj_bret1 d_M_canPass_22 rfl ?_
                          refine Rj_if_eq (q := 8) (t := 45) d_M_drawn_5 rfl (by decide) (by decide) (fun c => absurd c (by decide)) (fun _ => ?_)
                          refine Rj_iload_n (q := 9) d_M_drawn_8 rfl rfl rfl ?_
                          refine Rj_i2l (q := 10) d_M_drawn_9 rfl (by first | assumption | exact ⟨by omega, by omega⟩) ?_
                          refine Rj_lconst (q := 11) (z := 1) d_M_drawn_10 rfl rfl ?_
                          refine Rj_ldc2 (q := 14) k_M_503 d_M_drawn_11 rfl ?_
                          refine Rj_cs (q := 17) (z := y_M_in) (as := [vL b, vL 1, vL 20]) (rest := []) (la := [vL b, vU, vL 1, vU, vL 20, vU]) ml_M_138 mw_M_in ms_M_in d_M_drawn_14 rfl rfl rfl rfl rfl ?_
                          refine s_M_in ⟨by omega, by omega⟩ (by decide) (by decide) ?_
                          refine Rj_b_eq (q := 20) (t := 45) d_M_drawn_17 rfl (by decide) (fun c17 => ?_) (fun c17 => ?_)
                          · have c17 := of_decide_eq_false c17
                            refine Rj_iconst (q := 46) d_M_drawn_45 rfl ?_
                            refine Rj_iret d_M_drawn_46 rfl ?_
                            exact ⟨sm_I rfl, hC1, kp0 _, kq0 _⟩
                          · have c17 := of_decide_eq_true c17
                            refine Rj_iload_n (q := 21) d_M_drawn_20 rfl rfl rfl ?_
                            refine Rj_i2l (q := 22) d_M_drawn_21 rfl (by first | assumption | exact ⟨by omega, by omega⟩) ?_
                            refine Rj_lconst (q := 23) (z := 1) d_M_drawn_22 rfl rfl ?_
                            refine Rj_ldc2 (q := 26) k_M_374 d_M_drawn_23 rfl ?_
                            refine Rj_cs (q := 29) (z := y_M_in) (as := [vL c, vL 1, vL 60]) (rest := []) (la := [vL c, vU, vL 1, vU, vL 60, vU]) ml_M_138 mw_M_in ms_M_in d_M_drawn_26 rfl rfl rfl rfl rfl ?_
                            refine s_M_in ⟨by omega, by omega⟩ (by decide) (by decide) ?_
                            refine Rj_b_eq (q := 32) (t := 45) d_M_drawn_29 rfl (by decide) (fun c29 => ?_) (fun c29 => ?_)
                            · have c29 := of_decide_eq_false c29
                              refine Rj_iconst (q := 46) d_M_drawn_45 rfl ?_
                              refine Rj_iret d_M_drawn_46 rfl ?_
                              exact ⟨sm_I rfl, hC1, kp0 _, kq0 _⟩
                            · have c29 := of_decide_eq_true c29
                              refine Rj_iload (q := 34) d_M_drawn_32 rfl rfl ?_
                              refine Rj_i2l (q := 35) d_M_drawn_34 rfl (by first | assumption | exact ⟨by omega, by omega⟩) ?_
                              refine Rj_lconst (q := 36) (z := 0) d_M_drawn_35 rfl rfl ?_
                              refine Rj_ldc2 (q := 39) k_M_341 d_M_drawn_36 rfl ?_
                              refine Rj_cs (q := 42) (z := y_M_in) (as := [vL d, vL 0, vL 2]) (rest := []) (la := [vL d, vU, vL 0, vU, vL 2, vU]) ml_M_138 mw_M_in ms_M_in d_M_drawn_39 rfl rfl rfl rfl rfl ?_
                              refine s_M_in ⟨by omega, by omega⟩ (by decide) (by decide) ?_
                              refine Rj_b_ne (q := 45) (t := 47) d_M_drawn_42 rfl (by decide) (fun c42 => ?_) (fun c42 => ?_)
                              · have c42 := of_decide_eq_true c42
                                refine Rj_aload_n (q := 48) d_M_drawn_47 rfl rfl rfl ?_
                                refine Rj_vov (q := 51) (z := y_M_keeps) (as := []) (rest := []) (la := [vA 0]) oM_0_M_keeps ml_M_497 mw_M_keeps mv_M_keeps rfl d_M_drawn_48 rfl rfl rfl rfl rfl ?_
                                exfalso; omega
                              · have c42 := of_decide_eq_false c42
                                refine Rj_iconst (q := 46) d_M_drawn_45 rfl ?_
                                refine Rj_iret d_M_drawn_46 rfl ?_
                                exact ⟨sm_I rfl, hC1, kp0 _, kq0 _⟩
          · refine Rj_iconst (q := 20) d_D_drawn_19 rfl ?_
            refine Rj_iret d_D_drawn_20 rfl ?_
            refine Rj_aload_n (q := 1) d_M_drawn_0 rfl rfl rfl ?_
            refine Rj_iload_n (q := 2) d_M_drawn_1 rfl rfl rfl ?_
            refine Rj_vo (q := 5) (z := y_M_canPass) (as := [vI a]) (rest := []) (la := [vA 0, vI a]) oM_0_M_canPass ml_M_489 mw_M_canPass mv_M_canPass rfl d_M_drawn_2 rfl rfl rfl rfl rfl ?_
            refine Rj_aload_n (q := 1) d_M_canPass_0 rfl rfl rfl ?_
            refine Rj_gr (q := 4) (zd := 11) gM_M_42_0 rfl rfl d_M_canPass_1 rfl ?_
            refine Rj_iconst (q := 5) d_M_canPass_4 rfl ?_
            refine Rj_ia (q := 6) (v := ν 11 0) aM_11 rfl (by decide) rfl d_M_canPass_5 rfl ?_
            refine Rj_if_le (q := 9) (t := 21) d_M_canPass_6 rfl (by decide) (by first | assumption | exact ⟨by omega, by omega⟩) (fun c2_6 => ?_) (fun c2_6 => ?_)
            · refine Rj_iconst (q := 22) d_M_canPass_21 rfl ?_
              refine Rj_bret0 d_M_canPass_22 rfl ?_
              refine Rj_if_eq (q := 8) (t := 45) d_M_drawn_5 rfl (by decide) (by decide) (fun _ => ?_) (fun c => absurd c (by decide))
              refine Rj_iconst (q := 46) d_M_drawn_45 rfl ?_
              refine Rj_iret d_M_drawn_46 rfl ?_
              exact ⟨sm_I rfl, hC1, kp0 _, kq0 _⟩
            · refine Rj_aload_n (q := 10) d_M_canPass_9 rfl rfl rfl ?_
              refine Rj_iload_n (q := 11) d_M_canPass_10 rfl rfl rfl ?_
              refine Rj_vo (q := 14) (z := y_M_isRule) (as := [vI a]) (rest := []) (la := [vA 0, vI a]) oM_0_M_isRule ml_M_486 mw_M_isRule mv_M_isRule rfl d_M_canPass_11 rfl rfl rfl rfl rfl ?_
              refine Rj_iload_n (q := 1) d_M_isRule_0 rfl rfl rfl ?_
              refine Rj_if_lt (q := 4) (t := 16) d_M_isRule_1 rfl (by decide) (by first | assumption | exact ⟨by omega, by omega⟩) (fun c2_11_1 => ?_) (fun c2_11_1 => ?_)
              · refine Rj_iconst (q := 17) d_M_isRule_16 rfl ?_
                refine Rj_bret0 d_M_isRule_17 rfl ?_
                refine Rj_if_eq (q := 17) (t := 21) d_M_canPass_14 rfl (by decide) (by decide) (fun _ => ?_) (fun c => absurd c (by decide))
                refine Rj_iconst (q := 22) d_M_canPass_21 rfl ?_
                refine Rj_bret0 d_M_canPass_22 rfl ?_
                refine Rj_if_eq (q := 8) (t := 45) d_M_drawn_5 rfl (by decide) (by decide) (fun _ => ?_) (fun c => absurd c (by decide))
                refine Rj_iconst (q := 46) d_M_drawn_45 rfl ?_
                refine Rj_iret d_M_drawn_46 rfl ?_
                exact ⟨sm_I rfl, hC1, kp0 _, kq0 _⟩
              · refine Rj_iload_n (q := 5) d_M_isRule_4 rfl rfl rfl ?_
                refine Rj_aload_n (q := 6) d_M_isRule_5 rfl rfl rfl ?_
                refine Rj_gi (q := 9) (ki := 2) (v := ν 0 2) gM_M_273_0 rfl rfl rfl d_M_isRule_6 rfl ?_
                refine Rj_icmp_ge (q := 12) (t := 16) d_M_isRule_9 rfl (by decide) (by first | assumption | exact ⟨by omega, by omega⟩) (by first | assumption | exact ⟨by omega, by omega⟩) (fun c2_11_9 => ?_) (fun c2_11_9 => ?_)
                · refine Rj_iconst (q := 17) d_M_isRule_16 rfl ?_
                  refine Rj_bret0 d_M_isRule_17 rfl ?_
                  refine Rj_if_eq (q := 17) (t := 21) d_M_canPass_14 rfl (by decide) (by decide) (fun _ => ?_) (fun c => absurd c (by decide))
                  refine Rj_iconst (q := 22) d_M_canPass_21 rfl ?_
                  refine Rj_bret0 d_M_canPass_22 rfl ?_
                  refine Rj_if_eq (q := 8) (t := 45) d_M_drawn_5 rfl (by decide) (by decide) (fun _ => ?_) (fun c => absurd c (by decide))
                  refine Rj_iconst (q := 46) d_M_drawn_45 rfl ?_
                  refine Rj_iret d_M_drawn_46 rfl ?_
                  exact ⟨sm_I rfl, hC1, kp0 _, kq0 _⟩
                · refine Rj_iconst (q := 13) d_M_isRule_12 rfl ?_
                  refine Rj_goto (t := 17) d_M_isRule_13 (by decide) ?_
                  refine Rj_bret1 d_M_isRule_17 rfl ?_
                  refine Rj_if_eq (q := 17) (t := 21) d_M_canPass_14 rfl (by decide) (by decide) (fun c => absurd c (by decide)) (fun _ => ?_)
                  refine Rj_iconst (q := 18) d_M_canPass_17 rfl ?_
                  refine Rj_goto (t := 22) d_M_canPass_18 (by decide) ?_
                  refine Rj_bret1 d_M_canPass_22 rfl ?_
                  refine Rj_if_eq (q := 8) (t := 45) d_M_drawn_5 rfl (by decide) (by decide) (fun c => absurd c (by decide)) (fun _ => ?_)
                  refine Rj_iload_n (q := 9) d_M_drawn_8 rfl rfl rfl ?_
                  refine Rj_i2l (q := 10) d_M_drawn_9 rfl (by first | assumption | exact ⟨by omega, by omega⟩) ?_
                  refine Rj_lconst (q := 11) (z := 1) d_M_drawn_10 rfl rfl ?_
                  refine Rj_ldc2 (q := 14) k_M_503 d_M_drawn_11 rfl ?_
                  refine Rj_cs (q := 17) (z := y_M_in) (as := [vL b, vL 1, vL 20]) (rest := []) (la := [vL b, vU, vL 1, vU, vL 20, vU]) ml_M_138 mw_M_in ms_M_in d_M_drawn_14 rfl rfl rfl rfl rfl ?_
                  refine s_M_in ⟨by omega, by omega⟩ (by decide) (by decide) ?_
                  refine Rj_b_eq (q := 20) (t := 45) d_M_drawn_17 rfl (by decide) (fun c17 => ?_) (fun c17 => ?_)
                  · have c17 := of_decide_eq_false c17
                    refine Rj_iconst (q := 46) d_M_drawn_45 rfl ?_
                    refine Rj_iret d_M_drawn_46 rfl ?_
                    exact ⟨sm_I rfl, hC1, kp0 _, kq0 _⟩
                  · have c17 := of_decide_eq_true c17
                    refine Rj_iload_n (q := 21) d_M_drawn_20 rfl rfl rfl ?_
                    refine Rj_i2l (q := 22) d_M_drawn_21 rfl (by first | assumption | exact ⟨by omega, by omega⟩) ?_
                    refine Rj_lconst (q := 23) (z := 1) d_M_drawn_22 rfl rfl ?_
                    refine Rj_ldc2 (q := 26) k_M_374 d_M_drawn_23 rfl ?_
                    refine Rj_cs (q := 29) (z := y_M_in) (as := [vL c, vL 1, vL 60]) (rest := []) (la := [vL c, vU, vL 1, vU, vL 60, vU]) ml_M_138 mw_M_in ms_M_in d_M_drawn_26 rfl rfl rfl rfl rfl ?_
                    refine s_M_in ⟨by omega, by omega⟩ (by decide) (by decide) ?_
                    refine Rj_b_eq (q := 32) (t := 45) d_M_drawn_29 rfl (by decide) (fun c29 => ?_) (fun c29 => ?_)
                    · have c29 := of_decide_eq_false c29
                      refine Rj_iconst (q := 46) d_M_drawn_45 rfl ?_
                      refine Rj_iret d_M_drawn_46 rfl ?_
                      exact ⟨sm_I rfl, hC1, kp0 _, kq0 _⟩
                    · have c29 := of_decide_eq_true c29
                      refine Rj_iload (q := 34) d_M_drawn_32 rfl rfl ?_
                      refine Rj_i2l (q := 35) d_M_drawn_34 rfl (by first | assumption | exact ⟨by omega, by omega⟩) ?_
                      refine Rj_lconst (q := 36) (z := 0) d_M_drawn_35 rfl rfl ?_
                      refine Rj_ldc2 (q := 39) k_M_341 d_M_drawn_36 rfl ?_
                      refine Rj_cs (q := 42) (z := y_M_in) (as := [vL d, vL 0, vL 2]) (rest := []) (la := [vL d, vU, vL 0, vU, vL 2, vU]) ml_M_138 mw_M_in ms_M_in d_M_drawn_39 rfl rfl rfl rfl rfl ?_
                      refine s_M_in ⟨by omega, by omega⟩ (by decide) (by decide) ?_
                      refine Rj_b_ne (q := 45) (t := 47) d_M_drawn_42 rfl (by decide) (fun c42 => ?_) (fun c42 => ?_)
                      · have c42 := of_decide_eq_true c42
                        refine Rj_aload_n (q := 48) d_M_drawn_47 rfl rfl rfl ?_
                        refine Rj_vov (q := 51) (z := y_M_keeps) (as := []) (rest := []) (la := [vA 0]) oM_0_M_keeps ml_M_497 mw_M_keeps mv_M_keeps rfl d_M_drawn_48 rfl rfl rfl rfl rfl ?_
                        exfalso; omega
                      · have c42 := of_decide_eq_false c42
                        refine Rj_iconst (q := 46) d_M_drawn_45 rfl ?_
                        refine Rj_iret d_M_drawn_46 rfl ?_
                        exact ⟨sm_I rfl, hC1, kp0 _, kq0 _⟩
