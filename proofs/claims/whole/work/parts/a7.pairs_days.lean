theorem oD_0_D_isDayBy : OI YD 0 y_D_isDayBy := ⟨by decide, _, _, _, cD_0, rfl⟩
theorem oM_0_M_canPass : OI YM 0 y_M_canPass := ⟨by decide, _, _, _, cM_0, rfl⟩
theorem oM_0_M_isRule : OI YM 0 y_M_isRule := ⟨by decide, _, _, _, cM_0, rfl⟩
theorem oM_0_M_passesDay : OI YM 0 y_M_passesDay := ⟨by decide, _, _, _, cM_0, rfl⟩
theorem gD_D_279_86 : GI YD "DoorsOnCogs" 279 86 2 none := ⟨by decide, _, _, _, fl_D_279, cD_86, by decide, rfl⟩
theorem oM_0_M_keeps : OI YM 0 y_M_keeps := ⟨by decide, _, _, _, cM_0, rfl⟩
theorem oD_0_D_imagineDay : OI YD 0 y_D_imagineDay := ⟨by decide, _, _, _, cD_0, rfl⟩
theorem oD_86_Di_tally : OI YD 86 y_Di_tally := ⟨by decide, _, _, _, cD_86, rfl⟩
theorem oM_0_M_putsBack : OI YM 0 y_M_putsBack := ⟨by decide, _, _, _, cM_0, rfl⟩
theorem gD_D_291_86 : GI YD "DoorsOnCogs" 291 86 5 (some (some 87)) := ⟨by decide, _, _, _, fl_D_291, cD_86, by decide, rfl⟩
/-! pairs of calls: day, would, worn -/
theorem RULs.at {μ ν : Mem} (h : RULs μ ν) {r : Int} (r0 : 0 ≤ r) (r1 : r < ν 0 2) : ∃ D : List CLS, RCL μ r (ν 0 2) D ∧ RML ν r D := by
  obtain ⟨a, b, c⟩ := h
  obtain ⟨D, ⟨h1, h2, h3⟩, ⟨h4, h5, h6, h7⟩, h8⟩ := c r r0 r1
  have l := flM_le D
  exact ⟨D, ⟨⟨r0, r1⟩, b, a.2, h1, h2, h3, h8⟩, ⟨⟨r0, by omega⟩, h5, h6, h7, h4, by omega, h8⟩⟩
theorem RML.kp {μ ν : Mem} {r : Int} {D : List CLS} (h : RML μ r D) (e4 : ν 4 = μ 4) (e5 : ν 5 = μ 5) (e2 : ν 2 = μ 2) : RML ν r D := by
  unfold RML; rw [e4, e5, e2]; exact h
theorem sc_le {x P w m : Int} (hm : 0 < m) (hP : m ≤ P) (hw : 0 ≤ w) (h : x * P = w * m) : 0 ≤ x ∧ x ≤ w := by
  have p0 : 0 < P := by omega
  constructor
  · refine Int.le_of_mul_le_mul_right (a := P) ?_ p0
    rw [Int.zero_mul, h]
    exact Int.mul_nonneg hw (by omega)
  · refine Int.le_of_mul_le_mul_right (a := P) ?_ p0
    rw [h]
    exact Int.mul_le_mul_of_nonneg_left hP hw
set_option maxHeartbeats 8000000 in
theorem C_day {n : Nat} {μ ν : Mem} {a : Int} (hC : Cor n μ ν) (hn : n ≤ 511) (ha : i32 a) (hR : RULs μ ν)  : Rj YD y_D_day 0 [vA 0, vI a] [] μ (fun r μ' => Rj YM y_M_day 0 [vA 0, vI a] [] ν (fun r' ν' => Sm 1 r' r ∧ Cor (n + 1) μ' ν' ∧ Kp μ μ' ∧ Kq ν ν')) := by
  obtain ⟨hTP, hK, hSc, h, hM, hSB, hBK, hIM⟩ := id hC
  have hC1 := hC.next
  obtain ⟨z0, z1, z2, z3, z4, z5, z6, z7⟩ := h.z
  obtain ⟨hS, hH, hP, hB, hFx⟩ := id hM
  have hD := z0
  have hJ := z1
  have r02 := hR.1
  refine Rj_aload_n (q := 1) d_D_day_0 rfl rfl rfl ?_
  refine Rj_iload_n (q := 2) d_D_day_1 rfl rfl rfl ?_
  refine Rj_vo (q := 5) (z := y_D_isDayBy) (as := [vI a]) (rest := []) (la := [vA 0, vI a]) oD_0_D_isDayBy ml_D_269 mw_D_isDayBy mv_D_isDayBy rfl d_D_day_2 rfl rfl rfl rfl rfl ?_
  refine Rj_aload_n (q := 1) d_D_isDayBy_0 rfl rfl rfl ?_
  refine Rj_gr (q := 4) (zd := 3) gD_D_25_0 rfl rfl d_D_isDayBy_1 rfl ?_
  refine Rj_gi (q := 7) (ki := 0) (v := ν 11 0) gD_D_130_3 rfl rfl z2 d_D_isDayBy_4 rfl ?_
  refine Rj_if_le (q := 10) (t := 29) d_D_isDayBy_7 rfl (by decide) (by first | assumption | exact ⟨by omega, by omega⟩) (fun c2_7 => ?_) (fun c2_7 => ?_)
  · refine Rj_iconst (q := 30) d_D_isDayBy_29 rfl ?_
    refine Rj_bret0 d_D_isDayBy_30 rfl ?_
    refine Rj_if_ne (q := 8) (t := 10) d_D_day_5 rfl (by decide) (by decide) (fun c => absurd c (by decide)) (fun _ => ?_)
    refine Rj_iconst (q := 9) d_D_day_8 rfl ?_
    refine Rj_iret d_D_day_9 rfl ?_
    refine Rj_aload_n (q := 1) d_M_day_0 rfl rfl rfl ?_
    refine Rj_iload_n (q := 2) d_M_day_1 rfl rfl rfl ?_
    refine Rj_vo (q := 5) (z := y_M_canPass) (as := [vI a]) (rest := []) (la := [vA 0, vI a]) oM_0_M_canPass ml_M_489 mw_M_canPass mv_M_canPass rfl d_M_day_2 rfl rfl rfl rfl rfl ?_
    refine Rj_aload_n (q := 1) d_M_canPass_0 rfl rfl rfl ?_
    refine Rj_gr (q := 4) (zd := 11) gM_M_42_0 rfl rfl d_M_canPass_1 rfl ?_
    refine Rj_iconst (q := 5) d_M_canPass_4 rfl ?_
    refine Rj_ia (q := 6) (v := ν 11 0) aM_11 rfl (by decide) rfl d_M_canPass_5 rfl ?_
    refine Rj_if_le (q := 9) (t := 21) d_M_canPass_6 rfl (by decide) (by first | assumption | exact ⟨by omega, by omega⟩) (fun c2_6 => ?_) (fun c2_6 => ?_)
    · refine Rj_iconst (q := 22) d_M_canPass_21 rfl ?_
      refine Rj_bret0 d_M_canPass_22 rfl ?_
      refine Rj_if_ne (q := 8) (t := 10) d_M_day_5 rfl (by decide) (by decide) (fun c => absurd c (by decide)) (fun _ => ?_)
      refine Rj_iconst (q := 9) d_M_day_8 rfl ?_
      refine Rj_iret d_M_day_9 rfl ?_
      exact ⟨sm_I rfl, hC1, kp0 _, kq0 _⟩
    · refine Rj_aload_n (q := 10) d_M_canPass_9 rfl rfl rfl ?_
      refine Rj_iload_n (q := 11) d_M_canPass_10 rfl rfl rfl ?_
      refine Rj_vo (q := 14) (z := y_M_isRule) (as := [vI a]) (rest := []) (la := [vA 0, vI a]) oM_0_M_isRule ml_M_486 mw_M_isRule mv_M_isRule rfl d_M_canPass_11 rfl rfl rfl rfl rfl ?_
      refine Rj_iload_n (q := 1) d_M_isRule_0 rfl rfl rfl ?_
      refine Rj_if_lt (q := 4) (t := 16) d_M_isRule_1 rfl (by decide) (by first | assumption | exact ⟨by omega, by omega⟩) (fun c2_11_1 => ?_) (fun c2_11_1 => ?_)
      · refine Rj_iconst (q := 17) d_M_isRule_16 rfl ?_
        refine Rj_bret0 d_M_isRule_17 rfl ?_
        refine Rj_if_eq (q := 17) (t := 21) d_M_canPass_14 rfl (by decide) (by decide) (fun _ => ?_) (fun c => absurd c (by decide))
        refine Rj_iconst (q := 22) d_M_canPass_21 rfl ?_
        refine Rj_bret0 d_M_canPass_22 rfl ?_
        refine Rj_if_ne (q := 8) (t := 10) d_M_day_5 rfl (by decide) (by decide) (fun c => absurd c (by decide)) (fun _ => ?_)
        refine Rj_iconst (q := 9) d_M_day_8 rfl ?_
        refine Rj_iret d_M_day_9 rfl ?_
        exact ⟨sm_I rfl, hC1, kp0 _, kq0 _⟩
      · refine Rj_iload_n (q := 5) d_M_isRule_4 rfl rfl rfl ?_
        refine Rj_aload_n (q := 6) d_M_isRule_5 rfl rfl rfl ?_
        refine Rj_gi (q := 9) (ki := 2) (v := ν 0 2) gM_M_273_0 rfl rfl rfl d_M_isRule_6 rfl ?_
        refine Rj_icmp_ge (q := 12) (t := 16) d_M_isRule_9 rfl (by decide) (by first | assumption | exact ⟨by omega, by omega⟩) (by first | assumption | exact ⟨by omega, by omega⟩) (fun c2_11_9 => ?_) (fun c2_11_9 => ?_)
        · refine Rj_iconst (q := 17) d_M_isRule_16 rfl ?_
          refine Rj_bret0 d_M_isRule_17 rfl ?_
          refine Rj_if_eq (q := 17) (t := 21) d_M_canPass_14 rfl (by decide) (by decide) (fun _ => ?_) (fun c => absurd c (by decide))
          refine Rj_iconst (q := 22) d_M_canPass_21 rfl ?_
          refine Rj_bret0 d_M_canPass_22 rfl ?_
          refine Rj_if_ne (q := 8) (t := 10) d_M_day_5 rfl (by decide) (by decide) (fun c => absurd c (by decide)) (fun _ => ?_)
          refine Rj_iconst (q := 9) d_M_day_8 rfl ?_
          refine Rj_iret d_M_day_9 rfl ?_
          exact ⟨sm_I rfl, hC1, kp0 _, kq0 _⟩
        · refine Rj_iconst (q := 13) d_M_isRule_12 rfl ?_
          refine Rj_goto (t := 17) d_M_isRule_13 (by decide) ?_
          refine Rj_bret1 d_M_isRule_17 rfl ?_
          refine Rj_if_eq (q := 17) (t := 21) d_M_canPass_14 rfl (by decide) (by decide) (fun c => absurd c (by decide)) (fun _ => ?_)
          refine Rj_iconst (q := 18) d_M_canPass_17 rfl ?_
          refine Rj_goto (t := 22) d_M_canPass_18 (by decide) ?_
          refine Rj_bret1 d_M_canPass_22 rfl ?_
          refine Rj_if_ne (q := 8) (t := 10) d_M_day_5 rfl (by decide) (by decide) (fun _ => ?_) (fun c => absurd c (by decide))
          refine Rj_aload_n (q := 11) d_M_day_10 rfl rfl rfl ?_
          refine Rj_iload_n (q := 12) d_M_day_11 rfl rfl rfl ?_
          refine Rj_vov (q := 15) (z := y_M_passesDay) (as := [vI a]) (rest := []) (la := [vA 0, vI a]) oM_0_M_passesDay ml_M_492 mw_M_passesDay mv_M_passesDay rfl d_M_day_12 rfl rfl rfl rfl rfl ?_
          exfalso; omega
  · refine Rj_iload_n (q := 11) d_D_isDayBy_10 rfl rfl rfl ?_
    refine Rj_if_lt (q := 14) (t := 29) d_D_isDayBy_11 rfl (by decide) (by first | assumption | exact ⟨by omega, by omega⟩) (fun c2_11 => ?_) (fun c2_11 => ?_)
    · refine Rj_iconst (q := 30) d_D_isDayBy_29 rfl ?_
      refine Rj_bret0 d_D_isDayBy_30 rfl ?_
      refine Rj_if_ne (q := 8) (t := 10) d_D_day_5 rfl (by decide) (by decide) (fun c => absurd c (by decide)) (fun _ => ?_)
      refine Rj_iconst (q := 9) d_D_day_8 rfl ?_
      refine Rj_iret d_D_day_9 rfl ?_
      refine Rj_aload_n (q := 1) d_M_day_0 rfl rfl rfl ?_
      refine Rj_iload_n (q := 2) d_M_day_1 rfl rfl rfl ?_
      refine Rj_vo (q := 5) (z := y_M_canPass) (as := [vI a]) (rest := []) (la := [vA 0, vI a]) oM_0_M_canPass ml_M_489 mw_M_canPass mv_M_canPass rfl d_M_day_2 rfl rfl rfl rfl rfl ?_
      refine Rj_aload_n (q := 1) d_M_canPass_0 rfl rfl rfl ?_
      refine Rj_gr (q := 4) (zd := 11) gM_M_42_0 rfl rfl d_M_canPass_1 rfl ?_
      refine Rj_iconst (q := 5) d_M_canPass_4 rfl ?_
      refine Rj_ia (q := 6) (v := ν 11 0) aM_11 rfl (by decide) rfl d_M_canPass_5 rfl ?_
      refine Rj_if_le (q := 9) (t := 21) d_M_canPass_6 rfl (by decide) (by first | assumption | exact ⟨by omega, by omega⟩) (fun c2_6 => ?_) (fun c2_6 => ?_)
      · refine Rj_iconst (q := 22) d_M_canPass_21 rfl ?_
        refine Rj_bret0 d_M_canPass_22 rfl ?_
        refine Rj_if_ne (q := 8) (t := 10) d_M_day_5 rfl (by decide) (by decide) (fun c => absurd c (by decide)) (fun _ => ?_)
        refine Rj_iconst (q := 9) d_M_day_8 rfl ?_
        refine Rj_iret d_M_day_9 rfl ?_
        exact ⟨sm_I rfl, hC1, kp0 _, kq0 _⟩
      · refine Rj_aload_n (q := 10) d_M_canPass_9 rfl rfl rfl ?_
        refine Rj_iload_n (q := 11) d_M_canPass_10 rfl rfl rfl ?_
        refine Rj_vo (q := 14) (z := y_M_isRule) (as := [vI a]) (rest := []) (la := [vA 0, vI a]) oM_0_M_isRule ml_M_486 mw_M_isRule mv_M_isRule rfl d_M_canPass_11 rfl rfl rfl rfl rfl ?_
        refine Rj_iload_n (q := 1) d_M_isRule_0 rfl rfl rfl ?_
        refine Rj_if_lt (q := 4) (t := 16) d_M_isRule_1 rfl (by decide) (by first | assumption | exact ⟨by omega, by omega⟩) (fun c2_11_1 => ?_) (fun c2_11_1 => ?_)
        · refine Rj_iconst (q := 17) d_M_isRule_16 rfl ?_
          refine Rj_bret0 d_M_isRule_17 rfl ?_
          refine Rj_if_eq (q := 17) (t := 21) d_M_canPass_14 rfl (by decide) (by decide) (fun _ => ?_) (fun c => absurd c (by decide))
          refine Rj_iconst (q := 22) d_M_canPass_21 rfl ?_
          refine Rj_bret0 d_M_canPass_22 rfl ?_
          refine Rj_if_ne (q := 8) (t := 10) d_M_day_5 rfl (by decide) (by decide) (fun c => absurd c (by decide)) (fun _ => ?_)
          refine Rj_iconst (q := 9) d_M_day_8 rfl ?_
          refine Rj_iret d_M_day_9 rfl ?_
          exact ⟨sm_I rfl, hC1, kp0 _, kq0 _⟩
        · refine Rj_iload_n (q := 5) d_M_isRule_4 rfl rfl rfl ?_
          refine Rj_aload_n (q := 6) d_M_isRule_5 rfl rfl rfl ?_
          refine Rj_gi (q := 9) (ki := 2) (v := ν 0 2) gM_M_273_0 rfl rfl rfl d_M_isRule_6 rfl ?_
          refine Rj_icmp_ge (q := 12) (t := 16) d_M_isRule_9 rfl (by decide) (by first | assumption | exact ⟨by omega, by omega⟩) (by first | assumption | exact ⟨by omega, by omega⟩) (fun c2_11_9 => ?_) (fun c2_11_9 => ?_)
          · refine Rj_iconst (q := 17) d_M_isRule_16 rfl ?_
            refine Rj_bret0 d_M_isRule_17 rfl ?_
            refine Rj_if_eq (q := 17) (t := 21) d_M_canPass_14 rfl (by decide) (by decide) (fun _ => ?_) (fun c => absurd c (by decide))
            refine Rj_iconst (q := 22) d_M_canPass_21 rfl ?_
            refine Rj_bret0 d_M_canPass_22 rfl ?_
            refine Rj_if_ne (q := 8) (t := 10) d_M_day_5 rfl (by decide) (by decide) (fun c => absurd c (by decide)) (fun _ => ?_)
            refine Rj_iconst (q := 9) d_M_day_8 rfl ?_
            refine Rj_iret d_M_day_9 rfl ?_
            exact ⟨sm_I rfl, hC1, kp0 _, kq0 _⟩
          · refine Rj_iconst (q := 13) d_M_isRule_12 rfl ?_
            refine Rj_goto (t := 17) d_M_isRule_13 (by decide) ?_
            refine Rj_bret1 d_M_isRule_17 rfl ?_
            refine Rj_if_eq (q := 17) (t := 21) d_M_canPass_14 rfl (by decide) (by decide) (fun c => absurd c (by decide)) (fun _ => ?_)
            refine Rj_iconst (q := 18) d_M_canPass_17 rfl ?_
            refine Rj_goto (t := 22) d_M_canPass_18 (by decide) ?_
            refine Rj_bret1 d_M_canPass_22 rfl ?_
            refine Rj_if_ne (q := 8) (t := 10) d_M_day_5 rfl (by decide) (by decide) (fun _ => ?_) (fun c => absurd c (by decide))
            refine Rj_aload_n (q := 11) d_M_day_10 rfl rfl rfl ?_
            refine Rj_iload_n (q := 12) d_M_day_11 rfl rfl rfl ?_
            refine Rj_vov (q := 15) (z := y_M_passesDay) (as := [vI a]) (rest := []) (la := [vA 0, vI a]) oM_0_M_passesDay ml_M_492 mw_M_passesDay mv_M_passesDay rfl d_M_day_12 rfl rfl rfl rfl rfl ?_
            exfalso; omega
    · refine Rj_iload_n (q := 15) d_D_isDayBy_14 rfl rfl rfl ?_
      refine Rj_aload_n (q := 16) d_D_isDayBy_15 rfl rfl rfl ?_
      refine Rj_gr (q := 19) (zd := 79) gD_D_70_0 rfl rfl d_D_isDayBy_16 rfl ?_
      refine Rj_gi (q := 22) (ki := 1) (v := ν 0 2) gD_D_133_79 rfl rfl hR.2.1 d_D_isDayBy_19 rfl ?_
      refine Rj_icmp_ge (q := 25) (t := 29) d_D_isDayBy_22 rfl (by decide) (by first | assumption | exact ⟨by omega, by omega⟩) (by first | assumption | exact ⟨by omega, by omega⟩) (fun c2_22 => ?_) (fun c2_22 => ?_)
      · refine Rj_iconst (q := 30) d_D_isDayBy_29 rfl ?_
        refine Rj_bret0 d_D_isDayBy_30 rfl ?_
        refine Rj_if_ne (q := 8) (t := 10) d_D_day_5 rfl (by decide) (by decide) (fun c => absurd c (by decide)) (fun _ => ?_)
        refine Rj_iconst (q := 9) d_D_day_8 rfl ?_
        refine Rj_iret d_D_day_9 rfl ?_
        refine Rj_aload_n (q := 1) d_M_day_0 rfl rfl rfl ?_
        refine Rj_iload_n (q := 2) d_M_day_1 rfl rfl rfl ?_
        refine Rj_vo (q := 5) (z := y_M_canPass) (as := [vI a]) (rest := []) (la := [vA 0, vI a]) oM_0_M_canPass ml_M_489 mw_M_canPass mv_M_canPass rfl d_M_day_2 rfl rfl rfl rfl rfl ?_
        refine Rj_aload_n (q := 1) d_M_canPass_0 rfl rfl rfl ?_
        refine Rj_gr (q := 4) (zd := 11) gM_M_42_0 rfl rfl d_M_canPass_1 rfl ?_
        refine Rj_iconst (q := 5) d_M_canPass_4 rfl ?_
        refine Rj_ia (q := 6) (v := ν 11 0) aM_11 rfl (by decide) rfl d_M_canPass_5 rfl ?_
        refine Rj_if_le (q := 9) (t := 21) d_M_canPass_6 rfl (by decide) (by first | assumption | exact ⟨by omega, by omega⟩) (fun c2_6 => ?_) (fun c2_6 => ?_)
        · refine Rj_iconst (q := 22) d_M_canPass_21 rfl ?_
          refine Rj_bret0 d_M_canPass_22 rfl ?_
          refine Rj_if_ne (q := 8) (t := 10) d_M_day_5 rfl (by decide) (by decide) (fun c => absurd c (by decide)) (fun _ => ?_)
          refine Rj_iconst (q := 9) d_M_day_8 rfl ?_
          refine Rj_iret d_M_day_9 rfl ?_
          exact ⟨sm_I rfl, hC1, kp0 _, kq0 _⟩
        · refine Rj_aload_n (q := 10) d_M_canPass_9 rfl rfl rfl ?_
          refine Rj_iload_n (q := 11) d_M_canPass_10 rfl rfl rfl ?_
          refine Rj_vo (q := 14) (z := y_M_isRule) (as := [vI a]) (rest := []) (la := [vA 0, vI a]) oM_0_M_isRule ml_M_486 mw_M_isRule mv_M_isRule rfl d_M_canPass_11 rfl rfl rfl rfl rfl ?_
          refine Rj_iload_n (q := 1) d_M_isRule_0 rfl rfl rfl ?_
          refine Rj_if_lt (q := 4) (t := 16) d_M_isRule_1 rfl (by decide) (by first | assumption | exact ⟨by omega, by omega⟩) (fun c2_11_1 => ?_) (fun c2_11_1 => ?_)
          · refine Rj_iconst (q := 17) d_M_isRule_16 rfl ?_
            refine Rj_bret0 d_M_isRule_17 rfl ?_
            refine Rj_if_eq (q := 17) (t := 21) d_M_canPass_14 rfl (by decide) (by decide) (fun _ => ?_) (fun c => absurd c (by decide))
            refine Rj_iconst (q := 22) d_M_canPass_21 rfl ?_
            refine Rj_bret0 d_M_canPass_22 rfl ?_
            refine Rj_if_ne (q := 8) (t := 10) d_M_day_5 rfl (by decide) (by decide) (fun c => absurd c (by decide)) (fun _ => ?_)
            refine Rj_iconst (q := 9) d_M_day_8 rfl ?_
            refine Rj_iret d_M_day_9 rfl ?_
            exact ⟨sm_I rfl, hC1, kp0 _, kq0 _⟩
          · refine Rj_iload_n (q := 5) d_M_isRule_4 rfl rfl rfl ?_
            refine Rj_aload_n (q := 6) d_M_isRule_5 rfl rfl rfl ?_
            refine Rj_gi (q := 9) (ki := 2) (v := ν 0 2) gM_M_273_0 rfl rfl rfl d_M_isRule_6 rfl ?_
            refine Rj_icmp_ge (q := 12) (t := 16) d_M_isRule_9 rfl (by decide) (by first | assumption | exact ⟨by omega, by omega⟩) (by first | assumption | exact ⟨by omega, by omega⟩) (fun c2_11_9 => ?_) (fun c2_11_9 => ?_)
            · refine Rj_iconst (q := 17) d_M_isRule_16 rfl ?_
              refine Rj_bret0 d_M_isRule_17 rfl ?_
              refine Rj_if_eq (q := 17) (t := 21) d_M_canPass_14 rfl (by decide) (by decide) (fun _ => ?_) (fun c => absurd c (by decide))
              refine Rj_iconst (q := 22) d_M_canPass_21 rfl ?_
              refine Rj_bret0 d_M_canPass_22 rfl ?_
              refine Rj_if_ne (q := 8) (t := 10) d_M_day_5 rfl (by decide) (by decide) (fun c => absurd c (by decide)) (fun _ => ?_)
              refine Rj_iconst (q := 9) d_M_day_8 rfl ?_
              refine Rj_iret d_M_day_9 rfl ?_
              exact ⟨sm_I rfl, hC1, kp0 _, kq0 _⟩
            · refine Rj_iconst (q := 13) d_M_isRule_12 rfl ?_
              refine Rj_goto (t := 17) d_M_isRule_13 (by decide) ?_
              refine Rj_bret1 d_M_isRule_17 rfl ?_
              refine Rj_if_eq (q := 17) (t := 21) d_M_canPass_14 rfl (by decide) (by decide) (fun c => absurd c (by decide)) (fun _ => ?_)
              refine Rj_iconst (q := 18) d_M_canPass_17 rfl ?_
              refine Rj_goto (t := 22) d_M_canPass_18 (by decide) ?_
              refine Rj_bret1 d_M_canPass_22 rfl ?_
              refine Rj_if_ne (q := 8) (t := 10) d_M_day_5 rfl (by decide) (by decide) (fun _ => ?_) (fun c => absurd c (by decide))
              refine Rj_aload_n (q := 11) d_M_day_10 rfl rfl rfl ?_
              refine Rj_iload_n (q := 12) d_M_day_11 rfl rfl rfl ?_
              refine Rj_vov (q := 15) (z := y_M_passesDay) (as := [vI a]) (rest := []) (la := [vA 0, vI a]) oM_0_M_passesDay ml_M_492 mw_M_passesDay mv_M_passesDay rfl d_M_day_12 rfl rfl rfl rfl rfl ?_
              exfalso; omega
      · refine Rj_iconst (q := 26) d_D_isDayBy_25 rfl ?_
        refine Rj_goto (t := 30) d_D_isDayBy_26 (by decide) ?_
        refine Rj_bret1 d_D_isDayBy_30 rfl ?_
        refine Rj_if_ne (q := 8) (t := 10) d_D_day_5 rfl (by decide) (by decide) (fun _ => ?_) (fun c => absurd c (by decide))
        refine Rj_aload_n (q := 11) d_D_day_10 rfl rfl rfl ?_
        refine Rj_gr (q := 14) (zd := 86) gD_D_97_0 rfl rfl d_D_day_11 rfl ?_
        refine Rj_vov (q := 17) (z := y_Di_clear) (as := []) (rest := []) (la := [vA 86]) oD_86_Di_clear ml_D_272 mw_Di_clear mv_Di_clear rfl d_D_day_14 rfl rfl rfl rfl rfl ?_
        obtain ⟨D, hRc, hRm⟩ := hR.at (show 0 ≤ a by omega) (show a < ν 0 2 by omega)
        obtain ⟨-, w5, -, -⟩ := hC.w
        have w51 := w5.1
        have tI := cms_I (D := D) (g := fun j => ν 11 (94 + j)) (N := ν 11 5) (K := ((n : Int) * 112000000000000)) hS hH (fun j j0 j1 => (w5.2.2 j j0 j1).1) 61 0 0 0 (s0 (ν 12)) (by decide) (by omega) (by omega) (s0_I hBK hSB)
        refine s_diClear (fun m4 f4 a4 b4 => ?_)
        refine Rj_aload_n (q := 18) d_D_day_17 rfl rfl rfl ?_
        refine Rj_gr (q := 21) (zd := 86) gD_D_97_0 rfl rfl d_D_day_18 rfl ?_
        refine Rj_iload_n (q := 22) d_D_day_21 rfl rfl rfl ?_
        refine Rj_aload_n (q := 23) d_D_day_22 rfl rfl rfl ?_
        refine Rj_gr (q := 26) (zd := 3) gD_D_25_0 rfl rfl d_D_day_23 rfl ?_
        refine Rj_gr (q := 29) (zd := 11) gD_D_266_3 rfl rfl d_D_day_26 rfl ?_
        refine Rj_aload_n (q := 30) d_D_day_29 rfl rfl rfl ?_
        refine Rj_gr (q := 33) (zd := 3) gD_D_25_0 rfl rfl d_D_day_30 rfl ?_
        refine Rj_gi (q := 36) (ki := 14) (v := ν 11 5) gD_D_263_3 rfl rfl ((f4 3 14 (by unfold Wdc; omega)).trans w5.2.1) d_D_day_33 rfl ?_
        refine Rj_vov (q := 39) (z := y_Di_spend) (as := [vI a, vA 11, vI (ν 11 5)]) (rest := []) (la := [vA 86, vI a, vA 11, vI (ν 11 5)]) oD_86_Di_spend ml_D_275 mw_Di_spend mv_Di_spend rfl d_D_day_36 rfl rfl rfl rfl rfl ?_
        refine s_spend11 (g := fun j => ν 11 (94 + j)) (N := ν 11 5) (K := ((n : Int) * 112000000000000)) (kp := 0) (k := 0) (CDS_0 (h.fr f4 (fun c i q => by unfold gxc at q; unfold Wdc; omega)) a4 b4) (s0_I hBK hSB) (hRc.keep (f4 79 1 (by unfold Wdc; omega)) (f4.row (fun i q => by unfold Wdc at q; omega)) (f4.row (fun i q => by unfold Wdc at q; omega))) (by omega) (by omega) w5.1 (fun j j0 j1 => ⟨(f4 11 j (by unfold Wdc; omega)).trans (w5.2.2 j j0 j1).2, (w5.2.2 j j0 j1).1⟩) (fun m36 f36 c36 => ?_)
        generalize eτ : cms (ν 11) (ν 14) (ν 15) (ν 16) (ν 17) D (fun j => ν 11 (94 + j)) (ν 11 5) 61 0 (s0 (ν 12)) = τ at c36 tI
        refine Rj_aload_n (q := 40) d_D_day_39 rfl rfl rfl ?_
        refine Rj_gr (q := 43) (zd := 86) gD_D_97_0 rfl rfl d_D_day_40 rfl ?_
        refine Rj_gi (q := 46) (ki := 2) (v := τ.2.1) gD_D_279_86 rfl rfl c36.2.1.1 d_D_day_43 rfl ?_
        refine Rj_iret d_D_day_46 rfl ?_
        refine Rj_aload_n (q := 1) d_M_day_0 rfl rfl rfl ?_
        refine Rj_iload_n (q := 2) d_M_day_1 rfl rfl rfl ?_
        refine Rj_vo (q := 5) (z := y_M_canPass) (as := [vI a]) (rest := []) (la := [vA 0, vI a]) oM_0_M_canPass ml_M_489 mw_M_canPass mv_M_canPass rfl d_M_day_2 rfl rfl rfl rfl rfl ?_
        refine Rj_aload_n (q := 1) d_M_canPass_0 rfl rfl rfl ?_
        refine Rj_gr (q := 4) (zd := 11) gM_M_42_0 rfl rfl d_M_canPass_1 rfl ?_
        refine Rj_iconst (q := 5) d_M_canPass_4 rfl ?_
        refine Rj_ia (q := 6) (v := ν 11 0) aM_11 rfl (by decide) rfl d_M_canPass_5 rfl ?_
        refine Rj_if_le (q := 9) (t := 21) d_M_canPass_6 rfl (by decide) (by first | assumption | exact ⟨by omega, by omega⟩) (fun c2_6 => ?_) (fun c2_6 => ?_)
        · refine Rj_iconst (q := 22) d_M_canPass_21 rfl ?_
          refine Rj_bret0 d_M_canPass_22 rfl ?_
          refine Rj_if_ne (q := 8) (t := 10) d_M_day_5 rfl (by decide) (by decide) (fun c => absurd c (by decide)) (fun _ => ?_)
          refine Rj_iconst (q := 9) d_M_day_8 rfl ?_
          refine Rj_iret d_M_day_9 rfl ?_
          exfalso; omega
        · refine Rj_aload_n (q := 10) d_M_canPass_9 rfl rfl rfl ?_
          refine Rj_iload_n (q := 11) d_M_canPass_10 rfl rfl rfl ?_
          refine Rj_vo (q := 14) (z := y_M_isRule) (as := [vI a]) (rest := []) (la := [vA 0, vI a]) oM_0_M_isRule ml_M_486 mw_M_isRule mv_M_isRule rfl d_M_canPass_11 rfl rfl rfl rfl rfl ?_
          refine Rj_iload_n (q := 1) d_M_isRule_0 rfl rfl rfl ?_
          refine Rj_if_lt (q := 4) (t := 16) d_M_isRule_1 rfl (by decide) (by first | assumption | exact ⟨by omega, by omega⟩) (fun c2_11_1 => ?_) (fun c2_11_1 => ?_)
          · refine Rj_iconst (q := 17) d_M_isRule_16 rfl ?_
            refine Rj_bret0 d_M_isRule_17 rfl ?_
            refine Rj_if_eq (q := 17) (t := 21) d_M_canPass_14 rfl (by decide) (by decide) (fun _ => ?_) (fun c => absurd c (by decide))
            refine Rj_iconst (q := 22) d_M_canPass_21 rfl ?_
            refine Rj_bret0 d_M_canPass_22 rfl ?_
            refine Rj_if_ne (q := 8) (t := 10) d_M_day_5 rfl (by decide) (by decide) (fun c => absurd c (by decide)) (fun _ => ?_)
            refine Rj_iconst (q := 9) d_M_day_8 rfl ?_
            refine Rj_iret d_M_day_9 rfl ?_
            exfalso; omega
          · refine Rj_iload_n (q := 5) d_M_isRule_4 rfl rfl rfl ?_
            refine Rj_aload_n (q := 6) d_M_isRule_5 rfl rfl rfl ?_
            refine Rj_gi (q := 9) (ki := 2) (v := ν 0 2) gM_M_273_0 rfl rfl rfl d_M_isRule_6 rfl ?_
            refine Rj_icmp_ge (q := 12) (t := 16) d_M_isRule_9 rfl (by decide) (by first | assumption | exact ⟨by omega, by omega⟩) (by first | assumption | exact ⟨by omega, by omega⟩) (fun c2_11_9 => ?_) (fun c2_11_9 => ?_)
            · refine Rj_iconst (q := 17) d_M_isRule_16 rfl ?_
              refine Rj_bret0 d_M_isRule_17 rfl ?_
              refine Rj_if_eq (q := 17) (t := 21) d_M_canPass_14 rfl (by decide) (by decide) (fun _ => ?_) (fun c => absurd c (by decide))
              refine Rj_iconst (q := 22) d_M_canPass_21 rfl ?_
              refine Rj_bret0 d_M_canPass_22 rfl ?_
              refine Rj_if_ne (q := 8) (t := 10) d_M_day_5 rfl (by decide) (by decide) (fun c => absurd c (by decide)) (fun _ => ?_)
              refine Rj_iconst (q := 9) d_M_day_8 rfl ?_
              refine Rj_iret d_M_day_9 rfl ?_
              exfalso; omega
            · refine Rj_iconst (q := 13) d_M_isRule_12 rfl ?_
              refine Rj_goto (t := 17) d_M_isRule_13 (by decide) ?_
              refine Rj_bret1 d_M_isRule_17 rfl ?_
              refine Rj_if_eq (q := 17) (t := 21) d_M_canPass_14 rfl (by decide) (by decide) (fun c => absurd c (by decide)) (fun _ => ?_)
              refine Rj_iconst (q := 18) d_M_canPass_17 rfl ?_
              refine Rj_goto (t := 22) d_M_canPass_18 (by decide) ?_
              refine Rj_bret1 d_M_canPass_22 rfl ?_
              refine Rj_if_ne (q := 8) (t := 10) d_M_day_5 rfl (by decide) (by decide) (fun _ => ?_) (fun c => absurd c (by decide))
              refine Rj_aload_n (q := 11) d_M_day_10 rfl rfl rfl ?_
              refine Rj_iload_n (q := 12) d_M_day_11 rfl rfl rfl ?_
              refine Rj_vov (q := 15) (z := y_M_passesDay) (as := [vI a]) (rest := []) (la := [vA 0, vI a]) oM_0_M_passesDay ml_M_492 mw_M_passesDay mv_M_passesDay rfl d_M_day_12 rfl rfl rfl rfl rfl ?_
              refine s_M_passesDay (K := ((n : Int) * 112000000000000)) hM hRm hBK hSB w5.1 (fun j j0 j1 => (w5.2.2 j j0 j1).1) (by omega) (fun m12 f12 q12 => ?_)
              rw [eτ] at q12
              refine Rj_aload_n (q := 16) d_M_day_15 rfl rfl rfl ?_
              refine Rj_gi (q := 19) (ki := 40) (v := τ.2.1) gM_M_468_0 rfl rfl q12.2.1 d_M_day_16 rfl ?_
              refine Rj_iret d_M_day_19 rfl ?_
              have t5 := tI.2.2.2.2.1
              refine ⟨sm_I rfl, hC.moved (fun c i q1 q2 => (f36 c i (by unfold Wdy; omega)).trans (f4 c i (by unfold Wdc; omega))) (fun c i q1 q2 => f12 c i (by unfold cqm at q2; unfold Wcm; omega)) (by rw [q12.1]; exact c36.1) (by rw [q12.1]; exact tI.2.2.2.2.2) (fun d d0 d1 => ?_), fun c i q => (f36 c i (by unfold Wdy; omega)).trans (f4 c i (by unfold Wdc; omega)), fun c i q => f12 c i (by unfold Wcm; omega)⟩
              rw [q12.1]
              have := t5 d d0 d1
              omega
set_option maxHeartbeats 8000000 in
theorem C_would {n : Nat} {μ ν : Mem} {a b : Int} (hC : Cor n μ ν) (hn : n ≤ 511) (ha : i32 a) (hb : i32 b) (hR : RULs μ ν)  : Rj YD y_D_would 0 [vA 0, vI a, vI b] [] μ (fun r μ' => Rj YM y_M_would 0 [vA 0, vI a, vI b] [] ν (fun r' ν' => Sm 1 r' r ∧ Cor (n + 1) μ' ν' ∧ Kp μ μ' ∧ Kq ν ν')) := by
  obtain ⟨hTP, hK, hSc, h, hM, hSB, hBK, hIM⟩ := id hC
  have hC1 := hC.next
  obtain ⟨z0, z1, z2, z3, z4, z5, z6, z7⟩ := h.z
  obtain ⟨hS, hH, hP, hB, hFx⟩ := id hM
  have hD := z0
  have hJ := z1
  have r02 := hR.1
  refine Rj_aload_n (q := 1) d_D_would_0 rfl rfl rfl ?_
  refine Rj_iload_n (q := 2) d_D_would_1 rfl rfl rfl ?_
  refine Rj_vo (q := 5) (z := y_D_isDayBy) (as := [vI a]) (rest := []) (la := [vA 0, vI a]) oD_0_D_isDayBy ml_D_269 mw_D_isDayBy mv_D_isDayBy rfl d_D_would_2 rfl rfl rfl rfl rfl ?_
  refine Rj_aload_n (q := 1) d_D_isDayBy_0 rfl rfl rfl ?_
  refine Rj_gr (q := 4) (zd := 3) gD_D_25_0 rfl rfl d_D_isDayBy_1 rfl ?_
  refine Rj_gi (q := 7) (ki := 0) (v := ν 11 0) gD_D_130_3 rfl rfl z2 d_D_isDayBy_4 rfl ?_
  refine Rj_if_le (q := 10) (t := 29) d_D_isDayBy_7 rfl (by decide) (by first | assumption | exact ⟨by omega, by omega⟩) (fun c2_7 => ?_) (fun c2_7 => ?_)
  · refine Rj_iconst (q := 30) d_D_isDayBy_29 rfl ?_
    refine Rj_bret0 d_D_isDayBy_30 rfl ?_
    refine Rj_if_eq (q := 8) (t := 17) d_D_would_5 rfl (by decide) (by decide) (fun _ => ?_) (fun c => absurd c (by decide))
    refine Rj_iconst (q := 18) d_D_would_17 rfl ?_
    refine Rj_iret d_D_would_18 rfl ?_
    refine Rj_aload_n (q := 1) d_M_would_0 rfl rfl rfl ?_
    refine Rj_iload_n (q := 2) d_M_would_1 rfl rfl rfl ?_
    refine Rj_vo (q := 5) (z := y_M_canPass) (as := [vI a]) (rest := []) (la := [vA 0, vI a]) oM_0_M_canPass ml_M_489 mw_M_canPass mv_M_canPass rfl d_M_would_2 rfl rfl rfl rfl rfl ?_
    refine Rj_aload_n (q := 1) d_M_canPass_0 rfl rfl rfl ?_
    refine Rj_gr (q := 4) (zd := 11) gM_M_42_0 rfl rfl d_M_canPass_1 rfl ?_
    refine Rj_iconst (q := 5) d_M_canPass_4 rfl ?_
    refine Rj_ia (q := 6) (v := ν 11 0) aM_11 rfl (by decide) rfl d_M_canPass_5 rfl ?_
    refine Rj_if_le (q := 9) (t := 21) d_M_canPass_6 rfl (by decide) (by first | assumption | exact ⟨by omega, by omega⟩) (fun c2_6 => ?_) (fun c2_6 => ?_)
    · refine Rj_iconst (q := 22) d_M_canPass_21 rfl ?_
      refine Rj_bret0 d_M_canPass_22 rfl ?_
      refine Rj_if_eq (q := 8) (t := 20) d_M_would_5 rfl (by decide) (by decide) (fun _ => ?_) (fun c => absurd c (by decide))
      refine Rj_iconst (q := 21) d_M_would_20 rfl ?_
      refine Rj_iret d_M_would_21 rfl ?_
      exact ⟨sm_I rfl, hC1, kp0 _, kq0 _⟩
    · refine Rj_aload_n (q := 10) d_M_canPass_9 rfl rfl rfl ?_
      refine Rj_iload_n (q := 11) d_M_canPass_10 rfl rfl rfl ?_
      refine Rj_vo (q := 14) (z := y_M_isRule) (as := [vI a]) (rest := []) (la := [vA 0, vI a]) oM_0_M_isRule ml_M_486 mw_M_isRule mv_M_isRule rfl d_M_canPass_11 rfl rfl rfl rfl rfl ?_
      refine Rj_iload_n (q := 1) d_M_isRule_0 rfl rfl rfl ?_
      refine Rj_if_lt (q := 4) (t := 16) d_M_isRule_1 rfl (by decide) (by first | assumption | exact ⟨by omega, by omega⟩) (fun c2_11_1 => ?_) (fun c2_11_1 => ?_)
      · refine Rj_iconst (q := 17) d_M_isRule_16 rfl ?_
        refine Rj_bret0 d_M_isRule_17 rfl ?_
        refine Rj_if_eq (q := 17) (t := 21) d_M_canPass_14 rfl (by decide) (by decide) (fun _ => ?_) (fun c => absurd c (by decide))
        refine Rj_iconst (q := 22) d_M_canPass_21 rfl ?_
        refine Rj_bret0 d_M_canPass_22 rfl ?_
        refine Rj_if_eq (q := 8) (t := 20) d_M_would_5 rfl (by decide) (by decide) (fun _ => ?_) (fun c => absurd c (by decide))
        refine Rj_iconst (q := 21) d_M_would_20 rfl ?_
        refine Rj_iret d_M_would_21 rfl ?_
        exact ⟨sm_I rfl, hC1, kp0 _, kq0 _⟩
      · refine Rj_iload_n (q := 5) d_M_isRule_4 rfl rfl rfl ?_
        refine Rj_aload_n (q := 6) d_M_isRule_5 rfl rfl rfl ?_
        refine Rj_gi (q := 9) (ki := 2) (v := ν 0 2) gM_M_273_0 rfl rfl rfl d_M_isRule_6 rfl ?_
        refine Rj_icmp_ge (q := 12) (t := 16) d_M_isRule_9 rfl (by decide) (by first | assumption | exact ⟨by omega, by omega⟩) (by first | assumption | exact ⟨by omega, by omega⟩) (fun c2_11_9 => ?_) (fun c2_11_9 => ?_)
        · refine Rj_iconst (q := 17) d_M_isRule_16 rfl ?_
          refine Rj_bret0 d_M_isRule_17 rfl ?_
          refine Rj_if_eq (q := 17) (t := 21) d_M_canPass_14 rfl (by decide) (by decide) (fun _ => ?_) (fun c => absurd c (by decide))
          refine Rj_iconst (q := 22) d_M_canPass_21 rfl ?_
          refine Rj_bret0 d_M_canPass_22 rfl ?_
          refine Rj_if_eq (q := 8) (t := 20) d_M_would_5 rfl (by decide) (by decide) (fun _ => ?_) (fun c => absurd c (by decide))
          refine Rj_iconst (q := 21) d_M_would_20 rfl ?_
          refine Rj_iret d_M_would_21 rfl ?_
          exact ⟨sm_I rfl, hC1, kp0 _, kq0 _⟩
        · refine Rj_iconst (q := 13) d_M_isRule_12 rfl ?_
          refine Rj_goto (t := 17) d_M_isRule_13 (by decide) ?_
          refine Rj_bret1 d_M_isRule_17 rfl ?_
          refine Rj_if_eq (q := 17) (t := 21) d_M_canPass_14 rfl (by decide) (by decide) (fun c => absurd c (by decide)) (fun _ => ?_)
          refine Rj_iconst (q := 18) d_M_canPass_17 rfl ?_
          refine Rj_goto (t := 22) d_M_canPass_18 (by decide) ?_
          refine Rj_bret1 d_M_canPass_22 rfl ?_
          refine Rj_if_eq (q := 8) (t := 20) d_M_would_5 rfl (by decide) (by decide) (fun c => absurd c (by decide)) (fun _ => ?_)
          refine Rj_iload_n (q := 9) d_M_would_8 rfl rfl rfl ?_
          refine Rj_i2l (q := 10) d_M_would_9 rfl (by first | assumption | exact ⟨by omega, by omega⟩) ?_
          refine Rj_lconst (q := 11) (z := 0) d_M_would_10 rfl rfl ?_
          refine Rj_ldc2 (q := 14) k_M_495 d_M_would_11 rfl ?_
          refine Rj_cs (q := 17) (z := y_M_in) (as := [vL b, vL 0, vL 3]) (rest := []) (la := [vL b, vU, vL 0, vU, vL 3, vU]) ml_M_138 mw_M_in ms_M_in d_M_would_14 rfl rfl rfl rfl rfl ?_
          refine s_M_in ⟨by omega, by omega⟩ (by decide) (by decide) ?_
          refine Rj_b_ne (q := 20) (t := 22) d_M_would_17 rfl (by decide) (fun c17 => ?_) (fun c17 => ?_)
          · have c17 := of_decide_eq_true c17
            refine Rj_aload_n (q := 23) d_M_would_22 rfl rfl rfl ?_
            refine Rj_vov (q := 26) (z := y_M_keeps) (as := []) (rest := []) (la := [vA 0]) oM_0_M_keeps ml_M_497 mw_M_keeps mv_M_keeps rfl d_M_would_23 rfl rfl rfl rfl rfl ?_
            exfalso; omega
          · have c17 := of_decide_eq_false c17
            refine Rj_iconst (q := 21) d_M_would_20 rfl ?_
            refine Rj_iret d_M_would_21 rfl ?_
            exact ⟨sm_I rfl, hC1, kp0 _, kq0 _⟩
  · refine Rj_iload_n (q := 11) d_D_isDayBy_10 rfl rfl rfl ?_
    refine Rj_if_lt (q := 14) (t := 29) d_D_isDayBy_11 rfl (by decide) (by first | assumption | exact ⟨by omega, by omega⟩) (fun c2_11 => ?_) (fun c2_11 => ?_)
    · refine Rj_iconst (q := 30) d_D_isDayBy_29 rfl ?_
      refine Rj_bret0 d_D_isDayBy_30 rfl ?_
      refine Rj_if_eq (q := 8) (t := 17) d_D_would_5 rfl (by decide) (by decide) (fun _ => ?_) (fun c => absurd c (by decide))
      refine Rj_iconst (q := 18) d_D_would_17 rfl ?_
      refine Rj_iret d_D_would_18 rfl ?_
      refine Rj_aload_n (q := 1) d_M_would_0 rfl rfl rfl ?_
      refine Rj_iload_n (q := 2) d_M_would_1 rfl rfl rfl ?_
      refine Rj_vo (q := 5) (z := y_M_canPass) (as := [vI a]) (rest := []) (la := [vA 0, vI a]) oM_0_M_canPass ml_M_489 mw_M_canPass mv_M_canPass rfl d_M_would_2 rfl rfl rfl rfl rfl ?_
      refine Rj_aload_n (q := 1) d_M_canPass_0 rfl rfl rfl ?_
      refine Rj_gr (q := 4) (zd := 11) gM_M_42_0 rfl rfl d_M_canPass_1 rfl ?_
      refine Rj_iconst (q := 5) d_M_canPass_4 rfl ?_
      refine Rj_ia (q := 6) (v := ν 11 0) aM_11 rfl (by decide) rfl d_M_canPass_5 rfl ?_
      refine Rj_if_le (q := 9) (t := 21) d_M_canPass_6 rfl (by decide) (by first | assumption | exact ⟨by omega, by omega⟩) (fun c2_6 => ?_) (fun c2_6 => ?_)
      · refine Rj_iconst (q := 22) d_M_canPass_21 rfl ?_
        refine Rj_bret0 d_M_canPass_22 rfl ?_
        refine Rj_if_eq (q := 8) (t := 20) d_M_would_5 rfl (by decide) (by decide) (fun _ => ?_) (fun c => absurd c (by decide))
        refine Rj_iconst (q := 21) d_M_would_20 rfl ?_
        refine Rj_iret d_M_would_21 rfl ?_
        exact ⟨sm_I rfl, hC1, kp0 _, kq0 _⟩
      · refine Rj_aload_n (q := 10) d_M_canPass_9 rfl rfl rfl ?_
        refine Rj_iload_n (q := 11) d_M_canPass_10 rfl rfl rfl ?_
        refine Rj_vo (q := 14) (z := y_M_isRule) (as := [vI a]) (rest := []) (la := [vA 0, vI a]) oM_0_M_isRule ml_M_486 mw_M_isRule mv_M_isRule rfl d_M_canPass_11 rfl rfl rfl rfl rfl ?_
        refine Rj_iload_n (q := 1) d_M_isRule_0 rfl rfl rfl ?_
        refine Rj_if_lt (q := 4) (t := 16) d_M_isRule_1 rfl (by decide) (by first | assumption | exact ⟨by omega, by omega⟩) (fun c2_11_1 => ?_) (fun c2_11_1 => ?_)
        · refine Rj_iconst (q := 17) d_M_isRule_16 rfl ?_
          refine Rj_bret0 d_M_isRule_17 rfl ?_
          refine Rj_if_eq (q := 17) (t := 21) d_M_canPass_14 rfl (by decide) (by decide) (fun _ => ?_) (fun c => absurd c (by decide))
          refine Rj_iconst (q := 22) d_M_canPass_21 rfl ?_
          refine Rj_bret0 d_M_canPass_22 rfl ?_
          refine Rj_if_eq (q := 8) (t := 20) d_M_would_5 rfl (by decide) (by decide) (fun _ => ?_) (fun c => absurd c (by decide))
          refine Rj_iconst (q := 21) d_M_would_20 rfl ?_
          refine Rj_iret d_M_would_21 rfl ?_
          exact ⟨sm_I rfl, hC1, kp0 _, kq0 _⟩
        · refine Rj_iload_n (q := 5) d_M_isRule_4 rfl rfl rfl ?_
          refine Rj_aload_n (q := 6) d_M_isRule_5 rfl rfl rfl ?_
          refine Rj_gi (q := 9) (ki := 2) (v := ν 0 2) gM_M_273_0 rfl rfl rfl d_M_isRule_6 rfl ?_
          refine Rj_icmp_ge (q := 12) (t := 16) d_M_isRule_9 rfl (by decide) (by first | assumption | exact ⟨by omega, by omega⟩) (by first | assumption | exact ⟨by omega, by omega⟩) (fun c2_11_9 => ?_) (fun c2_11_9 => ?_)
          · refine Rj_iconst (q := 17) d_M_isRule_16 rfl ?_
            refine Rj_bret0 d_M_isRule_17 rfl ?_
            refine Rj_if_eq (q := 17) (t := 21) d_M_canPass_14 rfl (by decide) (by decide) (fun _ => ?_) (fun c => absurd c (by decide))
            refine Rj_iconst (q := 22) d_M_canPass_21 rfl ?_
            refine Rj_bret0 d_M_canPass_22 rfl ?_
            refine Rj_if_eq (q := 8) (t := 20) d_M_would_5 rfl (by decide) (by decide) (fun _ => ?_) (fun c => absurd c (by decide))
            refine Rj_iconst (q := 21) d_M_would_20 rfl ?_
            refine Rj_iret d_M_would_21 rfl ?_
            exact ⟨sm_I rfl, hC1, kp0 _, kq0 _⟩
          · refine Rj_iconst (q := 13) d_M_isRule_12 rfl ?_
            refine Rj_goto (t := 17) d_M_isRule_13 (by decide) ?_
            refine Rj_bret1 d_M_isRule_17 rfl ?_
            refine Rj_if_eq (q := 17) (t := 21) d_M_canPass_14 rfl (by decide) (by decide) (fun c => absurd c (by decide)) (fun _ => ?_)
            refine Rj_iconst (q := 18) d_M_canPass_17 rfl ?_
            refine Rj_goto (t := 22) d_M_canPass_18 (by decide) ?_
            refine Rj_bret1 d_M_canPass_22 rfl ?_
            refine Rj_if_eq (q := 8) (t := 20) d_M_would_5 rfl (by decide) (by decide) (fun c => absurd c (by decide)) (fun _ => ?_)
            refine Rj_iload_n (q := 9) d_M_would_8 rfl rfl rfl ?_
            refine Rj_i2l (q := 10) d_M_would_9 rfl (by first | assumption | exact ⟨by omega, by omega⟩) ?_
            refine Rj_lconst (q := 11) (z := 0) d_M_would_10 rfl rfl ?_
            refine Rj_ldc2 (q := 14) k_M_495 d_M_would_11 rfl ?_
            refine Rj_cs (q := 17) (z := y_M_in) (as := [vL b, vL 0, vL 3]) (rest := []) (la := [vL b, vU, vL 0, vU, vL 3, vU]) ml_M_138 mw_M_in ms_M_in d_M_would_14 rfl rfl rfl rfl rfl ?_
            refine s_M_in ⟨by omega, by omega⟩ (by decide) (by decide) ?_
            refine Rj_b_ne (q := 20) (t := 22) d_M_would_17 rfl (by decide) (fun c17 => ?_) (fun c17 => ?_)
            · have c17 := of_decide_eq_true c17
              refine Rj_aload_n (q := 23) d_M_would_22 rfl rfl rfl ?_
              refine Rj_vov (q := 26) (z := y_M_keeps) (as := []) (rest := []) (la := [vA 0]) oM_0_M_keeps ml_M_497 mw_M_keeps mv_M_keeps rfl d_M_would_23 rfl rfl rfl rfl rfl ?_
              exfalso; omega
            · have c17 := of_decide_eq_false c17
              refine Rj_iconst (q := 21) d_M_would_20 rfl ?_
              refine Rj_iret d_M_would_21 rfl ?_
              exact ⟨sm_I rfl, hC1, kp0 _, kq0 _⟩
    · refine Rj_iload_n (q := 15) d_D_isDayBy_14 rfl rfl rfl ?_
      refine Rj_aload_n (q := 16) d_D_isDayBy_15 rfl rfl rfl ?_
      refine Rj_gr (q := 19) (zd := 79) gD_D_70_0 rfl rfl d_D_isDayBy_16 rfl ?_
      refine Rj_gi (q := 22) (ki := 1) (v := ν 0 2) gD_D_133_79 rfl rfl hR.2.1 d_D_isDayBy_19 rfl ?_
      refine Rj_icmp_ge (q := 25) (t := 29) d_D_isDayBy_22 rfl (by decide) (by first | assumption | exact ⟨by omega, by omega⟩) (by first | assumption | exact ⟨by omega, by omega⟩) (fun c2_22 => ?_) (fun c2_22 => ?_)
      · refine Rj_iconst (q := 30) d_D_isDayBy_29 rfl ?_
        refine Rj_bret0 d_D_isDayBy_30 rfl ?_
        refine Rj_if_eq (q := 8) (t := 17) d_D_would_5 rfl (by decide) (by decide) (fun _ => ?_) (fun c => absurd c (by decide))
        refine Rj_iconst (q := 18) d_D_would_17 rfl ?_
        refine Rj_iret d_D_would_18 rfl ?_
        refine Rj_aload_n (q := 1) d_M_would_0 rfl rfl rfl ?_
        refine Rj_iload_n (q := 2) d_M_would_1 rfl rfl rfl ?_
        refine Rj_vo (q := 5) (z := y_M_canPass) (as := [vI a]) (rest := []) (la := [vA 0, vI a]) oM_0_M_canPass ml_M_489 mw_M_canPass mv_M_canPass rfl d_M_would_2 rfl rfl rfl rfl rfl ?_
        refine Rj_aload_n (q := 1) d_M_canPass_0 rfl rfl rfl ?_
        refine Rj_gr (q := 4) (zd := 11) gM_M_42_0 rfl rfl d_M_canPass_1 rfl ?_
        refine Rj_iconst (q := 5) d_M_canPass_4 rfl ?_
        refine Rj_ia (q := 6) (v := ν 11 0) aM_11 rfl (by decide) rfl d_M_canPass_5 rfl ?_
        refine Rj_if_le (q := 9) (t := 21) d_M_canPass_6 rfl (by decide) (by first | assumption | exact ⟨by omega, by omega⟩) (fun c2_6 => ?_) (fun c2_6 => ?_)
        · refine Rj_iconst (q := 22) d_M_canPass_21 rfl ?_
          refine Rj_bret0 d_M_canPass_22 rfl ?_
          refine Rj_if_eq (q := 8) (t := 20) d_M_would_5 rfl (by decide) (by decide) (fun _ => ?_) (fun c => absurd c (by decide))
          refine Rj_iconst (q := 21) d_M_would_20 rfl ?_
          refine Rj_iret d_M_would_21 rfl ?_
          exact ⟨sm_I rfl, hC1, kp0 _, kq0 _⟩
        · refine Rj_aload_n (q := 10) d_M_canPass_9 rfl rfl rfl ?_
          refine Rj_iload_n (q := 11) d_M_canPass_10 rfl rfl rfl ?_
          refine Rj_vo (q := 14) (z := y_M_isRule) (as := [vI a]) (rest := []) (la := [vA 0, vI a]) oM_0_M_isRule ml_M_486 mw_M_isRule mv_M_isRule rfl d_M_canPass_11 rfl rfl rfl rfl rfl ?_
          refine Rj_iload_n (q := 1) d_M_isRule_0 rfl rfl rfl ?_
          refine Rj_if_lt (q := 4) (t := 16) d_M_isRule_1 rfl (by decide) (by first | assumption | exact ⟨by omega, by omega⟩) (fun c2_11_1 => ?_) (fun c2_11_1 => ?_)
          · refine Rj_iconst (q := 17) d_M_isRule_16 rfl ?_
            refine Rj_bret0 d_M_isRule_17 rfl ?_
            refine Rj_if_eq (q := 17) (t := 21) d_M_canPass_14 rfl (by decide) (by decide) (fun _ => ?_) (fun c => absurd c (by decide))
            refine Rj_iconst (q := 22) d_M_canPass_21 rfl ?_
            refine Rj_bret0 d_M_canPass_22 rfl ?_
            refine Rj_if_eq (q := 8) (t := 20) d_M_would_5 rfl (by decide) (by decide) (fun _ => ?_) (fun c => absurd c (by decide))
            refine Rj_iconst (q := 21) d_M_would_20 rfl ?_
            refine Rj_iret d_M_would_21 rfl ?_
            exact ⟨sm_I rfl, hC1, kp0 _, kq0 _⟩
          · refine Rj_iload_n (q := 5) d_M_isRule_4 rfl rfl rfl ?_
            refine Rj_aload_n (q := 6) d_M_isRule_5 rfl rfl rfl ?_
            refine Rj_gi (q := 9) (ki := 2) (v := ν 0 2) gM_M_273_0 rfl rfl rfl d_M_isRule_6 rfl ?_
            refine Rj_icmp_ge (q := 12) (t := 16) d_M_isRule_9 rfl (by decide) (by first | assumption | exact ⟨by omega, by omega⟩) (by first | assumption | exact ⟨by omega, by omega⟩) (fun c2_11_9 => ?_) (fun c2_11_9 => ?_)
            · refine Rj_iconst (q := 17) d_M_isRule_16 rfl ?_
              refine Rj_bret0 d_M_isRule_17 rfl ?_
              refine Rj_if_eq (q := 17) (t := 21) d_M_canPass_14 rfl (by decide) (by decide) (fun _ => ?_) (fun c => absurd c (by decide))
              refine Rj_iconst (q := 22) d_M_canPass_21 rfl ?_
              refine Rj_bret0 d_M_canPass_22 rfl ?_
              refine Rj_if_eq (q := 8) (t := 20) d_M_would_5 rfl (by decide) (by decide) (fun _ => ?_) (fun c => absurd c (by decide))
              refine Rj_iconst (q := 21) d_M_would_20 rfl ?_
              refine Rj_iret d_M_would_21 rfl ?_
              exact ⟨sm_I rfl, hC1, kp0 _, kq0 _⟩
            · refine Rj_iconst (q := 13) d_M_isRule_12 rfl ?_
              refine Rj_goto (t := 17) d_M_isRule_13 (by decide) ?_
              refine Rj_bret1 d_M_isRule_17 rfl ?_
              refine Rj_if_eq (q := 17) (t := 21) d_M_canPass_14 rfl (by decide) (by decide) (fun c => absurd c (by decide)) (fun _ => ?_)
              refine Rj_iconst (q := 18) d_M_canPass_17 rfl ?_
              refine Rj_goto (t := 22) d_M_canPass_18 (by decide) ?_
              refine Rj_bret1 d_M_canPass_22 rfl ?_
              refine Rj_if_eq (q := 8) (t := 20) d_M_would_5 rfl (by decide) (by decide) (fun c => absurd c (by decide)) (fun _ => ?_)
              refine Rj_iload_n (q := 9) d_M_would_8 rfl rfl rfl ?_
              refine Rj_i2l (q := 10) d_M_would_9 rfl (by first | assumption | exact ⟨by omega, by omega⟩) ?_
              refine Rj_lconst (q := 11) (z := 0) d_M_would_10 rfl rfl ?_
              refine Rj_ldc2 (q := 14) k_M_495 d_M_would_11 rfl ?_
              refine Rj_cs (q := 17) (z := y_M_in) (as := [vL b, vL 0, vL 3]) (rest := []) (la := [vL b, vU, vL 0, vU, vL 3, vU]) ml_M_138 mw_M_in ms_M_in d_M_would_14 rfl rfl rfl rfl rfl ?_
              refine s_M_in ⟨by omega, by omega⟩ (by decide) (by decide) ?_
              refine Rj_b_ne (q := 20) (t := 22) d_M_would_17 rfl (by decide) (fun c17 => ?_) (fun c17 => ?_)
              · have c17 := of_decide_eq_true c17
                refine Rj_aload_n (q := 23) d_M_would_22 rfl rfl rfl ?_
                refine Rj_vov (q := 26) (z := y_M_keeps) (as := []) (rest := []) (la := [vA 0]) oM_0_M_keeps ml_M_497 mw_M_keeps mv_M_keeps rfl d_M_would_23 rfl rfl rfl rfl rfl ?_
                exfalso; omega
              · have c17 := of_decide_eq_false c17
                refine Rj_iconst (q := 21) d_M_would_20 rfl ?_
                refine Rj_iret d_M_would_21 rfl ?_
                exact ⟨sm_I rfl, hC1, kp0 _, kq0 _⟩
      · refine Rj_iconst (q := 26) d_D_isDayBy_25 rfl ?_
        refine Rj_goto (t := 30) d_D_isDayBy_26 (by decide) ?_
        refine Rj_bret1 d_D_isDayBy_30 rfl ?_
        refine Rj_if_eq (q := 8) (t := 17) d_D_would_5 rfl (by decide) (by decide) (fun c => absurd c (by decide)) (fun _ => ?_)
        refine Rj_iload_n (q := 9) d_D_would_8 rfl rfl rfl ?_
        refine Rj_if_lt (q := 12) (t := 17) d_D_would_9 rfl (by decide) (by first | assumption | exact ⟨by omega, by omega⟩) (fun c9 => ?_) (fun c9 => ?_)
        · refine Rj_iconst (q := 18) d_D_would_17 rfl ?_
          refine Rj_iret d_D_would_18 rfl ?_
          refine Rj_aload_n (q := 1) d_M_would_0 rfl rfl rfl ?_
          refine Rj_iload_n (q := 2) d_M_would_1 rfl rfl rfl ?_
          refine Rj_vo (q := 5) (z := y_M_canPass) (as := [vI a]) (rest := []) (la := [vA 0, vI a]) oM_0_M_canPass ml_M_489 mw_M_canPass mv_M_canPass rfl d_M_would_2 rfl rfl rfl rfl rfl ?_
          refine Rj_aload_n (q := 1) d_M_canPass_0 rfl rfl rfl ?_
          refine Rj_gr (q := 4) (zd := 11) gM_M_42_0 rfl rfl d_M_canPass_1 rfl ?_
          refine Rj_iconst (q := 5) d_M_canPass_4 rfl ?_
          refine Rj_ia (q := 6) (v := ν 11 0) aM_11 rfl (by decide) rfl d_M_canPass_5 rfl ?_
          refine Rj_if_le (q := 9) (t := 21) d_M_canPass_6 rfl (by decide) (by first | assumption | exact ⟨by omega, by omega⟩) (fun c2_6 => ?_) (fun c2_6 => ?_)
          · refine Rj_iconst (q := 22) d_M_canPass_21 rfl ?_
            refine Rj_bret0 d_M_canPass_22 rfl ?_
            refine Rj_if_eq (q := 8) (t := 20) d_M_would_5 rfl (by decide) (by decide) (fun _ => ?_) (fun c => absurd c (by decide))
            refine Rj_iconst (q := 21) d_M_would_20 rfl ?_
            refine Rj_iret d_M_would_21 rfl ?_
            exact ⟨sm_I rfl, hC1, kp0 _, kq0 _⟩
          · refine Rj_aload_n (q := 10) d_M_canPass_9 rfl rfl rfl ?_
            refine Rj_iload_n (q := 11) d_M_canPass_10 rfl rfl rfl ?_
            refine Rj_vo (q := 14) (z := y_M_isRule) (as := [vI a]) (rest := []) (la := [vA 0, vI a]) oM_0_M_isRule ml_M_486 mw_M_isRule mv_M_isRule rfl d_M_canPass_11 rfl rfl rfl rfl rfl ?_
            refine Rj_iload_n (q := 1) d_M_isRule_0 rfl rfl rfl ?_
            refine Rj_if_lt (q := 4) (t := 16) d_M_isRule_1 rfl (by decide) (by first | assumption | exact ⟨by omega, by omega⟩) (fun c2_11_1 => ?_) (fun c2_11_1 => ?_)
            · refine Rj_iconst (q := 17) d_M_isRule_16 rfl ?_
              refine Rj_bret0 d_M_isRule_17 rfl ?_
              refine Rj_if_eq (q := 17) (t := 21) d_M_canPass_14 rfl (by decide) (by decide) (fun _ => ?_) (fun c => absurd c (by decide))
              refine Rj_iconst (q := 22) d_M_canPass_21 rfl ?_
              refine Rj_bret0 d_M_canPass_22 rfl ?_
              refine Rj_if_eq (q := 8) (t := 20) d_M_would_5 rfl (by decide) (by decide) (fun _ => ?_) (fun c => absurd c (by decide))
              refine Rj_iconst (q := 21) d_M_would_20 rfl ?_
              refine Rj_iret d_M_would_21 rfl ?_
              exact ⟨sm_I rfl, hC1, kp0 _, kq0 _⟩
            · refine Rj_iload_n (q := 5) d_M_isRule_4 rfl rfl rfl ?_
              refine Rj_aload_n (q := 6) d_M_isRule_5 rfl rfl rfl ?_
              refine Rj_gi (q := 9) (ki := 2) (v := ν 0 2) gM_M_273_0 rfl rfl rfl d_M_isRule_6 rfl ?_
              refine Rj_icmp_ge (q := 12) (t := 16) d_M_isRule_9 rfl (by decide) (by first | assumption | exact ⟨by omega, by omega⟩) (by first | assumption | exact ⟨by omega, by omega⟩) (fun c2_11_9 => ?_) (fun c2_11_9 => ?_)
              · refine Rj_iconst (q := 17) d_M_isRule_16 rfl ?_
                refine Rj_bret0 d_M_isRule_17 rfl ?_
                refine Rj_if_eq (q := 17) (t := 21) d_M_canPass_14 rfl (by decide) (by decide) (fun _ => ?_) (fun c => absurd c (by decide))
                refine Rj_iconst (q := 22) d_M_canPass_21 rfl ?_
                refine Rj_bret0 d_M_canPass_22 rfl ?_
                refine Rj_if_eq (q := 8) (t := 20) d_M_would_5 rfl (by decide) (by decide) (fun _ => ?_) (fun c => absurd c (by decide))
                refine Rj_iconst (q := 21) d_M_would_20 rfl ?_
                refine Rj_iret d_M_would_21 rfl ?_
                exact ⟨sm_I rfl, hC1, kp0 _, kq0 _⟩
              · refine Rj_iconst (q := 13) d_M_isRule_12 rfl ?_
                refine Rj_goto (t := 17) d_M_isRule_13 (by decide) ?_
                refine Rj_bret1 d_M_isRule_17 rfl ?_
                refine Rj_if_eq (q := 17) (t := 21) d_M_canPass_14 rfl (by decide) (by decide) (fun c => absurd c (by decide)) (fun _ => ?_)
                refine Rj_iconst (q := 18) d_M_canPass_17 rfl ?_
                refine Rj_goto (t := 22) d_M_canPass_18 (by decide) ?_
                refine Rj_bret1 d_M_canPass_22 rfl ?_
                refine Rj_if_eq (q := 8) (t := 20) d_M_would_5 rfl (by decide) (by decide) (fun c => absurd c (by decide)) (fun _ => ?_)
                refine Rj_iload_n (q := 9) d_M_would_8 rfl rfl rfl ?_
                refine Rj_i2l (q := 10) d_M_would_9 rfl (by first | assumption | exact ⟨by omega, by omega⟩) ?_
                refine Rj_lconst (q := 11) (z := 0) d_M_would_10 rfl rfl ?_
                refine Rj_ldc2 (q := 14) k_M_495 d_M_would_11 rfl ?_
                refine Rj_cs (q := 17) (z := y_M_in) (as := [vL b, vL 0, vL 3]) (rest := []) (la := [vL b, vU, vL 0, vU, vL 3, vU]) ml_M_138 mw_M_in ms_M_in d_M_would_14 rfl rfl rfl rfl rfl ?_
                refine s_M_in ⟨by omega, by omega⟩ (by decide) (by decide) ?_
                refine Rj_b_ne (q := 20) (t := 22) d_M_would_17 rfl (by decide) (fun c17 => ?_) (fun c17 => ?_)
                · have c17 := of_decide_eq_true c17
                  refine Rj_aload_n (q := 23) d_M_would_22 rfl rfl rfl ?_
                  refine Rj_vov (q := 26) (z := y_M_keeps) (as := []) (rest := []) (la := [vA 0]) oM_0_M_keeps ml_M_497 mw_M_keeps mv_M_keeps rfl d_M_would_23 rfl rfl rfl rfl rfl ?_
                  exfalso; omega
                · have c17 := of_decide_eq_false c17
                  refine Rj_iconst (q := 21) d_M_would_20 rfl ?_
                  refine Rj_iret d_M_would_21 rfl ?_
                  exact ⟨sm_I rfl, hC1, kp0 _, kq0 _⟩
        · refine Rj_iload_n (q := 13) d_D_would_12 rfl rfl rfl ?_
          refine Rj_iconst (q := 14) d_D_would_13 rfl ?_
          refine Rj_icmp_le (q := 17) (t := 19) d_D_would_14 rfl (by decide) (by first | assumption | exact ⟨by omega, by omega⟩) (by decide) (fun c14 => ?_) (fun c14 => ?_)
          · refine Rj_aload_n (q := 20) d_D_would_19 rfl rfl rfl ?_
            refine Rj_iload_n (q := 21) d_D_would_20 rfl rfl rfl ?_
            refine Rj_vo (q := 24) (z := y_D_imagineDay) (as := [vI a]) (rest := []) (la := [vA 0, vI a]) oD_0_D_imagineDay ml_D_282 mw_D_imagineDay mv_D_imagineDay rfl d_D_would_21 rfl rfl rfl rfl rfl ?_
            obtain ⟨D, hRc, hRm⟩ := hR.at (show 0 ≤ a by omega) (show a < ν 0 2 by omega)
            obtain ⟨-, w5, -, -⟩ := hC.w
            have w51 := w5.1
            have tI := cms_I (D := D) (g := fun j => ν 11 (94 + j)) (N := ν 11 5) (K := ((n : Int) * 112000000000000)) hS hH (fun j j0 j1 => (w5.2.2 j j0 j1).1) 61 0 0 0 (s0 (ν 12)) (by decide) (by omega) (by omega) (s0_I hBK hSB)
            refine s_imagine (K := ((n : Int) * 112000000000000)) h hRc hBK hSB w5.2.1 w5.1 (fun j j0 j1 => ⟨(w5.2.2 j j0 j1).2, (w5.2.2 j j0 j1).1⟩) (by omega) (fun m21 f21 r21 c21 => ?_)
            generalize eτ : cms (ν 11) (ν 14) (ν 15) (ν 16) (ν 17) D (fun j => ν 11 (94 + j)) (ν 11 5) 61 0 (s0 (ν 12)) = τ at c21 tI ⊢
            have t1 := tI.1
            have t2 := tI.2.1
            have t3 := tI.2.2.1
            refine Rj_istore_n (q := 25) (ls' := [vA 0, vI a, vI b, vI (opS (ν 11) (pts (ν 11)) τ.1 (ν 11 0).toNat)]) d_D_would_24 rfl rfl (by decide) rfl ?_
            refine Rj_iload_n (q := 26) d_D_would_25 rfl rfl rfl ?_
            refine Rj_iconst (q := 27) d_D_would_26 rfl ?_
            refine Rj_icmp_ne (q := 30) (t := 34) d_D_would_27 rfl (by decide) (by first | assumption | exact ⟨by omega, by omega⟩) (by decide) (fun c27 => ?_) (fun c27 => ?_)
            · refine Rj_aload_n (q := 35) d_D_would_34 rfl rfl rfl ?_
              refine Rj_gr (q := 38) (zd := 86) gD_D_97_0 rfl rfl d_D_would_35 rfl ?_
              refine Rj_iload_n (q := 39) d_D_would_38 rfl rfl rfl ?_
              refine Rj_vo (q := 42) (z := y_Di_tally) (as := [vI b]) (rest := []) (la := [vA 86, vI b]) oD_86_Di_tally ml_D_286 mw_Di_tally mv_Di_tally rfl d_D_would_39 rfl rfl rfl rfl rfl ?_
              refine Rj_iload_n (q := 1) d_Di_tally_0 rfl rfl rfl ?_
              refine Rj_if_ne (q := 4) (t := 9) d_Di_tally_1 rfl (by decide) (by first | assumption | exact ⟨by omega, by omega⟩) (fun c39_1 => ?_) (fun c39_1 => ?_)
              · refine Rj_iload_n (q := 10) d_Di_tally_9 rfl rfl rfl ?_
                refine Rj_iconst (q := 11) d_Di_tally_10 rfl ?_
                refine Rj_icmp_ne (q := 14) (t := 21) d_Di_tally_11 rfl (by decide) (by first | assumption | exact ⟨by omega, by omega⟩) (by decide) (fun c39_11 => ?_) (fun c39_11 => ?_)
                · refine Rj_aload_n (q := 22) d_Di_tally_21 rfl rfl rfl ?_
                  refine Rj_gi (q := 25) (ki := 4) (v := τ.2.2.2.1) gD_Di_30_86 rfl rfl c21.1.2.2 d_Di_tally_22 rfl ?_
                  refine Rj_iret d_Di_tally_25 rfl ?_
                  refine Rj_iret d_D_would_42 rfl ?_
                  refine Rj_aload_n (q := 1) d_M_would_0 rfl rfl rfl ?_
                  refine Rj_iload_n (q := 2) d_M_would_1 rfl rfl rfl ?_
                  refine Rj_vo (q := 5) (z := y_M_canPass) (as := [vI a]) (rest := []) (la := [vA 0, vI a]) oM_0_M_canPass ml_M_489 mw_M_canPass mv_M_canPass rfl d_M_would_2 rfl rfl rfl rfl rfl ?_
                  refine Rj_aload_n (q := 1) d_M_canPass_0 rfl rfl rfl ?_
                  refine Rj_gr (q := 4) (zd := 11) gM_M_42_0 rfl rfl d_M_canPass_1 rfl ?_
                  refine Rj_iconst (q := 5) d_M_canPass_4 rfl ?_
                  refine Rj_ia (q := 6) (v := ν 11 0) aM_11 rfl (by decide) rfl d_M_canPass_5 rfl ?_
                  refine Rj_if_le (q := 9) (t := 21) d_M_canPass_6 rfl (by decide) (by first | assumption | exact ⟨by omega, by omega⟩) (fun c2_6 => ?_) (fun c2_6 => ?_)
                  · refine Rj_iconst (q := 22) d_M_canPass_21 rfl ?_
                    refine Rj_bret0 d_M_canPass_22 rfl ?_
                    refine Rj_if_eq (q := 8) (t := 20) d_M_would_5 rfl (by decide) (by decide) (fun _ => ?_) (fun c => absurd c (by decide))
                    refine Rj_iconst (q := 21) d_M_would_20 rfl ?_
                    refine Rj_iret d_M_would_21 rfl ?_
                    exfalso; omega
                  · refine Rj_aload_n (q := 10) d_M_canPass_9 rfl rfl rfl ?_
                    refine Rj_iload_n (q := 11) d_M_canPass_10 rfl rfl rfl ?_
                    refine Rj_vo (q := 14) (z := y_M_isRule) (as := [vI a]) (rest := []) (la := [vA 0, vI a]) oM_0_M_isRule ml_M_486 mw_M_isRule mv_M_isRule rfl d_M_canPass_11 rfl rfl rfl rfl rfl ?_
                    refine Rj_iload_n (q := 1) d_M_isRule_0 rfl rfl rfl ?_
                    refine Rj_if_lt (q := 4) (t := 16) d_M_isRule_1 rfl (by decide) (by first | assumption | exact ⟨by omega, by omega⟩) (fun c2_11_1 => ?_) (fun c2_11_1 => ?_)
                    · refine Rj_iconst (q := 17) d_M_isRule_16 rfl ?_
                      refine Rj_bret0 d_M_isRule_17 rfl ?_
                      refine Rj_if_eq (q := 17) (t := 21) d_M_canPass_14 rfl (by decide) (by decide) (fun _ => ?_) (fun c => absurd c (by decide))
                      refine Rj_iconst (q := 22) d_M_canPass_21 rfl ?_
                      refine Rj_bret0 d_M_canPass_22 rfl ?_
                      refine Rj_if_eq (q := 8) (t := 20) d_M_would_5 rfl (by decide) (by decide) (fun _ => ?_) (fun c => absurd c (by decide))
                      refine Rj_iconst (q := 21) d_M_would_20 rfl ?_
                      refine Rj_iret d_M_would_21 rfl ?_
                      exfalso; omega
                    · refine Rj_iload_n (q := 5) d_M_isRule_4 rfl rfl rfl ?_
                      refine Rj_aload_n (q := 6) d_M_isRule_5 rfl rfl rfl ?_
                      refine Rj_gi (q := 9) (ki := 2) (v := ν 0 2) gM_M_273_0 rfl rfl rfl d_M_isRule_6 rfl ?_
                      refine Rj_icmp_ge (q := 12) (t := 16) d_M_isRule_9 rfl (by decide) (by first | assumption | exact ⟨by omega, by omega⟩) (by first | assumption | exact ⟨by omega, by omega⟩) (fun c2_11_9 => ?_) (fun c2_11_9 => ?_)
                      · refine Rj_iconst (q := 17) d_M_isRule_16 rfl ?_
                        refine Rj_bret0 d_M_isRule_17 rfl ?_
                        refine Rj_if_eq (q := 17) (t := 21) d_M_canPass_14 rfl (by decide) (by decide) (fun _ => ?_) (fun c => absurd c (by decide))
                        refine Rj_iconst (q := 22) d_M_canPass_21 rfl ?_
                        refine Rj_bret0 d_M_canPass_22 rfl ?_
                        refine Rj_if_eq (q := 8) (t := 20) d_M_would_5 rfl (by decide) (by decide) (fun _ => ?_) (fun c => absurd c (by decide))
                        refine Rj_iconst (q := 21) d_M_would_20 rfl ?_
                        refine Rj_iret d_M_would_21 rfl ?_
                        exfalso; omega
                      · refine Rj_iconst (q := 13) d_M_isRule_12 rfl ?_
                        refine Rj_goto (t := 17) d_M_isRule_13 (by decide) ?_
                        refine Rj_bret1 d_M_isRule_17 rfl ?_
                        refine Rj_if_eq (q := 17) (t := 21) d_M_canPass_14 rfl (by decide) (by decide) (fun c => absurd c (by decide)) (fun _ => ?_)
                        refine Rj_iconst (q := 18) d_M_canPass_17 rfl ?_
                        refine Rj_goto (t := 22) d_M_canPass_18 (by decide) ?_
                        refine Rj_bret1 d_M_canPass_22 rfl ?_
                        refine Rj_if_eq (q := 8) (t := 20) d_M_would_5 rfl (by decide) (by decide) (fun c => absurd c (by decide)) (fun _ => ?_)
                        refine Rj_iload_n (q := 9) d_M_would_8 rfl rfl rfl ?_
                        refine Rj_i2l (q := 10) d_M_would_9 rfl (by first | assumption | exact ⟨by omega, by omega⟩) ?_
                        refine Rj_lconst (q := 11) (z := 0) d_M_would_10 rfl rfl ?_
                        refine Rj_ldc2 (q := 14) k_M_495 d_M_would_11 rfl ?_
                        refine Rj_cs (q := 17) (z := y_M_in) (as := [vL b, vL 0, vL 3]) (rest := []) (la := [vL b, vU, vL 0, vU, vL 3, vU]) ml_M_138 mw_M_in ms_M_in d_M_would_14 rfl rfl rfl rfl rfl ?_
                        refine s_M_in ⟨by omega, by omega⟩ (by decide) (by decide) ?_
                        refine Rj_b_ne (q := 20) (t := 22) d_M_would_17 rfl (by decide) (fun c17 => ?_) (fun c17 => ?_)
                        · have c17 := of_decide_eq_true c17
                          refine Rj_aload_n (q := 23) d_M_would_22 rfl rfl rfl ?_
                          refine Rj_vov (q := 26) (z := y_M_keeps) (as := []) (rest := []) (la := [vA 0]) oM_0_M_keeps ml_M_497 mw_M_keeps mv_M_keeps rfl d_M_would_23 rfl rfl rfl rfl rfl ?_
                          refine s_M_keeps (fun m23 f23 h23 => ?_)
                          have u2 : m23 2 = ν 2 := f23.row (fun i q => absurd (show (2 : Nat) = 13 from q) (by decide))
                          have u4 : m23 4 = ν 4 := f23.row (fun i q => absurd (show (4 : Nat) = 13 from q) (by decide))
                          have u5 : m23 5 = ν 5 := f23.row (fun i q => absurd (show (5 : Nat) = 13 from q) (by decide))
                          have u11 : m23 11 = ν 11 := f23.row (fun i q => absurd (show (11 : Nat) = 13 from q) (by decide))
                          have u12 : m23 12 = ν 12 := f23.row (fun i q => absurd (show (12 : Nat) = 13 from q) (by decide))
                          have u14 : m23 14 = ν 14 := f23.row (fun i q => absurd (show (14 : Nat) = 13 from q) (by decide))
                          have u15 : m23 15 = ν 15 := f23.row (fun i q => absurd (show (15 : Nat) = 13 from q) (by decide))
                          have u16 : m23 16 = ν 16 := f23.row (fun i q => absurd (show (16 : Nat) = 13 from q) (by decide))
                          have u17 : m23 17 = ν 17 := f23.row (fun i q => absurd (show (17 : Nat) = 13 from q) (by decide))
                          have hM2 : MX m23 := hM.mv u11 u14 u15 u16 u17 (f23 0 32 (show ¬ (0 : Nat) = 13 by decide)) (by rw [u12]; exact hB)
                          refine Rj_aload_n (q := 27) d_M_would_26 rfl rfl rfl ?_
                          refine Rj_iload_n (q := 28) d_M_would_27 rfl rfl rfl ?_
                          refine Rj_vov (q := 31) (z := y_M_passesDay) (as := [vI a]) (rest := []) (la := [vA 0, vI a]) oM_0_M_passesDay ml_M_492 mw_M_passesDay mv_M_passesDay rfl d_M_would_28 rfl rfl rfl rfl rfl ?_
                          refine s_M_passesDay (K := ((n : Int) * 112000000000000)) hM2 (hRm.kp u4 u5 u2) (by rw [u12]; exact hBK) (by rw [u11, u12]; exact hSB) (by rw [u11]; exact w5.1) (by rw [u11]; exact fun j j0 j1 => (w5.2.2 j j0 j1).1) (by omega) (fun m28 f28 q28 => ?_)
                          rw [u11, u12, u14, u15, u16, u17, eτ] at q28
                          have x11 : m28 11 = ν 11 := (f28.row (fun i q => by unfold Wcm at q; omega)).trans u11
                          have x14 : m28 14 = ν 14 := (f28.row (fun i q => by unfold Wcm at q; omega)).trans u14
                          have x15 : m28 15 = ν 15 := (f28.row (fun i q => by unfold Wcm at q; omega)).trans u15
                          have x16 : m28 16 = ν 16 := (f28.row (fun i q => by unfold Wcm at q; omega)).trans u16
                          have x17 : m28 17 = ν 17 := (f28.row (fun i q => by unfold Wcm at q; omega)).trans u17
                          have hM3 : MX m28 := hM.mv x11 x14 x15 x16 x17 ((f28 0 32 (by unfold Wcm; omega)).trans (f23 0 32 (show ¬ (0 : Nat) = 13 by decide))) (by rw [q28.1]; exact fun y y0 y1 => by have := tI.2.2.2.2.1 y y0 y1; omega)
                          refine Rj_aload_n (q := 32) d_M_would_31 rfl rfl rfl ?_
                          refine Rj_vo (q := 35) (z := y_M_openOnes) (as := []) (rest := []) (la := [vA 0]) oM_0_M_openOnes ml_M_452 mw_M_openOnes mv_M_openOnes rfl d_M_would_32 rfl rfl rfl rfl rfl ?_
                          refine s_M_openOnes hM3 ?_
                          rw [x11, q28.1]
                          refine Rj_istore_n (q := 36) (ls' := [vA 0, vI a, vI b, vI (opS (ν 11) (pts (ν 11)) τ.1 (ν 11 0).toNat)]) d_M_would_35 rfl rfl (by decide) rfl ?_
                          refine Rj_aload_n (q := 37) d_M_would_36 rfl rfl rfl ?_
                          refine Rj_vov (q := 40) (z := y_M_putsBack) (as := []) (rest := []) (la := [vA 0]) oM_0_M_putsBack ml_M_500 mw_M_putsBack mv_M_putsBack rfl d_M_would_37 rfl rfl rfl rfl rfl ?_
                          refine s_M_putsBack (fun m37 f37 h37 => ?_)
                          refine Rj_iload_n (q := 41) d_M_would_40 rfl rfl rfl ?_
                          refine Rj_if_ne (q := 44) (t := 51) d_M_would_41 rfl (by decide) (by first | assumption | exact ⟨by omega, by omega⟩) (fun c41 => ?_) (fun c41 => ?_)
                          · refine Rj_iload_n (q := 52) d_M_would_51 rfl rfl rfl ?_
                            refine Rj_iconst (q := 53) d_M_would_52 rfl ?_
                            refine Rj_icmp_ne (q := 56) (t := 63) d_M_would_53 rfl (by decide) (by first | assumption | exact ⟨by omega, by omega⟩) (by decide) (fun c53 => ?_) (fun c53 => ?_)
                            · refine Rj_iload_n (q := 64) d_M_would_63 rfl rfl rfl ?_
                              refine Rj_iconst (q := 65) d_M_would_64 rfl ?_
                              refine Rj_icmp_ne (q := 68) (t := 75) d_M_would_65 rfl (by decide) (by first | assumption | exact ⟨by omega, by omega⟩) (by decide) (fun c65 => ?_) (fun c65 => ?_)
                              · refine Rj_iload_n (q := 76) d_M_would_75 rfl rfl rfl ?_
                                refine Rj_iret d_M_would_76 rfl ?_
                                exfalso; omega
                              · refine Rj_aload_n (q := 69) d_M_would_68 rfl rfl rfl ?_
                                refine Rj_gi (q := 72) (ki := 42) (v := τ.2.2.2.1) gM_M_474_0 rfl rfl ((f37 0 42 (show ¬ (0 : Nat) = 12 by decide)).trans q28.2.2.2.1) d_M_would_69 rfl ?_
                                refine Rj_goto (t := 76) d_M_would_72 (by decide) ?_
                                refine Rj_iret d_M_would_76 rfl ?_
                                have p37 : ∀ j, 0 ≤ j → j < 12 → m37 12 j = ν 12 j := fun j j0 j1 => by
                                  rw [h37 j j0 j1, f28 13 j (by unfold Wcm; omega)]; exact h23 j j0 j1
                                have g37 : ∀ c i, c ≠ 12 → cqm c i → m37 c i = ν c i := fun c i q1 q2 => ((f37 c i q1).trans (f28 c i (by unfold cqm at q2; unfold Wcm; omega))).trans (f23 c i (by unfold cqm at q2; omega))
                                refine ⟨sm_I rfl, hC.moved (fun c i q1 q2 => f21 c i (by unfold Wig Wdy; omega)) g37 (GX.pl (h.spots (fun c i q1 q2 => f21 c i (by unfold gxc at q2; unfold Wig Wdy; omega)) (fun y y0 y1 => r21 y y0 (by omega))) p37) (fun d d0 d1 d2 => ?_) (fun d d0 d1 => ?_), fun c i q => f21 c i (by unfold Wig Wdy; omega), fun c i q => ((f37 c i (by omega)).trans (f28 c i (by unfold Wcm; omega))).trans (f23 c i (by omega))⟩
                                · rw [p37 d d0 (by omega)]; exact hSB d d0 d1 d2
                                · rw [p37 d d0 d1]
                                  have := hBK d d0 d1
                                  omega
                            · refine Rj_aload_n (q := 57) d_M_would_56 rfl rfl rfl ?_
                              refine Rj_gi (q := 60) (ki := 41) (v := τ.2.2.1) gM_M_471_0 rfl rfl ((f37 0 41 (show ¬ (0 : Nat) = 12 by decide)).trans q28.2.2.1) d_M_would_57 rfl ?_
                              refine Rj_goto (t := 76) d_M_would_60 (by decide) ?_
                              refine Rj_iret d_M_would_76 rfl ?_
                              exfalso; omega
                          · refine Rj_aload_n (q := 45) d_M_would_44 rfl rfl rfl ?_
                            refine Rj_gi (q := 48) (ki := 40) (v := τ.2.1) gM_M_468_0 rfl rfl ((f37 0 40 (show ¬ (0 : Nat) = 12 by decide)).trans q28.2.1) d_M_would_45 rfl ?_
                            refine Rj_goto (t := 76) d_M_would_48 (by decide) ?_
                            refine Rj_iret d_M_would_76 rfl ?_
                            exfalso; omega
                        · have c17 := of_decide_eq_false c17
                          refine Rj_iconst (q := 21) d_M_would_20 rfl ?_
                          refine Rj_iret d_M_would_21 rfl ?_
                          exfalso; omega
                · refine Rj_aload_n (q := 15) d_Di_tally_14 rfl rfl rfl ?_
                  refine Rj_gi (q := 18) (ki := 3) (v := τ.2.2.1) gD_Di_27_86 rfl rfl c21.1.2.1 d_Di_tally_15 rfl ?_
                  refine Rj_goto (t := 25) d_Di_tally_18 (by decide) ?_
                  refine Rj_iret d_Di_tally_25 rfl ?_
                  refine Rj_iret d_D_would_42 rfl ?_
                  refine Rj_aload_n (q := 1) d_M_would_0 rfl rfl rfl ?_
                  refine Rj_iload_n (q := 2) d_M_would_1 rfl rfl rfl ?_
                  refine Rj_vo (q := 5) (z := y_M_canPass) (as := [vI a]) (rest := []) (la := [vA 0, vI a]) oM_0_M_canPass ml_M_489 mw_M_canPass mv_M_canPass rfl d_M_would_2 rfl rfl rfl rfl rfl ?_
                  refine Rj_aload_n (q := 1) d_M_canPass_0 rfl rfl rfl ?_
                  refine Rj_gr (q := 4) (zd := 11) gM_M_42_0 rfl rfl d_M_canPass_1 rfl ?_
                  refine Rj_iconst (q := 5) d_M_canPass_4 rfl ?_
                  refine Rj_ia (q := 6) (v := ν 11 0) aM_11 rfl (by decide) rfl d_M_canPass_5 rfl ?_
                  refine Rj_if_le (q := 9) (t := 21) d_M_canPass_6 rfl (by decide) (by first | assumption | exact ⟨by omega, by omega⟩) (fun c2_6 => ?_) (fun c2_6 => ?_)
                  · refine Rj_iconst (q := 22) d_M_canPass_21 rfl ?_
                    refine Rj_bret0 d_M_canPass_22 rfl ?_
                    refine Rj_if_eq (q := 8) (t := 20) d_M_would_5 rfl (by decide) (by decide) (fun _ => ?_) (fun c => absurd c (by decide))
                    refine Rj_iconst (q := 21) d_M_would_20 rfl ?_
                    refine Rj_iret d_M_would_21 rfl ?_
                    exfalso; omega
                  · refine Rj_aload_n (q := 10) d_M_canPass_9 rfl rfl rfl ?_
                    refine Rj_iload_n (q := 11) d_M_canPass_10 rfl rfl rfl ?_
                    refine Rj_vo (q := 14) (z := y_M_isRule) (as := [vI a]) (rest := []) (la := [vA 0, vI a]) oM_0_M_isRule ml_M_486 mw_M_isRule mv_M_isRule rfl d_M_canPass_11 rfl rfl rfl rfl rfl ?_
                    refine Rj_iload_n (q := 1) d_M_isRule_0 rfl rfl rfl ?_
                    refine Rj_if_lt (q := 4) (t := 16) d_M_isRule_1 rfl (by decide) (by first | assumption | exact ⟨by omega, by omega⟩) (fun c2_11_1 => ?_) (fun c2_11_1 => ?_)
                    · refine Rj_iconst (q := 17) d_M_isRule_16 rfl ?_
                      refine Rj_bret0 d_M_isRule_17 rfl ?_
                      refine Rj_if_eq (q := 17) (t := 21) d_M_canPass_14 rfl (by decide) (by decide) (fun _ => ?_) (fun c => absurd c (by decide))
                      refine Rj_iconst (q := 22) d_M_canPass_21 rfl ?_
                      refine Rj_bret0 d_M_canPass_22 rfl ?_
                      refine Rj_if_eq (q := 8) (t := 20) d_M_would_5 rfl (by decide) (by decide) (fun _ => ?_) (fun c => absurd c (by decide))
                      refine Rj_iconst (q := 21) d_M_would_20 rfl ?_
                      refine Rj_iret d_M_would_21 rfl ?_
                      exfalso; omega
                    · refine Rj_iload_n (q := 5) d_M_isRule_4 rfl rfl rfl ?_
                      refine Rj_aload_n (q := 6) d_M_isRule_5 rfl rfl rfl ?_
                      refine Rj_gi (q := 9) (ki := 2) (v := ν 0 2) gM_M_273_0 rfl rfl rfl d_M_isRule_6 rfl ?_
                      refine Rj_icmp_ge (q := 12) (t := 16) d_M_isRule_9 rfl (by decide) (by first | assumption | exact ⟨by omega, by omega⟩) (by first | assumption | exact ⟨by omega, by omega⟩) (fun c2_11_9 => ?_) (fun c2_11_9 => ?_)
                      · refine Rj_iconst (q := 17) d_M_isRule_16 rfl ?_
                        refine Rj_bret0 d_M_isRule_17 rfl ?_
                        refine Rj_if_eq (q := 17) (t := 21) d_M_canPass_14 rfl (by decide) (by decide) (fun _ => ?_) (fun c => absurd c (by decide))
                        refine Rj_iconst (q := 22) d_M_canPass_21 rfl ?_
                        refine Rj_bret0 d_M_canPass_22 rfl ?_
                        refine Rj_if_eq (q := 8) (t := 20) d_M_would_5 rfl (by decide) (by decide) (fun _ => ?_) (fun c => absurd c (by decide))
                        refine Rj_iconst (q := 21) d_M_would_20 rfl ?_
                        refine Rj_iret d_M_would_21 rfl ?_
                        exfalso; omega
                      · refine Rj_iconst (q := 13) d_M_isRule_12 rfl ?_
                        refine Rj_goto (t := 17) d_M_isRule_13 (by decide) ?_
                        refine Rj_bret1 d_M_isRule_17 rfl ?_
                        refine Rj_if_eq (q := 17) (t := 21) d_M_canPass_14 rfl (by decide) (by decide) (fun c => absurd c (by decide)) (fun _ => ?_)
                        refine Rj_iconst (q := 18) d_M_canPass_17 rfl ?_
                        refine Rj_goto (t := 22) d_M_canPass_18 (by decide) ?_
                        refine Rj_bret1 d_M_canPass_22 rfl ?_
                        refine Rj_if_eq (q := 8) (t := 20) d_M_would_5 rfl (by decide) (by decide) (fun c => absurd c (by decide)) (fun _ => ?_)
                        refine Rj_iload_n (q := 9) d_M_would_8 rfl rfl rfl ?_
                        refine Rj_i2l (q := 10) d_M_would_9 rfl (by first | assumption | exact ⟨by omega, by omega⟩) ?_
                        refine Rj_lconst (q := 11) (z := 0) d_M_would_10 rfl rfl ?_
                        refine Rj_ldc2 (q := 14) k_M_495 d_M_would_11 rfl ?_
                        refine Rj_cs (q := 17) (z := y_M_in) (as := [vL b, vL 0, vL 3]) (rest := []) (la := [vL b, vU, vL 0, vU, vL 3, vU]) ml_M_138 mw_M_in ms_M_in d_M_would_14 rfl rfl rfl rfl rfl ?_
                        refine s_M_in ⟨by omega, by omega⟩ (by decide) (by decide) ?_
                        refine Rj_b_ne (q := 20) (t := 22) d_M_would_17 rfl (by decide) (fun c17 => ?_) (fun c17 => ?_)
                        · have c17 := of_decide_eq_true c17
                          refine Rj_aload_n (q := 23) d_M_would_22 rfl rfl rfl ?_
                          refine Rj_vov (q := 26) (z := y_M_keeps) (as := []) (rest := []) (la := [vA 0]) oM_0_M_keeps ml_M_497 mw_M_keeps mv_M_keeps rfl d_M_would_23 rfl rfl rfl rfl rfl ?_
                          refine s_M_keeps (fun m23 f23 h23 => ?_)
                          have u2 : m23 2 = ν 2 := f23.row (fun i q => absurd (show (2 : Nat) = 13 from q) (by decide))
                          have u4 : m23 4 = ν 4 := f23.row (fun i q => absurd (show (4 : Nat) = 13 from q) (by decide))
                          have u5 : m23 5 = ν 5 := f23.row (fun i q => absurd (show (5 : Nat) = 13 from q) (by decide))
                          have u11 : m23 11 = ν 11 := f23.row (fun i q => absurd (show (11 : Nat) = 13 from q) (by decide))
                          have u12 : m23 12 = ν 12 := f23.row (fun i q => absurd (show (12 : Nat) = 13 from q) (by decide))
                          have u14 : m23 14 = ν 14 := f23.row (fun i q => absurd (show (14 : Nat) = 13 from q) (by decide))
                          have u15 : m23 15 = ν 15 := f23.row (fun i q => absurd (show (15 : Nat) = 13 from q) (by decide))
                          have u16 : m23 16 = ν 16 := f23.row (fun i q => absurd (show (16 : Nat) = 13 from q) (by decide))
                          have u17 : m23 17 = ν 17 := f23.row (fun i q => absurd (show (17 : Nat) = 13 from q) (by decide))
                          have hM2 : MX m23 := hM.mv u11 u14 u15 u16 u17 (f23 0 32 (show ¬ (0 : Nat) = 13 by decide)) (by rw [u12]; exact hB)
                          refine Rj_aload_n (q := 27) d_M_would_26 rfl rfl rfl ?_
                          refine Rj_iload_n (q := 28) d_M_would_27 rfl rfl rfl ?_
                          refine Rj_vov (q := 31) (z := y_M_passesDay) (as := [vI a]) (rest := []) (la := [vA 0, vI a]) oM_0_M_passesDay ml_M_492 mw_M_passesDay mv_M_passesDay rfl d_M_would_28 rfl rfl rfl rfl rfl ?_
                          refine s_M_passesDay (K := ((n : Int) * 112000000000000)) hM2 (hRm.kp u4 u5 u2) (by rw [u12]; exact hBK) (by rw [u11, u12]; exact hSB) (by rw [u11]; exact w5.1) (by rw [u11]; exact fun j j0 j1 => (w5.2.2 j j0 j1).1) (by omega) (fun m28 f28 q28 => ?_)
                          rw [u11, u12, u14, u15, u16, u17, eτ] at q28
                          have x11 : m28 11 = ν 11 := (f28.row (fun i q => by unfold Wcm at q; omega)).trans u11
                          have x14 : m28 14 = ν 14 := (f28.row (fun i q => by unfold Wcm at q; omega)).trans u14
                          have x15 : m28 15 = ν 15 := (f28.row (fun i q => by unfold Wcm at q; omega)).trans u15
                          have x16 : m28 16 = ν 16 := (f28.row (fun i q => by unfold Wcm at q; omega)).trans u16
                          have x17 : m28 17 = ν 17 := (f28.row (fun i q => by unfold Wcm at q; omega)).trans u17
                          have hM3 : MX m28 := hM.mv x11 x14 x15 x16 x17 ((f28 0 32 (by unfold Wcm; omega)).trans (f23 0 32 (show ¬ (0 : Nat) = 13 by decide))) (by rw [q28.1]; exact fun y y0 y1 => by have := tI.2.2.2.2.1 y y0 y1; omega)
                          refine Rj_aload_n (q := 32) d_M_would_31 rfl rfl rfl ?_
                          refine Rj_vo (q := 35) (z := y_M_openOnes) (as := []) (rest := []) (la := [vA 0]) oM_0_M_openOnes ml_M_452 mw_M_openOnes mv_M_openOnes rfl d_M_would_32 rfl rfl rfl rfl rfl ?_
                          refine s_M_openOnes hM3 ?_
                          rw [x11, q28.1]
                          refine Rj_istore_n (q := 36) (ls' := [vA 0, vI a, vI b, vI (opS (ν 11) (pts (ν 11)) τ.1 (ν 11 0).toNat)]) d_M_would_35 rfl rfl (by decide) rfl ?_
                          refine Rj_aload_n (q := 37) d_M_would_36 rfl rfl rfl ?_
                          refine Rj_vov (q := 40) (z := y_M_putsBack) (as := []) (rest := []) (la := [vA 0]) oM_0_M_putsBack ml_M_500 mw_M_putsBack mv_M_putsBack rfl d_M_would_37 rfl rfl rfl rfl rfl ?_
                          refine s_M_putsBack (fun m37 f37 h37 => ?_)
                          refine Rj_iload_n (q := 41) d_M_would_40 rfl rfl rfl ?_
                          refine Rj_if_ne (q := 44) (t := 51) d_M_would_41 rfl (by decide) (by first | assumption | exact ⟨by omega, by omega⟩) (fun c41 => ?_) (fun c41 => ?_)
                          · refine Rj_iload_n (q := 52) d_M_would_51 rfl rfl rfl ?_
                            refine Rj_iconst (q := 53) d_M_would_52 rfl ?_
                            refine Rj_icmp_ne (q := 56) (t := 63) d_M_would_53 rfl (by decide) (by first | assumption | exact ⟨by omega, by omega⟩) (by decide) (fun c53 => ?_) (fun c53 => ?_)
                            · refine Rj_iload_n (q := 64) d_M_would_63 rfl rfl rfl ?_
                              refine Rj_iconst (q := 65) d_M_would_64 rfl ?_
                              refine Rj_icmp_ne (q := 68) (t := 75) d_M_would_65 rfl (by decide) (by first | assumption | exact ⟨by omega, by omega⟩) (by decide) (fun c65 => ?_) (fun c65 => ?_)
                              · refine Rj_iload_n (q := 76) d_M_would_75 rfl rfl rfl ?_
                                refine Rj_iret d_M_would_76 rfl ?_
                                exfalso; omega
                              · refine Rj_aload_n (q := 69) d_M_would_68 rfl rfl rfl ?_
                                refine Rj_gi (q := 72) (ki := 42) (v := τ.2.2.2.1) gM_M_474_0 rfl rfl ((f37 0 42 (show ¬ (0 : Nat) = 12 by decide)).trans q28.2.2.2.1) d_M_would_69 rfl ?_
                                refine Rj_goto (t := 76) d_M_would_72 (by decide) ?_
                                refine Rj_iret d_M_would_76 rfl ?_
                                exfalso; omega
                            · refine Rj_aload_n (q := 57) d_M_would_56 rfl rfl rfl ?_
                              refine Rj_gi (q := 60) (ki := 41) (v := τ.2.2.1) gM_M_471_0 rfl rfl ((f37 0 41 (show ¬ (0 : Nat) = 12 by decide)).trans q28.2.2.1) d_M_would_57 rfl ?_
                              refine Rj_goto (t := 76) d_M_would_60 (by decide) ?_
                              refine Rj_iret d_M_would_76 rfl ?_
                              have p37 : ∀ j, 0 ≤ j → j < 12 → m37 12 j = ν 12 j := fun j j0 j1 => by
                                rw [h37 j j0 j1, f28 13 j (by unfold Wcm; omega)]; exact h23 j j0 j1
                              have g37 : ∀ c i, c ≠ 12 → cqm c i → m37 c i = ν c i := fun c i q1 q2 => ((f37 c i q1).trans (f28 c i (by unfold cqm at q2; unfold Wcm; omega))).trans (f23 c i (by unfold cqm at q2; omega))
                              refine ⟨sm_I rfl, hC.moved (fun c i q1 q2 => f21 c i (by unfold Wig Wdy; omega)) g37 (GX.pl (h.spots (fun c i q1 q2 => f21 c i (by unfold gxc at q2; unfold Wig Wdy; omega)) (fun y y0 y1 => r21 y y0 (by omega))) p37) (fun d d0 d1 d2 => ?_) (fun d d0 d1 => ?_), fun c i q => f21 c i (by unfold Wig Wdy; omega), fun c i q => ((f37 c i (by omega)).trans (f28 c i (by unfold Wcm; omega))).trans (f23 c i (by omega))⟩
                              · rw [p37 d d0 (by omega)]; exact hSB d d0 d1 d2
                              · rw [p37 d d0 d1]
                                have := hBK d d0 d1
                                omega
                          · refine Rj_aload_n (q := 45) d_M_would_44 rfl rfl rfl ?_
                            refine Rj_gi (q := 48) (ki := 40) (v := τ.2.1) gM_M_468_0 rfl rfl ((f37 0 40 (show ¬ (0 : Nat) = 12 by decide)).trans q28.2.1) d_M_would_45 rfl ?_
                            refine Rj_goto (t := 76) d_M_would_48 (by decide) ?_
                            refine Rj_iret d_M_would_76 rfl ?_
                            exfalso; omega
                        · have c17 := of_decide_eq_false c17
                          refine Rj_iconst (q := 21) d_M_would_20 rfl ?_
                          refine Rj_iret d_M_would_21 rfl ?_
                          exfalso; omega
              · refine Rj_aload_n (q := 5) d_Di_tally_4 rfl rfl rfl ?_
                refine Rj_gi (q := 8) (ki := 2) (v := τ.2.1) gD_Di_23_86 rfl rfl c21.1.1 d_Di_tally_5 rfl ?_
                refine Rj_iret d_Di_tally_8 rfl ?_
                refine Rj_iret d_D_would_42 rfl ?_
                refine Rj_aload_n (q := 1) d_M_would_0 rfl rfl rfl ?_
                refine Rj_iload_n (q := 2) d_M_would_1 rfl rfl rfl ?_
                refine Rj_vo (q := 5) (z := y_M_canPass) (as := [vI a]) (rest := []) (la := [vA 0, vI a]) oM_0_M_canPass ml_M_489 mw_M_canPass mv_M_canPass rfl d_M_would_2 rfl rfl rfl rfl rfl ?_
                refine Rj_aload_n (q := 1) d_M_canPass_0 rfl rfl rfl ?_
                refine Rj_gr (q := 4) (zd := 11) gM_M_42_0 rfl rfl d_M_canPass_1 rfl ?_
                refine Rj_iconst (q := 5) d_M_canPass_4 rfl ?_
                refine Rj_ia (q := 6) (v := ν 11 0) aM_11 rfl (by decide) rfl d_M_canPass_5 rfl ?_
                refine Rj_if_le (q := 9) (t := 21) d_M_canPass_6 rfl (by decide) (by first | assumption | exact ⟨by omega, by omega⟩) (fun c2_6 => ?_) (fun c2_6 => ?_)
                · refine Rj_iconst (q := 22) d_M_canPass_21 rfl ?_
                  refine Rj_bret0 d_M_canPass_22 rfl ?_
                  refine Rj_if_eq (q := 8) (t := 20) d_M_would_5 rfl (by decide) (by decide) (fun _ => ?_) (fun c => absurd c (by decide))
                  refine Rj_iconst (q := 21) d_M_would_20 rfl ?_
                  refine Rj_iret d_M_would_21 rfl ?_
                  exfalso; omega
                · refine Rj_aload_n (q := 10) d_M_canPass_9 rfl rfl rfl ?_
                  refine Rj_iload_n (q := 11) d_M_canPass_10 rfl rfl rfl ?_
                  refine Rj_vo (q := 14) (z := y_M_isRule) (as := [vI a]) (rest := []) (la := [vA 0, vI a]) oM_0_M_isRule ml_M_486 mw_M_isRule mv_M_isRule rfl d_M_canPass_11 rfl rfl rfl rfl rfl ?_
                  refine Rj_iload_n (q := 1) d_M_isRule_0 rfl rfl rfl ?_
                  refine Rj_if_lt (q := 4) (t := 16) d_M_isRule_1 rfl (by decide) (by first | assumption | exact ⟨by omega, by omega⟩) (fun c2_11_1 => ?_) (fun c2_11_1 => ?_)
                  · refine Rj_iconst (q := 17) d_M_isRule_16 rfl ?_
                    refine Rj_bret0 d_M_isRule_17 rfl ?_
                    refine Rj_if_eq (q := 17) (t := 21) d_M_canPass_14 rfl (by decide) (by decide) (fun _ => ?_) (fun c => absurd c (by decide))
                    refine Rj_iconst (q := 22) d_M_canPass_21 rfl ?_
                    refine Rj_bret0 d_M_canPass_22 rfl ?_
                    refine Rj_if_eq (q := 8) (t := 20) d_M_would_5 rfl (by decide) (by decide) (fun _ => ?_) (fun c => absurd c (by decide))
                    refine Rj_iconst (q := 21) d_M_would_20 rfl ?_
                    refine Rj_iret d_M_would_21 rfl ?_
                    exfalso; omega
                  · refine Rj_iload_n (q := 5) d_M_isRule_4 rfl rfl rfl ?_
                    refine Rj_aload_n (q := 6) d_M_isRule_5 rfl rfl rfl ?_
                    refine Rj_gi (q := 9) (ki := 2) (v := ν 0 2) gM_M_273_0 rfl rfl rfl d_M_isRule_6 rfl ?_
                    refine Rj_icmp_ge (q := 12) (t := 16) d_M_isRule_9 rfl (by decide) (by first | assumption | exact ⟨by omega, by omega⟩) (by first | assumption | exact ⟨by omega, by omega⟩) (fun c2_11_9 => ?_) (fun c2_11_9 => ?_)
                    · refine Rj_iconst (q := 17) d_M_isRule_16 rfl ?_
                      refine Rj_bret0 d_M_isRule_17 rfl ?_
                      refine Rj_if_eq (q := 17) (t := 21) d_M_canPass_14 rfl (by decide) (by decide) (fun _ => ?_) (fun c => absurd c (by decide))
                      refine Rj_iconst (q := 22) d_M_canPass_21 rfl ?_
                      refine Rj_bret0 d_M_canPass_22 rfl ?_
                      refine Rj_if_eq (q := 8) (t := 20) d_M_would_5 rfl (by decide) (by decide) (fun _ => ?_) (fun c => absurd c (by decide))
                      refine Rj_iconst (q := 21) d_M_would_20 rfl ?_
                      refine Rj_iret d_M_would_21 rfl ?_
                      exfalso; omega
                    · refine Rj_iconst (q := 13) d_M_isRule_12 rfl ?_
                      refine Rj_goto (t := 17) d_M_isRule_13 (by decide) ?_
                      refine Rj_bret1 d_M_isRule_17 rfl ?_
                      refine Rj_if_eq (q := 17) (t := 21) d_M_canPass_14 rfl (by decide) (by decide) (fun c => absurd c (by decide)) (fun _ => ?_)
                      refine Rj_iconst (q := 18) d_M_canPass_17 rfl ?_
                      refine Rj_goto (t := 22) d_M_canPass_18 (by decide) ?_
                      refine Rj_bret1 d_M_canPass_22 rfl ?_
                      refine Rj_if_eq (q := 8) (t := 20) d_M_would_5 rfl (by decide) (by decide) (fun c => absurd c (by decide)) (fun _ => ?_)
                      refine Rj_iload_n (q := 9) d_M_would_8 rfl rfl rfl ?_
                      refine Rj_i2l (q := 10) d_M_would_9 rfl (by first | assumption | exact ⟨by omega, by omega⟩) ?_
                      refine Rj_lconst (q := 11) (z := 0) d_M_would_10 rfl rfl ?_
                      refine Rj_ldc2 (q := 14) k_M_495 d_M_would_11 rfl ?_
                      refine Rj_cs (q := 17) (z := y_M_in) (as := [vL b, vL 0, vL 3]) (rest := []) (la := [vL b, vU, vL 0, vU, vL 3, vU]) ml_M_138 mw_M_in ms_M_in d_M_would_14 rfl rfl rfl rfl rfl ?_
                      refine s_M_in ⟨by omega, by omega⟩ (by decide) (by decide) ?_
                      refine Rj_b_ne (q := 20) (t := 22) d_M_would_17 rfl (by decide) (fun c17 => ?_) (fun c17 => ?_)
                      · have c17 := of_decide_eq_true c17
                        refine Rj_aload_n (q := 23) d_M_would_22 rfl rfl rfl ?_
                        refine Rj_vov (q := 26) (z := y_M_keeps) (as := []) (rest := []) (la := [vA 0]) oM_0_M_keeps ml_M_497 mw_M_keeps mv_M_keeps rfl d_M_would_23 rfl rfl rfl rfl rfl ?_
                        refine s_M_keeps (fun m23 f23 h23 => ?_)
                        have u2 : m23 2 = ν 2 := f23.row (fun i q => absurd (show (2 : Nat) = 13 from q) (by decide))
                        have u4 : m23 4 = ν 4 := f23.row (fun i q => absurd (show (4 : Nat) = 13 from q) (by decide))
                        have u5 : m23 5 = ν 5 := f23.row (fun i q => absurd (show (5 : Nat) = 13 from q) (by decide))
                        have u11 : m23 11 = ν 11 := f23.row (fun i q => absurd (show (11 : Nat) = 13 from q) (by decide))
                        have u12 : m23 12 = ν 12 := f23.row (fun i q => absurd (show (12 : Nat) = 13 from q) (by decide))
                        have u14 : m23 14 = ν 14 := f23.row (fun i q => absurd (show (14 : Nat) = 13 from q) (by decide))
                        have u15 : m23 15 = ν 15 := f23.row (fun i q => absurd (show (15 : Nat) = 13 from q) (by decide))
                        have u16 : m23 16 = ν 16 := f23.row (fun i q => absurd (show (16 : Nat) = 13 from q) (by decide))
                        have u17 : m23 17 = ν 17 := f23.row (fun i q => absurd (show (17 : Nat) = 13 from q) (by decide))
                        have hM2 : MX m23 := hM.mv u11 u14 u15 u16 u17 (f23 0 32 (show ¬ (0 : Nat) = 13 by decide)) (by rw [u12]; exact hB)
                        refine Rj_aload_n (q := 27) d_M_would_26 rfl rfl rfl ?_
                        refine Rj_iload_n (q := 28) d_M_would_27 rfl rfl rfl ?_
                        refine Rj_vov (q := 31) (z := y_M_passesDay) (as := [vI a]) (rest := []) (la := [vA 0, vI a]) oM_0_M_passesDay ml_M_492 mw_M_passesDay mv_M_passesDay rfl d_M_would_28 rfl rfl rfl rfl rfl ?_
                        refine s_M_passesDay (K := ((n : Int) * 112000000000000)) hM2 (hRm.kp u4 u5 u2) (by rw [u12]; exact hBK) (by rw [u11, u12]; exact hSB) (by rw [u11]; exact w5.1) (by rw [u11]; exact fun j j0 j1 => (w5.2.2 j j0 j1).1) (by omega) (fun m28 f28 q28 => ?_)
                        rw [u11, u12, u14, u15, u16, u17, eτ] at q28
                        have x11 : m28 11 = ν 11 := (f28.row (fun i q => by unfold Wcm at q; omega)).trans u11
                        have x14 : m28 14 = ν 14 := (f28.row (fun i q => by unfold Wcm at q; omega)).trans u14
                        have x15 : m28 15 = ν 15 := (f28.row (fun i q => by unfold Wcm at q; omega)).trans u15
                        have x16 : m28 16 = ν 16 := (f28.row (fun i q => by unfold Wcm at q; omega)).trans u16
                        have x17 : m28 17 = ν 17 := (f28.row (fun i q => by unfold Wcm at q; omega)).trans u17
                        have hM3 : MX m28 := hM.mv x11 x14 x15 x16 x17 ((f28 0 32 (by unfold Wcm; omega)).trans (f23 0 32 (show ¬ (0 : Nat) = 13 by decide))) (by rw [q28.1]; exact fun y y0 y1 => by have := tI.2.2.2.2.1 y y0 y1; omega)
                        refine Rj_aload_n (q := 32) d_M_would_31 rfl rfl rfl ?_
                        refine Rj_vo (q := 35) (z := y_M_openOnes) (as := []) (rest := []) (la := [vA 0]) oM_0_M_openOnes ml_M_452 mw_M_openOnes mv_M_openOnes rfl d_M_would_32 rfl rfl rfl rfl rfl ?_
                        refine s_M_openOnes hM3 ?_
                        rw [x11, q28.1]
                        refine Rj_istore_n (q := 36) (ls' := [vA 0, vI a, vI b, vI (opS (ν 11) (pts (ν 11)) τ.1 (ν 11 0).toNat)]) d_M_would_35 rfl rfl (by decide) rfl ?_
                        refine Rj_aload_n (q := 37) d_M_would_36 rfl rfl rfl ?_
                        refine Rj_vov (q := 40) (z := y_M_putsBack) (as := []) (rest := []) (la := [vA 0]) oM_0_M_putsBack ml_M_500 mw_M_putsBack mv_M_putsBack rfl d_M_would_37 rfl rfl rfl rfl rfl ?_
                        refine s_M_putsBack (fun m37 f37 h37 => ?_)
                        refine Rj_iload_n (q := 41) d_M_would_40 rfl rfl rfl ?_
                        refine Rj_if_ne (q := 44) (t := 51) d_M_would_41 rfl (by decide) (by first | assumption | exact ⟨by omega, by omega⟩) (fun c41 => ?_) (fun c41 => ?_)
                        · refine Rj_iload_n (q := 52) d_M_would_51 rfl rfl rfl ?_
                          refine Rj_iconst (q := 53) d_M_would_52 rfl ?_
                          refine Rj_icmp_ne (q := 56) (t := 63) d_M_would_53 rfl (by decide) (by first | assumption | exact ⟨by omega, by omega⟩) (by decide) (fun c53 => ?_) (fun c53 => ?_)
                          · refine Rj_iload_n (q := 64) d_M_would_63 rfl rfl rfl ?_
                            refine Rj_iconst (q := 65) d_M_would_64 rfl ?_
                            refine Rj_icmp_ne (q := 68) (t := 75) d_M_would_65 rfl (by decide) (by first | assumption | exact ⟨by omega, by omega⟩) (by decide) (fun c65 => ?_) (fun c65 => ?_)
                            · refine Rj_iload_n (q := 76) d_M_would_75 rfl rfl rfl ?_
                              refine Rj_iret d_M_would_76 rfl ?_
                              exfalso; omega
                            · refine Rj_aload_n (q := 69) d_M_would_68 rfl rfl rfl ?_
                              refine Rj_gi (q := 72) (ki := 42) (v := τ.2.2.2.1) gM_M_474_0 rfl rfl ((f37 0 42 (show ¬ (0 : Nat) = 12 by decide)).trans q28.2.2.2.1) d_M_would_69 rfl ?_
                              refine Rj_goto (t := 76) d_M_would_72 (by decide) ?_
                              refine Rj_iret d_M_would_76 rfl ?_
                              exfalso; omega
                          · refine Rj_aload_n (q := 57) d_M_would_56 rfl rfl rfl ?_
                            refine Rj_gi (q := 60) (ki := 41) (v := τ.2.2.1) gM_M_471_0 rfl rfl ((f37 0 41 (show ¬ (0 : Nat) = 12 by decide)).trans q28.2.2.1) d_M_would_57 rfl ?_
                            refine Rj_goto (t := 76) d_M_would_60 (by decide) ?_
                            refine Rj_iret d_M_would_76 rfl ?_
                            exfalso; omega
                        · refine Rj_aload_n (q := 45) d_M_would_44 rfl rfl rfl ?_
                          refine Rj_gi (q := 48) (ki := 40) (v := τ.2.1) gM_M_468_0 rfl rfl ((f37 0 40 (show ¬ (0 : Nat) = 12 by decide)).trans q28.2.1) d_M_would_45 rfl ?_
                          refine Rj_goto (t := 76) d_M_would_48 (by decide) ?_
                          refine Rj_iret d_M_would_76 rfl ?_
                          have p37 : ∀ j, 0 ≤ j → j < 12 → m37 12 j = ν 12 j := fun j j0 j1 => by
                            rw [h37 j j0 j1, f28 13 j (by unfold Wcm; omega)]; exact h23 j j0 j1
                          have g37 : ∀ c i, c ≠ 12 → cqm c i → m37 c i = ν c i := fun c i q1 q2 => ((f37 c i q1).trans (f28 c i (by unfold cqm at q2; unfold Wcm; omega))).trans (f23 c i (by unfold cqm at q2; omega))
                          refine ⟨sm_I rfl, hC.moved (fun c i q1 q2 => f21 c i (by unfold Wig Wdy; omega)) g37 (GX.pl (h.spots (fun c i q1 q2 => f21 c i (by unfold gxc at q2; unfold Wig Wdy; omega)) (fun y y0 y1 => r21 y y0 (by omega))) p37) (fun d d0 d1 d2 => ?_) (fun d d0 d1 => ?_), fun c i q => f21 c i (by unfold Wig Wdy; omega), fun c i q => ((f37 c i (by omega)).trans (f28 c i (by unfold Wcm; omega))).trans (f23 c i (by omega))⟩
                          · rw [p37 d d0 (by omega)]; exact hSB d d0 d1 d2
                          · rw [p37 d d0 d1]
                            have := hBK d d0 d1
                            omega
                      · have c17 := of_decide_eq_false c17
                        refine Rj_iconst (q := 21) d_M_would_20 rfl ?_
                        refine Rj_iret d_M_would_21 rfl ?_
                        exfalso; omega
            · refine Rj_iload_n (q := 31) d_D_would_30 rfl rfl rfl ?_
              refine Rj_goto (t := 42) d_D_would_31 (by decide) ?_
              refine Rj_iret d_D_would_42 rfl ?_
              refine Rj_aload_n (q := 1) d_M_would_0 rfl rfl rfl ?_
              refine Rj_iload_n (q := 2) d_M_would_1 rfl rfl rfl ?_
              refine Rj_vo (q := 5) (z := y_M_canPass) (as := [vI a]) (rest := []) (la := [vA 0, vI a]) oM_0_M_canPass ml_M_489 mw_M_canPass mv_M_canPass rfl d_M_would_2 rfl rfl rfl rfl rfl ?_
              refine Rj_aload_n (q := 1) d_M_canPass_0 rfl rfl rfl ?_
              refine Rj_gr (q := 4) (zd := 11) gM_M_42_0 rfl rfl d_M_canPass_1 rfl ?_
              refine Rj_iconst (q := 5) d_M_canPass_4 rfl ?_
              refine Rj_ia (q := 6) (v := ν 11 0) aM_11 rfl (by decide) rfl d_M_canPass_5 rfl ?_
              refine Rj_if_le (q := 9) (t := 21) d_M_canPass_6 rfl (by decide) (by first | assumption | exact ⟨by omega, by omega⟩) (fun c2_6 => ?_) (fun c2_6 => ?_)
              · refine Rj_iconst (q := 22) d_M_canPass_21 rfl ?_
                refine Rj_bret0 d_M_canPass_22 rfl ?_
                refine Rj_if_eq (q := 8) (t := 20) d_M_would_5 rfl (by decide) (by decide) (fun _ => ?_) (fun c => absurd c (by decide))
                refine Rj_iconst (q := 21) d_M_would_20 rfl ?_
                refine Rj_iret d_M_would_21 rfl ?_
                exfalso; omega
              · refine Rj_aload_n (q := 10) d_M_canPass_9 rfl rfl rfl ?_
                refine Rj_iload_n (q := 11) d_M_canPass_10 rfl rfl rfl ?_
                refine Rj_vo (q := 14) (z := y_M_isRule) (as := [vI a]) (rest := []) (la := [vA 0, vI a]) oM_0_M_isRule ml_M_486 mw_M_isRule mv_M_isRule rfl d_M_canPass_11 rfl rfl rfl rfl rfl ?_
                refine Rj_iload_n (q := 1) d_M_isRule_0 rfl rfl rfl ?_
                refine Rj_if_lt (q := 4) (t := 16) d_M_isRule_1 rfl (by decide) (by first | assumption | exact ⟨by omega, by omega⟩) (fun c2_11_1 => ?_) (fun c2_11_1 => ?_)
                · refine Rj_iconst (q := 17) d_M_isRule_16 rfl ?_
                  refine Rj_bret0 d_M_isRule_17 rfl ?_
                  refine Rj_if_eq (q := 17) (t := 21) d_M_canPass_14 rfl (by decide) (by decide) (fun _ => ?_) (fun c => absurd c (by decide))
                  refine Rj_iconst (q := 22) d_M_canPass_21 rfl ?_
                  refine Rj_bret0 d_M_canPass_22 rfl ?_
                  refine Rj_if_eq (q := 8) (t := 20) d_M_would_5 rfl (by decide) (by decide) (fun _ => ?_) (fun c => absurd c (by decide))
                  refine Rj_iconst (q := 21) d_M_would_20 rfl ?_
                  refine Rj_iret d_M_would_21 rfl ?_
                  exfalso; omega
                · refine Rj_iload_n (q := 5) d_M_isRule_4 rfl rfl rfl ?_
                  refine Rj_aload_n (q := 6) d_M_isRule_5 rfl rfl rfl ?_
                  refine Rj_gi (q := 9) (ki := 2) (v := ν 0 2) gM_M_273_0 rfl rfl rfl d_M_isRule_6 rfl ?_
                  refine Rj_icmp_ge (q := 12) (t := 16) d_M_isRule_9 rfl (by decide) (by first | assumption | exact ⟨by omega, by omega⟩) (by first | assumption | exact ⟨by omega, by omega⟩) (fun c2_11_9 => ?_) (fun c2_11_9 => ?_)
                  · refine Rj_iconst (q := 17) d_M_isRule_16 rfl ?_
                    refine Rj_bret0 d_M_isRule_17 rfl ?_
                    refine Rj_if_eq (q := 17) (t := 21) d_M_canPass_14 rfl (by decide) (by decide) (fun _ => ?_) (fun c => absurd c (by decide))
                    refine Rj_iconst (q := 22) d_M_canPass_21 rfl ?_
                    refine Rj_bret0 d_M_canPass_22 rfl ?_
                    refine Rj_if_eq (q := 8) (t := 20) d_M_would_5 rfl (by decide) (by decide) (fun _ => ?_) (fun c => absurd c (by decide))
                    refine Rj_iconst (q := 21) d_M_would_20 rfl ?_
                    refine Rj_iret d_M_would_21 rfl ?_
                    exfalso; omega
                  · refine Rj_iconst (q := 13) d_M_isRule_12 rfl ?_
                    refine Rj_goto (t := 17) d_M_isRule_13 (by decide) ?_
                    refine Rj_bret1 d_M_isRule_17 rfl ?_
                    refine Rj_if_eq (q := 17) (t := 21) d_M_canPass_14 rfl (by decide) (by decide) (fun c => absurd c (by decide)) (fun _ => ?_)
                    refine Rj_iconst (q := 18) d_M_canPass_17 rfl ?_
                    refine Rj_goto (t := 22) d_M_canPass_18 (by decide) ?_
                    refine Rj_bret1 d_M_canPass_22 rfl ?_
                    refine Rj_if_eq (q := 8) (t := 20) d_M_would_5 rfl (by decide) (by decide) (fun c => absurd c (by decide)) (fun _ => ?_)
                    refine Rj_iload_n (q := 9) d_M_would_8 rfl rfl rfl ?_
                    refine Rj_i2l (q := 10) d_M_would_9 rfl (by first | assumption | exact ⟨by omega, by omega⟩) ?_
                    refine Rj_lconst (q := 11) (z := 0) d_M_would_10 rfl rfl ?_
                    refine Rj_ldc2 (q := 14) k_M_495 d_M_would_11 rfl ?_
                    refine Rj_cs (q := 17) (z := y_M_in) (as := [vL b, vL 0, vL 3]) (rest := []) (la := [vL b, vU, vL 0, vU, vL 3, vU]) ml_M_138 mw_M_in ms_M_in d_M_would_14 rfl rfl rfl rfl rfl ?_
                    refine s_M_in ⟨by omega, by omega⟩ (by decide) (by decide) ?_
                    refine Rj_b_ne (q := 20) (t := 22) d_M_would_17 rfl (by decide) (fun c17 => ?_) (fun c17 => ?_)
                    · have c17 := of_decide_eq_true c17
                      refine Rj_aload_n (q := 23) d_M_would_22 rfl rfl rfl ?_
                      refine Rj_vov (q := 26) (z := y_M_keeps) (as := []) (rest := []) (la := [vA 0]) oM_0_M_keeps ml_M_497 mw_M_keeps mv_M_keeps rfl d_M_would_23 rfl rfl rfl rfl rfl ?_
                      refine s_M_keeps (fun m23 f23 h23 => ?_)
                      have u2 : m23 2 = ν 2 := f23.row (fun i q => absurd (show (2 : Nat) = 13 from q) (by decide))
                      have u4 : m23 4 = ν 4 := f23.row (fun i q => absurd (show (4 : Nat) = 13 from q) (by decide))
                      have u5 : m23 5 = ν 5 := f23.row (fun i q => absurd (show (5 : Nat) = 13 from q) (by decide))
                      have u11 : m23 11 = ν 11 := f23.row (fun i q => absurd (show (11 : Nat) = 13 from q) (by decide))
                      have u12 : m23 12 = ν 12 := f23.row (fun i q => absurd (show (12 : Nat) = 13 from q) (by decide))
                      have u14 : m23 14 = ν 14 := f23.row (fun i q => absurd (show (14 : Nat) = 13 from q) (by decide))
                      have u15 : m23 15 = ν 15 := f23.row (fun i q => absurd (show (15 : Nat) = 13 from q) (by decide))
                      have u16 : m23 16 = ν 16 := f23.row (fun i q => absurd (show (16 : Nat) = 13 from q) (by decide))
                      have u17 : m23 17 = ν 17 := f23.row (fun i q => absurd (show (17 : Nat) = 13 from q) (by decide))
                      have hM2 : MX m23 := hM.mv u11 u14 u15 u16 u17 (f23 0 32 (show ¬ (0 : Nat) = 13 by decide)) (by rw [u12]; exact hB)
                      refine Rj_aload_n (q := 27) d_M_would_26 rfl rfl rfl ?_
                      refine Rj_iload_n (q := 28) d_M_would_27 rfl rfl rfl ?_
                      refine Rj_vov (q := 31) (z := y_M_passesDay) (as := [vI a]) (rest := []) (la := [vA 0, vI a]) oM_0_M_passesDay ml_M_492 mw_M_passesDay mv_M_passesDay rfl d_M_would_28 rfl rfl rfl rfl rfl ?_
                      refine s_M_passesDay (K := ((n : Int) * 112000000000000)) hM2 (hRm.kp u4 u5 u2) (by rw [u12]; exact hBK) (by rw [u11, u12]; exact hSB) (by rw [u11]; exact w5.1) (by rw [u11]; exact fun j j0 j1 => (w5.2.2 j j0 j1).1) (by omega) (fun m28 f28 q28 => ?_)
                      rw [u11, u12, u14, u15, u16, u17, eτ] at q28
                      have x11 : m28 11 = ν 11 := (f28.row (fun i q => by unfold Wcm at q; omega)).trans u11
                      have x14 : m28 14 = ν 14 := (f28.row (fun i q => by unfold Wcm at q; omega)).trans u14
                      have x15 : m28 15 = ν 15 := (f28.row (fun i q => by unfold Wcm at q; omega)).trans u15
                      have x16 : m28 16 = ν 16 := (f28.row (fun i q => by unfold Wcm at q; omega)).trans u16
                      have x17 : m28 17 = ν 17 := (f28.row (fun i q => by unfold Wcm at q; omega)).trans u17
                      have hM3 : MX m28 := hM.mv x11 x14 x15 x16 x17 ((f28 0 32 (by unfold Wcm; omega)).trans (f23 0 32 (show ¬ (0 : Nat) = 13 by decide))) (by rw [q28.1]; exact fun y y0 y1 => by have := tI.2.2.2.2.1 y y0 y1; omega)
                      refine Rj_aload_n (q := 32) d_M_would_31 rfl rfl rfl ?_
                      refine Rj_vo (q := 35) (z := y_M_openOnes) (as := []) (rest := []) (la := [vA 0]) oM_0_M_openOnes ml_M_452 mw_M_openOnes mv_M_openOnes rfl d_M_would_32 rfl rfl rfl rfl rfl ?_
                      refine s_M_openOnes hM3 ?_
                      rw [x11, q28.1]
                      refine Rj_istore_n (q := 36) (ls' := [vA 0, vI a, vI b, vI (opS (ν 11) (pts (ν 11)) τ.1 (ν 11 0).toNat)]) d_M_would_35 rfl rfl (by decide) rfl ?_
                      refine Rj_aload_n (q := 37) d_M_would_36 rfl rfl rfl ?_
                      refine Rj_vov (q := 40) (z := y_M_putsBack) (as := []) (rest := []) (la := [vA 0]) oM_0_M_putsBack ml_M_500 mw_M_putsBack mv_M_putsBack rfl d_M_would_37 rfl rfl rfl rfl rfl ?_
                      refine s_M_putsBack (fun m37 f37 h37 => ?_)
                      refine Rj_iload_n (q := 41) d_M_would_40 rfl rfl rfl ?_
                      refine Rj_if_ne (q := 44) (t := 51) d_M_would_41 rfl (by decide) (by first | assumption | exact ⟨by omega, by omega⟩) (fun c41 => ?_) (fun c41 => ?_)
                      · refine Rj_iload_n (q := 52) d_M_would_51 rfl rfl rfl ?_
                        refine Rj_iconst (q := 53) d_M_would_52 rfl ?_
                        refine Rj_icmp_ne (q := 56) (t := 63) d_M_would_53 rfl (by decide) (by first | assumption | exact ⟨by omega, by omega⟩) (by decide) (fun c53 => ?_) (fun c53 => ?_)
                        · refine Rj_iload_n (q := 64) d_M_would_63 rfl rfl rfl ?_
                          refine Rj_iconst (q := 65) d_M_would_64 rfl ?_
                          refine Rj_icmp_ne (q := 68) (t := 75) d_M_would_65 rfl (by decide) (by first | assumption | exact ⟨by omega, by omega⟩) (by decide) (fun c65 => ?_) (fun c65 => ?_)
                          · refine Rj_iload_n (q := 76) d_M_would_75 rfl rfl rfl ?_
                            refine Rj_iret d_M_would_76 rfl ?_
                            have p37 : ∀ j, 0 ≤ j → j < 12 → m37 12 j = ν 12 j := fun j j0 j1 => by
                              rw [h37 j j0 j1, f28 13 j (by unfold Wcm; omega)]; exact h23 j j0 j1
                            have g37 : ∀ c i, c ≠ 12 → cqm c i → m37 c i = ν c i := fun c i q1 q2 => ((f37 c i q1).trans (f28 c i (by unfold cqm at q2; unfold Wcm; omega))).trans (f23 c i (by unfold cqm at q2; omega))
                            refine ⟨sm_I rfl, hC.moved (fun c i q1 q2 => f21 c i (by unfold Wig Wdy; omega)) g37 (GX.pl (h.spots (fun c i q1 q2 => f21 c i (by unfold gxc at q2; unfold Wig Wdy; omega)) (fun y y0 y1 => r21 y y0 (by omega))) p37) (fun d d0 d1 d2 => ?_) (fun d d0 d1 => ?_), fun c i q => f21 c i (by unfold Wig Wdy; omega), fun c i q => ((f37 c i (by omega)).trans (f28 c i (by unfold Wcm; omega))).trans (f23 c i (by omega))⟩
                            · rw [p37 d d0 (by omega)]; exact hSB d d0 d1 d2
                            · rw [p37 d d0 d1]
                              have := hBK d d0 d1
                              omega
                          · refine Rj_aload_n (q := 69) d_M_would_68 rfl rfl rfl ?_
                            refine Rj_gi (q := 72) (ki := 42) (v := τ.2.2.2.1) gM_M_474_0 rfl rfl ((f37 0 42 (show ¬ (0 : Nat) = 12 by decide)).trans q28.2.2.2.1) d_M_would_69 rfl ?_
                            refine Rj_goto (t := 76) d_M_would_72 (by decide) ?_
                            refine Rj_iret d_M_would_76 rfl ?_
                            exfalso; omega
                        · refine Rj_aload_n (q := 57) d_M_would_56 rfl rfl rfl ?_
                          refine Rj_gi (q := 60) (ki := 41) (v := τ.2.2.1) gM_M_471_0 rfl rfl ((f37 0 41 (show ¬ (0 : Nat) = 12 by decide)).trans q28.2.2.1) d_M_would_57 rfl ?_
                          refine Rj_goto (t := 76) d_M_would_60 (by decide) ?_
                          refine Rj_iret d_M_would_76 rfl ?_
                          exfalso; omega
                      · refine Rj_aload_n (q := 45) d_M_would_44 rfl rfl rfl ?_
                        refine Rj_gi (q := 48) (ki := 40) (v := τ.2.1) gM_M_468_0 rfl rfl ((f37 0 40 (show ¬ (0 : Nat) = 12 by decide)).trans q28.2.1) d_M_would_45 rfl ?_
                        refine Rj_goto (t := 76) d_M_would_48 (by decide) ?_
                        refine Rj_iret d_M_would_76 rfl ?_
                        exfalso; omega
                    · have c17 := of_decide_eq_false c17
                      refine Rj_iconst (q := 21) d_M_would_20 rfl ?_
                      refine Rj_iret d_M_would_21 rfl ?_
                      exfalso; omega
          · refine Rj_iconst (q := 18) d_D_would_17 rfl ?_
            refine Rj_iret d_D_would_18 rfl ?_
            refine Rj_aload_n (q := 1) d_M_would_0 rfl rfl rfl ?_
            refine Rj_iload_n (q := 2) d_M_would_1 rfl rfl rfl ?_
            refine Rj_vo (q := 5) (z := y_M_canPass) (as := [vI a]) (rest := []) (la := [vA 0, vI a]) oM_0_M_canPass ml_M_489 mw_M_canPass mv_M_canPass rfl d_M_would_2 rfl rfl rfl rfl rfl ?_
            refine Rj_aload_n (q := 1) d_M_canPass_0 rfl rfl rfl ?_
            refine Rj_gr (q := 4) (zd := 11) gM_M_42_0 rfl rfl d_M_canPass_1 rfl ?_
            refine Rj_iconst (q := 5) d_M_canPass_4 rfl ?_
            refine Rj_ia (q := 6) (v := ν 11 0) aM_11 rfl (by decide) rfl d_M_canPass_5 rfl ?_
            refine Rj_if_le (q := 9) (t := 21) d_M_canPass_6 rfl (by decide) (by first | assumption | exact ⟨by omega, by omega⟩) (fun c2_6 => ?_) (fun c2_6 => ?_)
            · refine Rj_iconst (q := 22) d_M_canPass_21 rfl ?_
              refine Rj_bret0 d_M_canPass_22 rfl ?_
              refine Rj_if_eq (q := 8) (t := 20) d_M_would_5 rfl (by decide) (by decide) (fun _ => ?_) (fun c => absurd c (by decide))
              refine Rj_iconst (q := 21) d_M_would_20 rfl ?_
              refine Rj_iret d_M_would_21 rfl ?_
              exact ⟨sm_I rfl, hC1, kp0 _, kq0 _⟩
            · refine Rj_aload_n (q := 10) d_M_canPass_9 rfl rfl rfl ?_
              refine Rj_iload_n (q := 11) d_M_canPass_10 rfl rfl rfl ?_
              refine Rj_vo (q := 14) (z := y_M_isRule) (as := [vI a]) (rest := []) (la := [vA 0, vI a]) oM_0_M_isRule ml_M_486 mw_M_isRule mv_M_isRule rfl d_M_canPass_11 rfl rfl rfl rfl rfl ?_
              refine Rj_iload_n (q := 1) d_M_isRule_0 rfl rfl rfl ?_
              refine Rj_if_lt (q := 4) (t := 16) d_M_isRule_1 rfl (by decide) (by first | assumption | exact ⟨by omega, by omega⟩) (fun c2_11_1 => ?_) (fun c2_11_1 => ?_)
              · refine Rj_iconst (q := 17) d_M_isRule_16 rfl ?_
                refine Rj_bret0 d_M_isRule_17 rfl ?_
                refine Rj_if_eq (q := 17) (t := 21) d_M_canPass_14 rfl (by decide) (by decide) (fun _ => ?_) (fun c => absurd c (by decide))
                refine Rj_iconst (q := 22) d_M_canPass_21 rfl ?_
                refine Rj_bret0 d_M_canPass_22 rfl ?_
                refine Rj_if_eq (q := 8) (t := 20) d_M_would_5 rfl (by decide) (by decide) (fun _ => ?_) (fun c => absurd c (by decide))
                refine Rj_iconst (q := 21) d_M_would_20 rfl ?_
                refine Rj_iret d_M_would_21 rfl ?_
                exact ⟨sm_I rfl, hC1, kp0 _, kq0 _⟩
              · refine Rj_iload_n (q := 5) d_M_isRule_4 rfl rfl rfl ?_
                refine Rj_aload_n (q := 6) d_M_isRule_5 rfl rfl rfl ?_
                refine Rj_gi (q := 9) (ki := 2) (v := ν 0 2) gM_M_273_0 rfl rfl rfl d_M_isRule_6 rfl ?_
                refine Rj_icmp_ge (q := 12) (t := 16) d_M_isRule_9 rfl (by decide) (by first | assumption | exact ⟨by omega, by omega⟩) (by first | assumption | exact ⟨by omega, by omega⟩) (fun c2_11_9 => ?_) (fun c2_11_9 => ?_)
                · refine Rj_iconst (q := 17) d_M_isRule_16 rfl ?_
                  refine Rj_bret0 d_M_isRule_17 rfl ?_
                  refine Rj_if_eq (q := 17) (t := 21) d_M_canPass_14 rfl (by decide) (by decide) (fun _ => ?_) (fun c => absurd c (by decide))
                  refine Rj_iconst (q := 22) d_M_canPass_21 rfl ?_
                  refine Rj_bret0 d_M_canPass_22 rfl ?_
                  refine Rj_if_eq (q := 8) (t := 20) d_M_would_5 rfl (by decide) (by decide) (fun _ => ?_) (fun c => absurd c (by decide))
                  refine Rj_iconst (q := 21) d_M_would_20 rfl ?_
                  refine Rj_iret d_M_would_21 rfl ?_
                  exact ⟨sm_I rfl, hC1, kp0 _, kq0 _⟩
                · refine Rj_iconst (q := 13) d_M_isRule_12 rfl ?_
                  refine Rj_goto (t := 17) d_M_isRule_13 (by decide) ?_
                  refine Rj_bret1 d_M_isRule_17 rfl ?_
                  refine Rj_if_eq (q := 17) (t := 21) d_M_canPass_14 rfl (by decide) (by decide) (fun c => absurd c (by decide)) (fun _ => ?_)
                  refine Rj_iconst (q := 18) d_M_canPass_17 rfl ?_
                  refine Rj_goto (t := 22) d_M_canPass_18 (by decide) ?_
                  refine Rj_bret1 d_M_canPass_22 rfl ?_
                  refine Rj_if_eq (q := 8) (t := 20) d_M_would_5 rfl (by decide) (by decide) (fun c => absurd c (by decide)) (fun _ => ?_)
                  refine Rj_iload_n (q := 9) d_M_would_8 rfl rfl rfl ?_
                  refine Rj_i2l (q := 10) d_M_would_9 rfl (by first | assumption | exact ⟨by omega, by omega⟩) ?_
                  refine Rj_lconst (q := 11) (z := 0) d_M_would_10 rfl rfl ?_
                  refine Rj_ldc2 (q := 14) k_M_495 d_M_would_11 rfl ?_
                  refine Rj_cs (q := 17) (z := y_M_in) (as := [vL b, vL 0, vL 3]) (rest := []) (la := [vL b, vU, vL 0, vU, vL 3, vU]) ml_M_138 mw_M_in ms_M_in d_M_would_14 rfl rfl rfl rfl rfl ?_
                  refine s_M_in ⟨by omega, by omega⟩ (by decide) (by decide) ?_
                  refine Rj_b_ne (q := 20) (t := 22) d_M_would_17 rfl (by decide) (fun c17 => ?_) (fun c17 => ?_)
                  · have c17 := of_decide_eq_true c17
                    refine Rj_aload_n (q := 23) d_M_would_22 rfl rfl rfl ?_
                    refine Rj_vov (q := 26) (z := y_M_keeps) (as := []) (rest := []) (la := [vA 0]) oM_0_M_keeps ml_M_497 mw_M_keeps mv_M_keeps rfl d_M_would_23 rfl rfl rfl rfl rfl ?_
                    exfalso; omega
                  · have c17 := of_decide_eq_false c17
                    refine Rj_iconst (q := 21) d_M_would_20 rfl ?_
                    refine Rj_iret d_M_would_21 rfl ?_
                    exact ⟨sm_I rfl, hC1, kp0 _, kq0 _⟩
set_option maxHeartbeats 8000000 in
theorem C_worn {n : Nat} {μ ν : Mem} {a b c : Int} (hC : Cor n μ ν) (hn : n ≤ 511) (ha : i32 a) (hb : i32 b) (hc : i32 c) (hR : RULs μ ν)  : Rj YD y_D_worn 0 [vA 0, vI a, vI b, vI c] [] μ (fun r μ' => Rj YM y_M_worn 0 [vA 0, vI a, vI b, vI c] [] ν (fun r' ν' => Sm 2 r' r ∧ Cor (n + 1) μ' ν' ∧ Kp μ μ' ∧ Kq ν ν')) := by
  obtain ⟨hTP, hK, hSc, h, hM, hSB, hBK, hIM⟩ := id hC
  have hC1 := hC.next
  obtain ⟨z0, z1, z2, z3, z4, z5, z6, z7⟩ := h.z
  obtain ⟨hS, hH, hP, hB, hFx⟩ := id hM
  have hD := z0
  have hJ := z1
  have r02 := hR.1
  refine Rj_aload_n (q := 1) d_D_worn_0 rfl rfl rfl ?_
  refine Rj_iload_n (q := 2) d_D_worn_1 rfl rfl rfl ?_
  refine Rj_vo (q := 5) (z := y_D_isDayBy) (as := [vI a]) (rest := []) (la := [vA 0, vI a]) oD_0_D_isDayBy ml_D_269 mw_D_isDayBy mv_D_isDayBy rfl d_D_worn_2 rfl rfl rfl rfl rfl ?_
  refine Rj_aload_n (q := 1) d_D_isDayBy_0 rfl rfl rfl ?_
  refine Rj_gr (q := 4) (zd := 3) gD_D_25_0 rfl rfl d_D_isDayBy_1 rfl ?_
  refine Rj_gi (q := 7) (ki := 0) (v := ν 11 0) gD_D_130_3 rfl rfl z2 d_D_isDayBy_4 rfl ?_
  refine Rj_if_le (q := 10) (t := 29) d_D_isDayBy_7 rfl (by decide) (by first | assumption | exact ⟨by omega, by omega⟩) (fun c2_7 => ?_) (fun c2_7 => ?_)
  · refine Rj_iconst (q := 30) d_D_isDayBy_29 rfl ?_
    refine Rj_bret0 d_D_isDayBy_30 rfl ?_
    refine Rj_if_eq (q := 8) (t := 26) d_D_worn_5 rfl (by decide) (by decide) (fun _ => ?_) (fun c => absurd c (by decide))
    refine Rj_ldc2 (q := 29) k_D_289 d_D_worn_26 rfl ?_
    refine Rj_lret d_D_worn_29 rfl ?_
    refine Rj_aload_n (q := 1) d_M_worn_0 rfl rfl rfl ?_
    refine Rj_iload_n (q := 2) d_M_worn_1 rfl rfl rfl ?_
    refine Rj_vo (q := 5) (z := y_M_canPass) (as := [vI a]) (rest := []) (la := [vA 0, vI a]) oM_0_M_canPass ml_M_489 mw_M_canPass mv_M_canPass rfl d_M_worn_2 rfl rfl rfl rfl rfl ?_
    refine Rj_aload_n (q := 1) d_M_canPass_0 rfl rfl rfl ?_
    refine Rj_gr (q := 4) (zd := 11) gM_M_42_0 rfl rfl d_M_canPass_1 rfl ?_
    refine Rj_iconst (q := 5) d_M_canPass_4 rfl ?_
    refine Rj_ia (q := 6) (v := ν 11 0) aM_11 rfl (by decide) rfl d_M_canPass_5 rfl ?_
    refine Rj_if_le (q := 9) (t := 21) d_M_canPass_6 rfl (by decide) (by first | assumption | exact ⟨by omega, by omega⟩) (fun c2_6 => ?_) (fun c2_6 => ?_)
    · refine Rj_iconst (q := 22) d_M_canPass_21 rfl ?_
      refine Rj_bret0 d_M_canPass_22 rfl ?_
      refine Rj_if_eq (q := 8) (t := 26) d_M_worn_5 rfl (by decide) (by decide) (fun _ => ?_) (fun c => absurd c (by decide))
      refine Rj_ldc2 (q := 29) k_M_304 d_M_worn_26 rfl ?_
      refine Rj_lret d_M_worn_29 rfl ?_
      exact ⟨sm_L rfl, hC1, kp0 _, kq0 _⟩
    · refine Rj_aload_n (q := 10) d_M_canPass_9 rfl rfl rfl ?_
      refine Rj_iload_n (q := 11) d_M_canPass_10 rfl rfl rfl ?_
      refine Rj_vo (q := 14) (z := y_M_isRule) (as := [vI a]) (rest := []) (la := [vA 0, vI a]) oM_0_M_isRule ml_M_486 mw_M_isRule mv_M_isRule rfl d_M_canPass_11 rfl rfl rfl rfl rfl ?_
      refine Rj_iload_n (q := 1) d_M_isRule_0 rfl rfl rfl ?_
      refine Rj_if_lt (q := 4) (t := 16) d_M_isRule_1 rfl (by decide) (by first | assumption | exact ⟨by omega, by omega⟩) (fun c2_11_1 => ?_) (fun c2_11_1 => ?_)
      · refine Rj_iconst (q := 17) d_M_isRule_16 rfl ?_
        refine Rj_bret0 d_M_isRule_17 rfl ?_
        refine Rj_if_eq (q := 17) (t := 21) d_M_canPass_14 rfl (by decide) (by decide) (fun _ => ?_) (fun c => absurd c (by decide))
        refine Rj_iconst (q := 22) d_M_canPass_21 rfl ?_
        refine Rj_bret0 d_M_canPass_22 rfl ?_
        refine Rj_if_eq (q := 8) (t := 26) d_M_worn_5 rfl (by decide) (by decide) (fun _ => ?_) (fun c => absurd c (by decide))
        refine Rj_ldc2 (q := 29) k_M_304 d_M_worn_26 rfl ?_
        refine Rj_lret d_M_worn_29 rfl ?_
        exact ⟨sm_L rfl, hC1, kp0 _, kq0 _⟩
      · refine Rj_iload_n (q := 5) d_M_isRule_4 rfl rfl rfl ?_
        refine Rj_aload_n (q := 6) d_M_isRule_5 rfl rfl rfl ?_
        refine Rj_gi (q := 9) (ki := 2) (v := ν 0 2) gM_M_273_0 rfl rfl rfl d_M_isRule_6 rfl ?_
        refine Rj_icmp_ge (q := 12) (t := 16) d_M_isRule_9 rfl (by decide) (by first | assumption | exact ⟨by omega, by omega⟩) (by first | assumption | exact ⟨by omega, by omega⟩) (fun c2_11_9 => ?_) (fun c2_11_9 => ?_)
        · refine Rj_iconst (q := 17) d_M_isRule_16 rfl ?_
          refine Rj_bret0 d_M_isRule_17 rfl ?_
          refine Rj_if_eq (q := 17) (t := 21) d_M_canPass_14 rfl (by decide) (by decide) (fun _ => ?_) (fun c => absurd c (by decide))
          refine Rj_iconst (q := 22) d_M_canPass_21 rfl ?_
          refine Rj_bret0 d_M_canPass_22 rfl ?_
          refine Rj_if_eq (q := 8) (t := 26) d_M_worn_5 rfl (by decide) (by decide) (fun _ => ?_) (fun c => absurd c (by decide))
          refine Rj_ldc2 (q := 29) k_M_304 d_M_worn_26 rfl ?_
          refine Rj_lret d_M_worn_29 rfl ?_
          exact ⟨sm_L rfl, hC1, kp0 _, kq0 _⟩
        · refine Rj_iconst (q := 13) d_M_isRule_12 rfl ?_
          refine Rj_goto (t := 17) d_M_isRule_13 (by decide) ?_
          refine Rj_bret1 d_M_isRule_17 rfl ?_
          refine Rj_if_eq (q := 17) (t := 21) d_M_canPass_14 rfl (by decide) (by decide) (fun c => absurd c (by decide)) (fun _ => ?_)
          refine Rj_iconst (q := 18) d_M_canPass_17 rfl ?_
          refine Rj_goto (t := 22) d_M_canPass_18 (by decide) ?_
          refine Rj_bret1 d_M_canPass_22 rfl ?_
          refine Rj_if_eq (q := 8) (t := 26) d_M_worn_5 rfl (by decide) (by decide) (fun c => absurd c (by decide)) (fun _ => ?_)
          refine Rj_aload_n (q := 9) d_M_worn_8 rfl rfl rfl ?_
          refine Rj_iload_n (q := 10) d_M_worn_9 rfl rfl rfl ?_
          refine Rj_vo (q := 13) (z := y_M_isDoor) (as := [vI b]) (rest := []) (la := [vA 0, vI b]) oM_0_M_isDoor ml_M_353 mw_M_isDoor mv_M_isDoor rfl d_M_worn_10 rfl rfl rfl rfl rfl ?_
          refine s_M_isDoor hD (by first | assumption | omega) ?_
          refine Rj_b_eq (q := 16) (t := 26) d_M_worn_13 rfl (by decide) (fun c13 => ?_) (fun c13 => ?_)
          · have c13 := of_decide_eq_false c13
            refine Rj_ldc2 (q := 29) k_M_304 d_M_worn_26 rfl ?_
            refine Rj_lret d_M_worn_29 rfl ?_
            exact ⟨sm_L rfl, hC1, kp0 _, kq0 _⟩
          · have c13 := of_decide_eq_true c13
            refine Rj_iload_n (q := 17) d_M_worn_16 rfl rfl rfl ?_
            refine Rj_i2l (q := 18) d_M_worn_17 rfl (by first | assumption | exact ⟨by omega, by omega⟩) ?_
            refine Rj_lconst (q := 19) (z := 0) d_M_worn_18 rfl rfl ?_
            refine Rj_lconst (q := 20) (z := 1) d_M_worn_19 rfl rfl ?_
            refine Rj_cs (q := 23) (z := y_M_in) (as := [vL c, vL 0, vL 1]) (rest := []) (la := [vL c, vU, vL 0, vU, vL 1, vU]) ml_M_138 mw_M_in ms_M_in d_M_worn_20 rfl rfl rfl rfl rfl ?_
            refine s_M_in ⟨by omega, by omega⟩ (by decide) (by decide) ?_
            refine Rj_b_ne (q := 26) (t := 30) d_M_worn_23 rfl (by decide) (fun c23 => ?_) (fun c23 => ?_)
            · have c23 := of_decide_eq_true c23
              refine Rj_aload_n (q := 31) d_M_worn_30 rfl rfl rfl ?_
              refine Rj_vov (q := 34) (z := y_M_keeps) (as := []) (rest := []) (la := [vA 0]) oM_0_M_keeps ml_M_497 mw_M_keeps mv_M_keeps rfl d_M_worn_31 rfl rfl rfl rfl rfl ?_
              exfalso; omega
            · have c23 := of_decide_eq_false c23
              refine Rj_ldc2 (q := 29) k_M_304 d_M_worn_26 rfl ?_
              refine Rj_lret d_M_worn_29 rfl ?_
              exact ⟨sm_L rfl, hC1, kp0 _, kq0 _⟩
  · refine Rj_iload_n (q := 11) d_D_isDayBy_10 rfl rfl rfl ?_
    refine Rj_if_lt (q := 14) (t := 29) d_D_isDayBy_11 rfl (by decide) (by first | assumption | exact ⟨by omega, by omega⟩) (fun c2_11 => ?_) (fun c2_11 => ?_)
    · refine Rj_iconst (q := 30) d_D_isDayBy_29 rfl ?_
      refine Rj_bret0 d_D_isDayBy_30 rfl ?_
      refine Rj_if_eq (q := 8) (t := 26) d_D_worn_5 rfl (by decide) (by decide) (fun _ => ?_) (fun c => absurd c (by decide))
      refine Rj_ldc2 (q := 29) k_D_289 d_D_worn_26 rfl ?_
      refine Rj_lret d_D_worn_29 rfl ?_
      refine Rj_aload_n (q := 1) d_M_worn_0 rfl rfl rfl ?_
      refine Rj_iload_n (q := 2) d_M_worn_1 rfl rfl rfl ?_
      refine Rj_vo (q := 5) (z := y_M_canPass) (as := [vI a]) (rest := []) (la := [vA 0, vI a]) oM_0_M_canPass ml_M_489 mw_M_canPass mv_M_canPass rfl d_M_worn_2 rfl rfl rfl rfl rfl ?_
      refine Rj_aload_n (q := 1) d_M_canPass_0 rfl rfl rfl ?_
      refine Rj_gr (q := 4) (zd := 11) gM_M_42_0 rfl rfl d_M_canPass_1 rfl ?_
      refine Rj_iconst (q := 5) d_M_canPass_4 rfl ?_
      refine Rj_ia (q := 6) (v := ν 11 0) aM_11 rfl (by decide) rfl d_M_canPass_5 rfl ?_
      refine Rj_if_le (q := 9) (t := 21) d_M_canPass_6 rfl (by decide) (by first | assumption | exact ⟨by omega, by omega⟩) (fun c2_6 => ?_) (fun c2_6 => ?_)
      · refine Rj_iconst (q := 22) d_M_canPass_21 rfl ?_
        refine Rj_bret0 d_M_canPass_22 rfl ?_
        refine Rj_if_eq (q := 8) (t := 26) d_M_worn_5 rfl (by decide) (by decide) (fun _ => ?_) (fun c => absurd c (by decide))
        refine Rj_ldc2 (q := 29) k_M_304 d_M_worn_26 rfl ?_
        refine Rj_lret d_M_worn_29 rfl ?_
        exact ⟨sm_L rfl, hC1, kp0 _, kq0 _⟩
      · refine Rj_aload_n (q := 10) d_M_canPass_9 rfl rfl rfl ?_
        refine Rj_iload_n (q := 11) d_M_canPass_10 rfl rfl rfl ?_
        refine Rj_vo (q := 14) (z := y_M_isRule) (as := [vI a]) (rest := []) (la := [vA 0, vI a]) oM_0_M_isRule ml_M_486 mw_M_isRule mv_M_isRule rfl d_M_canPass_11 rfl rfl rfl rfl rfl ?_
        refine Rj_iload_n (q := 1) d_M_isRule_0 rfl rfl rfl ?_
        refine Rj_if_lt (q := 4) (t := 16) d_M_isRule_1 rfl (by decide) (by first | assumption | exact ⟨by omega, by omega⟩) (fun c2_11_1 => ?_) (fun c2_11_1 => ?_)
        · refine Rj_iconst (q := 17) d_M_isRule_16 rfl ?_
          refine Rj_bret0 d_M_isRule_17 rfl ?_
          refine Rj_if_eq (q := 17) (t := 21) d_M_canPass_14 rfl (by decide) (by decide) (fun _ => ?_) (fun c => absurd c (by decide))
          refine Rj_iconst (q := 22) d_M_canPass_21 rfl ?_
          refine Rj_bret0 d_M_canPass_22 rfl ?_
          refine Rj_if_eq (q := 8) (t := 26) d_M_worn_5 rfl (by decide) (by decide) (fun _ => ?_) (fun c => absurd c (by decide))
          refine Rj_ldc2 (q := 29) k_M_304 d_M_worn_26 rfl ?_
          refine Rj_lret d_M_worn_29 rfl ?_
          exact ⟨sm_L rfl, hC1, kp0 _, kq0 _⟩
        · refine Rj_iload_n (q := 5) d_M_isRule_4 rfl rfl rfl ?_
          refine Rj_aload_n (q := 6) d_M_isRule_5 rfl rfl rfl ?_
          refine Rj_gi (q := 9) (ki := 2) (v := ν 0 2) gM_M_273_0 rfl rfl rfl d_M_isRule_6 rfl ?_
          refine Rj_icmp_ge (q := 12) (t := 16) d_M_isRule_9 rfl (by decide) (by first | assumption | exact ⟨by omega, by omega⟩) (by first | assumption | exact ⟨by omega, by omega⟩) (fun c2_11_9 => ?_) (fun c2_11_9 => ?_)
          · refine Rj_iconst (q := 17) d_M_isRule_16 rfl ?_
            refine Rj_bret0 d_M_isRule_17 rfl ?_
            refine Rj_if_eq (q := 17) (t := 21) d_M_canPass_14 rfl (by decide) (by decide) (fun _ => ?_) (fun c => absurd c (by decide))
            refine Rj_iconst (q := 22) d_M_canPass_21 rfl ?_
            refine Rj_bret0 d_M_canPass_22 rfl ?_
            refine Rj_if_eq (q := 8) (t := 26) d_M_worn_5 rfl (by decide) (by decide) (fun _ => ?_) (fun c => absurd c (by decide))
            refine Rj_ldc2 (q := 29) k_M_304 d_M_worn_26 rfl ?_
            refine Rj_lret d_M_worn_29 rfl ?_
            exact ⟨sm_L rfl, hC1, kp0 _, kq0 _⟩
          · refine Rj_iconst (q := 13) d_M_isRule_12 rfl ?_
            refine Rj_goto (t := 17) d_M_isRule_13 (by decide) ?_
            refine Rj_bret1 d_M_isRule_17 rfl ?_
            refine Rj_if_eq (q := 17) (t := 21) d_M_canPass_14 rfl (by decide) (by decide) (fun c => absurd c (by decide)) (fun _ => ?_)
            refine Rj_iconst (q := 18) d_M_canPass_17 rfl ?_
            refine Rj_goto (t := 22) d_M_canPass_18 (by decide) ?_
            refine Rj_bret1 d_M_canPass_22 rfl ?_
            refine Rj_if_eq (q := 8) (t := 26) d_M_worn_5 rfl (by decide) (by decide) (fun c => absurd c (by decide)) (fun _ => ?_)
            refine Rj_aload_n (q := 9) d_M_worn_8 rfl rfl rfl ?_
            refine Rj_iload_n (q := 10) d_M_worn_9 rfl rfl rfl ?_
            refine Rj_vo (q := 13) (z := y_M_isDoor) (as := [vI b]) (rest := []) (la := [vA 0, vI b]) oM_0_M_isDoor ml_M_353 mw_M_isDoor mv_M_isDoor rfl d_M_worn_10 rfl rfl rfl rfl rfl ?_
            refine s_M_isDoor hD (by first | assumption | omega) ?_
            refine Rj_b_eq (q := 16) (t := 26) d_M_worn_13 rfl (by decide) (fun c13 => ?_) (fun c13 => ?_)
            · have c13 := of_decide_eq_false c13
              refine Rj_ldc2 (q := 29) k_M_304 d_M_worn_26 rfl ?_
              refine Rj_lret d_M_worn_29 rfl ?_
              exact ⟨sm_L rfl, hC1, kp0 _, kq0 _⟩
            · have c13 := of_decide_eq_true c13
              refine Rj_iload_n (q := 17) d_M_worn_16 rfl rfl rfl ?_
              refine Rj_i2l (q := 18) d_M_worn_17 rfl (by first | assumption | exact ⟨by omega, by omega⟩) ?_
              refine Rj_lconst (q := 19) (z := 0) d_M_worn_18 rfl rfl ?_
              refine Rj_lconst (q := 20) (z := 1) d_M_worn_19 rfl rfl ?_
              refine Rj_cs (q := 23) (z := y_M_in) (as := [vL c, vL 0, vL 1]) (rest := []) (la := [vL c, vU, vL 0, vU, vL 1, vU]) ml_M_138 mw_M_in ms_M_in d_M_worn_20 rfl rfl rfl rfl rfl ?_
              refine s_M_in ⟨by omega, by omega⟩ (by decide) (by decide) ?_
              refine Rj_b_ne (q := 26) (t := 30) d_M_worn_23 rfl (by decide) (fun c23 => ?_) (fun c23 => ?_)
              · have c23 := of_decide_eq_true c23
                refine Rj_aload_n (q := 31) d_M_worn_30 rfl rfl rfl ?_
                refine Rj_vov (q := 34) (z := y_M_keeps) (as := []) (rest := []) (la := [vA 0]) oM_0_M_keeps ml_M_497 mw_M_keeps mv_M_keeps rfl d_M_worn_31 rfl rfl rfl rfl rfl ?_
                exfalso; omega
              · have c23 := of_decide_eq_false c23
                refine Rj_ldc2 (q := 29) k_M_304 d_M_worn_26 rfl ?_
                refine Rj_lret d_M_worn_29 rfl ?_
                exact ⟨sm_L rfl, hC1, kp0 _, kq0 _⟩
    · refine Rj_iload_n (q := 15) d_D_isDayBy_14 rfl rfl rfl ?_
      refine Rj_aload_n (q := 16) d_D_isDayBy_15 rfl rfl rfl ?_
      refine Rj_gr (q := 19) (zd := 79) gD_D_70_0 rfl rfl d_D_isDayBy_16 rfl ?_
      refine Rj_gi (q := 22) (ki := 1) (v := ν 0 2) gD_D_133_79 rfl rfl hR.2.1 d_D_isDayBy_19 rfl ?_
      refine Rj_icmp_ge (q := 25) (t := 29) d_D_isDayBy_22 rfl (by decide) (by first | assumption | exact ⟨by omega, by omega⟩) (by first | assumption | exact ⟨by omega, by omega⟩) (fun c2_22 => ?_) (fun c2_22 => ?_)
      · refine Rj_iconst (q := 30) d_D_isDayBy_29 rfl ?_
        refine Rj_bret0 d_D_isDayBy_30 rfl ?_
        refine Rj_if_eq (q := 8) (t := 26) d_D_worn_5 rfl (by decide) (by decide) (fun _ => ?_) (fun c => absurd c (by decide))
        refine Rj_ldc2 (q := 29) k_D_289 d_D_worn_26 rfl ?_
        refine Rj_lret d_D_worn_29 rfl ?_
        refine Rj_aload_n (q := 1) d_M_worn_0 rfl rfl rfl ?_
        refine Rj_iload_n (q := 2) d_M_worn_1 rfl rfl rfl ?_
        refine Rj_vo (q := 5) (z := y_M_canPass) (as := [vI a]) (rest := []) (la := [vA 0, vI a]) oM_0_M_canPass ml_M_489 mw_M_canPass mv_M_canPass rfl d_M_worn_2 rfl rfl rfl rfl rfl ?_
        refine Rj_aload_n (q := 1) d_M_canPass_0 rfl rfl rfl ?_
        refine Rj_gr (q := 4) (zd := 11) gM_M_42_0 rfl rfl d_M_canPass_1 rfl ?_
        refine Rj_iconst (q := 5) d_M_canPass_4 rfl ?_
        refine Rj_ia (q := 6) (v := ν 11 0) aM_11 rfl (by decide) rfl d_M_canPass_5 rfl ?_
        refine Rj_if_le (q := 9) (t := 21) d_M_canPass_6 rfl (by decide) (by first | assumption | exact ⟨by omega, by omega⟩) (fun c2_6 => ?_) (fun c2_6 => ?_)
        · refine Rj_iconst (q := 22) d_M_canPass_21 rfl ?_
          refine Rj_bret0 d_M_canPass_22 rfl ?_
          refine Rj_if_eq (q := 8) (t := 26) d_M_worn_5 rfl (by decide) (by decide) (fun _ => ?_) (fun c => absurd c (by decide))
          refine Rj_ldc2 (q := 29) k_M_304 d_M_worn_26 rfl ?_
          refine Rj_lret d_M_worn_29 rfl ?_
          exact ⟨sm_L rfl, hC1, kp0 _, kq0 _⟩
        · refine Rj_aload_n (q := 10) d_M_canPass_9 rfl rfl rfl ?_
          refine Rj_iload_n (q := 11) d_M_canPass_10 rfl rfl rfl ?_
          refine Rj_vo (q := 14) (z := y_M_isRule) (as := [vI a]) (rest := []) (la := [vA 0, vI a]) oM_0_M_isRule ml_M_486 mw_M_isRule mv_M_isRule rfl d_M_canPass_11 rfl rfl rfl rfl rfl ?_
          refine Rj_iload_n (q := 1) d_M_isRule_0 rfl rfl rfl ?_
          refine Rj_if_lt (q := 4) (t := 16) d_M_isRule_1 rfl (by decide) (by first | assumption | exact ⟨by omega, by omega⟩) (fun c2_11_1 => ?_) (fun c2_11_1 => ?_)
          · refine Rj_iconst (q := 17) d_M_isRule_16 rfl ?_
            refine Rj_bret0 d_M_isRule_17 rfl ?_
            refine Rj_if_eq (q := 17) (t := 21) d_M_canPass_14 rfl (by decide) (by decide) (fun _ => ?_) (fun c => absurd c (by decide))
            refine Rj_iconst (q := 22) d_M_canPass_21 rfl ?_
            refine Rj_bret0 d_M_canPass_22 rfl ?_
            refine Rj_if_eq (q := 8) (t := 26) d_M_worn_5 rfl (by decide) (by decide) (fun _ => ?_) (fun c => absurd c (by decide))
            refine Rj_ldc2 (q := 29) k_M_304 d_M_worn_26 rfl ?_
            refine Rj_lret d_M_worn_29 rfl ?_
            exact ⟨sm_L rfl, hC1, kp0 _, kq0 _⟩
          · refine Rj_iload_n (q := 5) d_M_isRule_4 rfl rfl rfl ?_
            refine Rj_aload_n (q := 6) d_M_isRule_5 rfl rfl rfl ?_
            refine Rj_gi (q := 9) (ki := 2) (v := ν 0 2) gM_M_273_0 rfl rfl rfl d_M_isRule_6 rfl ?_
            refine Rj_icmp_ge (q := 12) (t := 16) d_M_isRule_9 rfl (by decide) (by first | assumption | exact ⟨by omega, by omega⟩) (by first | assumption | exact ⟨by omega, by omega⟩) (fun c2_11_9 => ?_) (fun c2_11_9 => ?_)
            · refine Rj_iconst (q := 17) d_M_isRule_16 rfl ?_
              refine Rj_bret0 d_M_isRule_17 rfl ?_
              refine Rj_if_eq (q := 17) (t := 21) d_M_canPass_14 rfl (by decide) (by decide) (fun _ => ?_) (fun c => absurd c (by decide))
              refine Rj_iconst (q := 22) d_M_canPass_21 rfl ?_
              refine Rj_bret0 d_M_canPass_22 rfl ?_
              refine Rj_if_eq (q := 8) (t := 26) d_M_worn_5 rfl (by decide) (by decide) (fun _ => ?_) (fun c => absurd c (by decide))
              refine Rj_ldc2 (q := 29) k_M_304 d_M_worn_26 rfl ?_
              refine Rj_lret d_M_worn_29 rfl ?_
              exact ⟨sm_L rfl, hC1, kp0 _, kq0 _⟩
            · refine Rj_iconst (q := 13) d_M_isRule_12 rfl ?_
              refine Rj_goto (t := 17) d_M_isRule_13 (by decide) ?_
              refine Rj_bret1 d_M_isRule_17 rfl ?_
              refine Rj_if_eq (q := 17) (t := 21) d_M_canPass_14 rfl (by decide) (by decide) (fun c => absurd c (by decide)) (fun _ => ?_)
              refine Rj_iconst (q := 18) d_M_canPass_17 rfl ?_
              refine Rj_goto (t := 22) d_M_canPass_18 (by decide) ?_
              refine Rj_bret1 d_M_canPass_22 rfl ?_
              refine Rj_if_eq (q := 8) (t := 26) d_M_worn_5 rfl (by decide) (by decide) (fun c => absurd c (by decide)) (fun _ => ?_)
              refine Rj_aload_n (q := 9) d_M_worn_8 rfl rfl rfl ?_
              refine Rj_iload_n (q := 10) d_M_worn_9 rfl rfl rfl ?_
              refine Rj_vo (q := 13) (z := y_M_isDoor) (as := [vI b]) (rest := []) (la := [vA 0, vI b]) oM_0_M_isDoor ml_M_353 mw_M_isDoor mv_M_isDoor rfl d_M_worn_10 rfl rfl rfl rfl rfl ?_
              refine s_M_isDoor hD (by first | assumption | omega) ?_
              refine Rj_b_eq (q := 16) (t := 26) d_M_worn_13 rfl (by decide) (fun c13 => ?_) (fun c13 => ?_)
              · have c13 := of_decide_eq_false c13
                refine Rj_ldc2 (q := 29) k_M_304 d_M_worn_26 rfl ?_
                refine Rj_lret d_M_worn_29 rfl ?_
                exact ⟨sm_L rfl, hC1, kp0 _, kq0 _⟩
              · have c13 := of_decide_eq_true c13
                refine Rj_iload_n (q := 17) d_M_worn_16 rfl rfl rfl ?_
                refine Rj_i2l (q := 18) d_M_worn_17 rfl (by first | assumption | exact ⟨by omega, by omega⟩) ?_
                refine Rj_lconst (q := 19) (z := 0) d_M_worn_18 rfl rfl ?_
                refine Rj_lconst (q := 20) (z := 1) d_M_worn_19 rfl rfl ?_
                refine Rj_cs (q := 23) (z := y_M_in) (as := [vL c, vL 0, vL 1]) (rest := []) (la := [vL c, vU, vL 0, vU, vL 1, vU]) ml_M_138 mw_M_in ms_M_in d_M_worn_20 rfl rfl rfl rfl rfl ?_
                refine s_M_in ⟨by omega, by omega⟩ (by decide) (by decide) ?_
                refine Rj_b_ne (q := 26) (t := 30) d_M_worn_23 rfl (by decide) (fun c23 => ?_) (fun c23 => ?_)
                · have c23 := of_decide_eq_true c23
                  refine Rj_aload_n (q := 31) d_M_worn_30 rfl rfl rfl ?_
                  refine Rj_vov (q := 34) (z := y_M_keeps) (as := []) (rest := []) (la := [vA 0]) oM_0_M_keeps ml_M_497 mw_M_keeps mv_M_keeps rfl d_M_worn_31 rfl rfl rfl rfl rfl ?_
                  exfalso; omega
                · have c23 := of_decide_eq_false c23
                  refine Rj_ldc2 (q := 29) k_M_304 d_M_worn_26 rfl ?_
                  refine Rj_lret d_M_worn_29 rfl ?_
                  exact ⟨sm_L rfl, hC1, kp0 _, kq0 _⟩
      · refine Rj_iconst (q := 26) d_D_isDayBy_25 rfl ?_
        refine Rj_goto (t := 30) d_D_isDayBy_26 (by decide) ?_
        refine Rj_bret1 d_D_isDayBy_30 rfl ?_
        refine Rj_if_eq (q := 8) (t := 26) d_D_worn_5 rfl (by decide) (by decide) (fun c => absurd c (by decide)) (fun _ => ?_)
        refine Rj_aload_n (q := 9) d_D_worn_8 rfl rfl rfl ?_
        refine Rj_gr (q := 12) (zd := 3) gD_D_25_0 rfl rfl d_D_worn_9 rfl ?_
        refine Rj_iload_n (q := 13) d_D_worn_12 rfl rfl rfl ?_
        refine Rj_vo (q := 16) (z := y_Sc_isDoor) (as := [vI b]) (rest := []) (la := [vA 3, vI b]) oD_3_Sc_isDoor ml_D_144 mw_Sc_isDoor mv_Sc_isDoor rfl d_D_worn_13 rfl rfl rfl rfl rfl ?_
        refine Rj_iload_n (q := 1) d_Sc_isDoor_0 rfl rfl rfl ?_
        refine Rj_if_lt (q := 4) (t := 16) d_Sc_isDoor_1 rfl (by decide) (by first | assumption | exact ⟨by omega, by omega⟩) (fun c13_1 => ?_) (fun c13_1 => ?_)
        · refine Rj_iconst (q := 17) d_Sc_isDoor_16 rfl ?_
          refine Rj_bret0 d_Sc_isDoor_17 rfl ?_
          refine Rj_if_eq (q := 19) (t := 26) d_D_worn_16 rfl (by decide) (by decide) (fun _ => ?_) (fun c => absurd c (by decide))
          refine Rj_ldc2 (q := 29) k_D_289 d_D_worn_26 rfl ?_
          refine Rj_lret d_D_worn_29 rfl ?_
          refine Rj_aload_n (q := 1) d_M_worn_0 rfl rfl rfl ?_
          refine Rj_iload_n (q := 2) d_M_worn_1 rfl rfl rfl ?_
          refine Rj_vo (q := 5) (z := y_M_canPass) (as := [vI a]) (rest := []) (la := [vA 0, vI a]) oM_0_M_canPass ml_M_489 mw_M_canPass mv_M_canPass rfl d_M_worn_2 rfl rfl rfl rfl rfl ?_
          refine Rj_aload_n (q := 1) d_M_canPass_0 rfl rfl rfl ?_
          refine Rj_gr (q := 4) (zd := 11) gM_M_42_0 rfl rfl d_M_canPass_1 rfl ?_
          refine Rj_iconst (q := 5) d_M_canPass_4 rfl ?_
          refine Rj_ia (q := 6) (v := ν 11 0) aM_11 rfl (by decide) rfl d_M_canPass_5 rfl ?_
          refine Rj_if_le (q := 9) (t := 21) d_M_canPass_6 rfl (by decide) (by first | assumption | exact ⟨by omega, by omega⟩) (fun c2_6 => ?_) (fun c2_6 => ?_)
          · refine Rj_iconst (q := 22) d_M_canPass_21 rfl ?_
            refine Rj_bret0 d_M_canPass_22 rfl ?_
            refine Rj_if_eq (q := 8) (t := 26) d_M_worn_5 rfl (by decide) (by decide) (fun _ => ?_) (fun c => absurd c (by decide))
            refine Rj_ldc2 (q := 29) k_M_304 d_M_worn_26 rfl ?_
            refine Rj_lret d_M_worn_29 rfl ?_
            exact ⟨sm_L rfl, hC1, kp0 _, kq0 _⟩
          · refine Rj_aload_n (q := 10) d_M_canPass_9 rfl rfl rfl ?_
            refine Rj_iload_n (q := 11) d_M_canPass_10 rfl rfl rfl ?_
            refine Rj_vo (q := 14) (z := y_M_isRule) (as := [vI a]) (rest := []) (la := [vA 0, vI a]) oM_0_M_isRule ml_M_486 mw_M_isRule mv_M_isRule rfl d_M_canPass_11 rfl rfl rfl rfl rfl ?_
            refine Rj_iload_n (q := 1) d_M_isRule_0 rfl rfl rfl ?_
            refine Rj_if_lt (q := 4) (t := 16) d_M_isRule_1 rfl (by decide) (by first | assumption | exact ⟨by omega, by omega⟩) (fun c2_11_1 => ?_) (fun c2_11_1 => ?_)
            · refine Rj_iconst (q := 17) d_M_isRule_16 rfl ?_
              refine Rj_bret0 d_M_isRule_17 rfl ?_
              refine Rj_if_eq (q := 17) (t := 21) d_M_canPass_14 rfl (by decide) (by decide) (fun _ => ?_) (fun c => absurd c (by decide))
              refine Rj_iconst (q := 22) d_M_canPass_21 rfl ?_
              refine Rj_bret0 d_M_canPass_22 rfl ?_
              refine Rj_if_eq (q := 8) (t := 26) d_M_worn_5 rfl (by decide) (by decide) (fun _ => ?_) (fun c => absurd c (by decide))
              refine Rj_ldc2 (q := 29) k_M_304 d_M_worn_26 rfl ?_
              refine Rj_lret d_M_worn_29 rfl ?_
              exact ⟨sm_L rfl, hC1, kp0 _, kq0 _⟩
            · refine Rj_iload_n (q := 5) d_M_isRule_4 rfl rfl rfl ?_
              refine Rj_aload_n (q := 6) d_M_isRule_5 rfl rfl rfl ?_
              refine Rj_gi (q := 9) (ki := 2) (v := ν 0 2) gM_M_273_0 rfl rfl rfl d_M_isRule_6 rfl ?_
              refine Rj_icmp_ge (q := 12) (t := 16) d_M_isRule_9 rfl (by decide) (by first | assumption | exact ⟨by omega, by omega⟩) (by first | assumption | exact ⟨by omega, by omega⟩) (fun c2_11_9 => ?_) (fun c2_11_9 => ?_)
              · refine Rj_iconst (q := 17) d_M_isRule_16 rfl ?_
                refine Rj_bret0 d_M_isRule_17 rfl ?_
                refine Rj_if_eq (q := 17) (t := 21) d_M_canPass_14 rfl (by decide) (by decide) (fun _ => ?_) (fun c => absurd c (by decide))
                refine Rj_iconst (q := 22) d_M_canPass_21 rfl ?_
                refine Rj_bret0 d_M_canPass_22 rfl ?_
                refine Rj_if_eq (q := 8) (t := 26) d_M_worn_5 rfl (by decide) (by decide) (fun _ => ?_) (fun c => absurd c (by decide))
                refine Rj_ldc2 (q := 29) k_M_304 d_M_worn_26 rfl ?_
                refine Rj_lret d_M_worn_29 rfl ?_
                exact ⟨sm_L rfl, hC1, kp0 _, kq0 _⟩
              · refine Rj_iconst (q := 13) d_M_isRule_12 rfl ?_
                refine Rj_goto (t := 17) d_M_isRule_13 (by decide) ?_
                refine Rj_bret1 d_M_isRule_17 rfl ?_
                refine Rj_if_eq (q := 17) (t := 21) d_M_canPass_14 rfl (by decide) (by decide) (fun c => absurd c (by decide)) (fun _ => ?_)
                refine Rj_iconst (q := 18) d_M_canPass_17 rfl ?_
                refine Rj_goto (t := 22) d_M_canPass_18 (by decide) ?_
                refine Rj_bret1 d_M_canPass_22 rfl ?_
                refine Rj_if_eq (q := 8) (t := 26) d_M_worn_5 rfl (by decide) (by decide) (fun c => absurd c (by decide)) (fun _ => ?_)
                refine Rj_aload_n (q := 9) d_M_worn_8 rfl rfl rfl ?_
                refine Rj_iload_n (q := 10) d_M_worn_9 rfl rfl rfl ?_
                refine Rj_vo (q := 13) (z := y_M_isDoor) (as := [vI b]) (rest := []) (la := [vA 0, vI b]) oM_0_M_isDoor ml_M_353 mw_M_isDoor mv_M_isDoor rfl d_M_worn_10 rfl rfl rfl rfl rfl ?_
                refine s_M_isDoor hD (by first | assumption | omega) ?_
                refine Rj_b_eq (q := 16) (t := 26) d_M_worn_13 rfl (by decide) (fun c13 => ?_) (fun c13 => ?_)
                · have c13 := of_decide_eq_false c13
                  refine Rj_ldc2 (q := 29) k_M_304 d_M_worn_26 rfl ?_
                  refine Rj_lret d_M_worn_29 rfl ?_
                  exact ⟨sm_L rfl, hC1, kp0 _, kq0 _⟩
                · have c13 := of_decide_eq_true c13
                  refine Rj_iload_n (q := 17) d_M_worn_16 rfl rfl rfl ?_
                  refine Rj_i2l (q := 18) d_M_worn_17 rfl (by first | assumption | exact ⟨by omega, by omega⟩) ?_
                  refine Rj_lconst (q := 19) (z := 0) d_M_worn_18 rfl rfl ?_
                  refine Rj_lconst (q := 20) (z := 1) d_M_worn_19 rfl rfl ?_
                  refine Rj_cs (q := 23) (z := y_M_in) (as := [vL c, vL 0, vL 1]) (rest := []) (la := [vL c, vU, vL 0, vU, vL 1, vU]) ml_M_138 mw_M_in ms_M_in d_M_worn_20 rfl rfl rfl rfl rfl ?_
                  refine s_M_in ⟨by omega, by omega⟩ (by decide) (by decide) ?_
                  refine Rj_b_ne (q := 26) (t := 30) d_M_worn_23 rfl (by decide) (fun c23 => ?_) (fun c23 => ?_)
                  · have c23 := of_decide_eq_true c23
                    refine Rj_aload_n (q := 31) d_M_worn_30 rfl rfl rfl ?_
                    refine Rj_vov (q := 34) (z := y_M_keeps) (as := []) (rest := []) (la := [vA 0]) oM_0_M_keeps ml_M_497 mw_M_keeps mv_M_keeps rfl d_M_worn_31 rfl rfl rfl rfl rfl ?_
                    exfalso; omega
                  · have c23 := of_decide_eq_false c23
                    refine Rj_ldc2 (q := 29) k_M_304 d_M_worn_26 rfl ?_
                    refine Rj_lret d_M_worn_29 rfl ?_
                    exact ⟨sm_L rfl, hC1, kp0 _, kq0 _⟩
        · refine Rj_iload_n (q := 5) d_Sc_isDoor_4 rfl rfl rfl ?_
          refine Rj_aload_n (q := 6) d_Sc_isDoor_5 rfl rfl rfl ?_
          refine Rj_gi (q := 9) (ki := 0) (v := ν 11 0) gD_Sc_37_3 rfl rfl z2 d_Sc_isDoor_6 rfl ?_
          refine Rj_icmp_ge (q := 12) (t := 16) d_Sc_isDoor_9 rfl (by decide) (by first | assumption | exact ⟨by omega, by omega⟩) (by first | assumption | exact ⟨by omega, by omega⟩) (fun c13_9 => ?_) (fun c13_9 => ?_)
          · refine Rj_iconst (q := 17) d_Sc_isDoor_16 rfl ?_
            refine Rj_bret0 d_Sc_isDoor_17 rfl ?_
            refine Rj_if_eq (q := 19) (t := 26) d_D_worn_16 rfl (by decide) (by decide) (fun _ => ?_) (fun c => absurd c (by decide))
            refine Rj_ldc2 (q := 29) k_D_289 d_D_worn_26 rfl ?_
            refine Rj_lret d_D_worn_29 rfl ?_
            refine Rj_aload_n (q := 1) d_M_worn_0 rfl rfl rfl ?_
            refine Rj_iload_n (q := 2) d_M_worn_1 rfl rfl rfl ?_
            refine Rj_vo (q := 5) (z := y_M_canPass) (as := [vI a]) (rest := []) (la := [vA 0, vI a]) oM_0_M_canPass ml_M_489 mw_M_canPass mv_M_canPass rfl d_M_worn_2 rfl rfl rfl rfl rfl ?_
            refine Rj_aload_n (q := 1) d_M_canPass_0 rfl rfl rfl ?_
            refine Rj_gr (q := 4) (zd := 11) gM_M_42_0 rfl rfl d_M_canPass_1 rfl ?_
            refine Rj_iconst (q := 5) d_M_canPass_4 rfl ?_
            refine Rj_ia (q := 6) (v := ν 11 0) aM_11 rfl (by decide) rfl d_M_canPass_5 rfl ?_
            refine Rj_if_le (q := 9) (t := 21) d_M_canPass_6 rfl (by decide) (by first | assumption | exact ⟨by omega, by omega⟩) (fun c2_6 => ?_) (fun c2_6 => ?_)
            · refine Rj_iconst (q := 22) d_M_canPass_21 rfl ?_
              refine Rj_bret0 d_M_canPass_22 rfl ?_
              refine Rj_if_eq (q := 8) (t := 26) d_M_worn_5 rfl (by decide) (by decide) (fun _ => ?_) (fun c => absurd c (by decide))
              refine Rj_ldc2 (q := 29) k_M_304 d_M_worn_26 rfl ?_
              refine Rj_lret d_M_worn_29 rfl ?_
              exact ⟨sm_L rfl, hC1, kp0 _, kq0 _⟩
            · refine Rj_aload_n (q := 10) d_M_canPass_9 rfl rfl rfl ?_
              refine Rj_iload_n (q := 11) d_M_canPass_10 rfl rfl rfl ?_
              refine Rj_vo (q := 14) (z := y_M_isRule) (as := [vI a]) (rest := []) (la := [vA 0, vI a]) oM_0_M_isRule ml_M_486 mw_M_isRule mv_M_isRule rfl d_M_canPass_11 rfl rfl rfl rfl rfl ?_
              refine Rj_iload_n (q := 1) d_M_isRule_0 rfl rfl rfl ?_
              refine Rj_if_lt (q := 4) (t := 16) d_M_isRule_1 rfl (by decide) (by first | assumption | exact ⟨by omega, by omega⟩) (fun c2_11_1 => ?_) (fun c2_11_1 => ?_)
              · refine Rj_iconst (q := 17) d_M_isRule_16 rfl ?_
                refine Rj_bret0 d_M_isRule_17 rfl ?_
                refine Rj_if_eq (q := 17) (t := 21) d_M_canPass_14 rfl (by decide) (by decide) (fun _ => ?_) (fun c => absurd c (by decide))
                refine Rj_iconst (q := 22) d_M_canPass_21 rfl ?_
                refine Rj_bret0 d_M_canPass_22 rfl ?_
                refine Rj_if_eq (q := 8) (t := 26) d_M_worn_5 rfl (by decide) (by decide) (fun _ => ?_) (fun c => absurd c (by decide))
                refine Rj_ldc2 (q := 29) k_M_304 d_M_worn_26 rfl ?_
                refine Rj_lret d_M_worn_29 rfl ?_
                exact ⟨sm_L rfl, hC1, kp0 _, kq0 _⟩
              · refine Rj_iload_n (q := 5) d_M_isRule_4 rfl rfl rfl ?_
                refine Rj_aload_n (q := 6) d_M_isRule_5 rfl rfl rfl ?_
                refine Rj_gi (q := 9) (ki := 2) (v := ν 0 2) gM_M_273_0 rfl rfl rfl d_M_isRule_6 rfl ?_
                refine Rj_icmp_ge (q := 12) (t := 16) d_M_isRule_9 rfl (by decide) (by first | assumption | exact ⟨by omega, by omega⟩) (by first | assumption | exact ⟨by omega, by omega⟩) (fun c2_11_9 => ?_) (fun c2_11_9 => ?_)
                · refine Rj_iconst (q := 17) d_M_isRule_16 rfl ?_
                  refine Rj_bret0 d_M_isRule_17 rfl ?_
                  refine Rj_if_eq (q := 17) (t := 21) d_M_canPass_14 rfl (by decide) (by decide) (fun _ => ?_) (fun c => absurd c (by decide))
                  refine Rj_iconst (q := 22) d_M_canPass_21 rfl ?_
                  refine Rj_bret0 d_M_canPass_22 rfl ?_
                  refine Rj_if_eq (q := 8) (t := 26) d_M_worn_5 rfl (by decide) (by decide) (fun _ => ?_) (fun c => absurd c (by decide))
                  refine Rj_ldc2 (q := 29) k_M_304 d_M_worn_26 rfl ?_
                  refine Rj_lret d_M_worn_29 rfl ?_
                  exact ⟨sm_L rfl, hC1, kp0 _, kq0 _⟩
                · refine Rj_iconst (q := 13) d_M_isRule_12 rfl ?_
                  refine Rj_goto (t := 17) d_M_isRule_13 (by decide) ?_
                  refine Rj_bret1 d_M_isRule_17 rfl ?_
                  refine Rj_if_eq (q := 17) (t := 21) d_M_canPass_14 rfl (by decide) (by decide) (fun c => absurd c (by decide)) (fun _ => ?_)
                  refine Rj_iconst (q := 18) d_M_canPass_17 rfl ?_
                  refine Rj_goto (t := 22) d_M_canPass_18 (by decide) ?_
                  refine Rj_bret1 d_M_canPass_22 rfl ?_
                  refine Rj_if_eq (q := 8) (t := 26) d_M_worn_5 rfl (by decide) (by decide) (fun c => absurd c (by decide)) (fun _ => ?_)
                  refine Rj_aload_n (q := 9) d_M_worn_8 rfl rfl rfl ?_
                  refine Rj_iload_n (q := 10) d_M_worn_9 rfl rfl rfl ?_
                  refine Rj_vo (q := 13) (z := y_M_isDoor) (as := [vI b]) (rest := []) (la := [vA 0, vI b]) oM_0_M_isDoor ml_M_353 mw_M_isDoor mv_M_isDoor rfl d_M_worn_10 rfl rfl rfl rfl rfl ?_
                  refine s_M_isDoor hD (by first | assumption | omega) ?_
                  refine Rj_b_eq (q := 16) (t := 26) d_M_worn_13 rfl (by decide) (fun c13 => ?_) (fun c13 => ?_)
                  · have c13 := of_decide_eq_false c13
                    refine Rj_ldc2 (q := 29) k_M_304 d_M_worn_26 rfl ?_
                    refine Rj_lret d_M_worn_29 rfl ?_
                    exact ⟨sm_L rfl, hC1, kp0 _, kq0 _⟩
                  · have c13 := of_decide_eq_true c13
                    refine Rj_iload_n (q := 17) d_M_worn_16 rfl rfl rfl ?_
                    refine Rj_i2l (q := 18) d_M_worn_17 rfl (by first | assumption | exact ⟨by omega, by omega⟩) ?_
                    refine Rj_lconst (q := 19) (z := 0) d_M_worn_18 rfl rfl ?_
                    refine Rj_lconst (q := 20) (z := 1) d_M_worn_19 rfl rfl ?_
                    refine Rj_cs (q := 23) (z := y_M_in) (as := [vL c, vL 0, vL 1]) (rest := []) (la := [vL c, vU, vL 0, vU, vL 1, vU]) ml_M_138 mw_M_in ms_M_in d_M_worn_20 rfl rfl rfl rfl rfl ?_
                    refine s_M_in ⟨by omega, by omega⟩ (by decide) (by decide) ?_
                    refine Rj_b_ne (q := 26) (t := 30) d_M_worn_23 rfl (by decide) (fun c23 => ?_) (fun c23 => ?_)
                    · have c23 := of_decide_eq_true c23
                      refine Rj_aload_n (q := 31) d_M_worn_30 rfl rfl rfl ?_
                      refine Rj_vov (q := 34) (z := y_M_keeps) (as := []) (rest := []) (la := [vA 0]) oM_0_M_keeps ml_M_497 mw_M_keeps mv_M_keeps rfl d_M_worn_31 rfl rfl rfl rfl rfl ?_
                      exfalso; omega
                    · have c23 := of_decide_eq_false c23
                      refine Rj_ldc2 (q := 29) k_M_304 d_M_worn_26 rfl ?_
                      refine Rj_lret d_M_worn_29 rfl ?_
                      exact ⟨sm_L rfl, hC1, kp0 _, kq0 _⟩
          · refine Rj_iconst (q := 13) d_Sc_isDoor_12 rfl ?_
            refine Rj_goto (t := 17) d_Sc_isDoor_13 (by decide) ?_
            refine Rj_bret1 d_Sc_isDoor_17 rfl ?_
            refine Rj_if_eq (q := 19) (t := 26) d_D_worn_16 rfl (by decide) (by decide) (fun c => absurd c (by decide)) (fun _ => ?_)
            refine Rj_iload_n (q := 20) d_D_worn_19 rfl rfl rfl ?_
            refine Rj_cs (q := 23) (z := y_D_isPart) (as := [vI c]) (rest := []) (la := [vI c]) ml_D_170 mw_D_isPart ms_D_isPart d_D_worn_20 rfl rfl rfl rfl rfl ?_
            refine Rj_iload_n (q := 1) d_D_isPart_0 rfl rfl rfl ?_
            refine Rj_if_eq (q := 4) (t := 9) d_D_isPart_1 rfl (by decide) (by first | assumption | exact ⟨by omega, by omega⟩) (fun c20_1 => ?_) (fun c20_1 => ?_)
            · refine Rj_iconst (q := 10) d_D_isPart_9 rfl ?_
              refine Rj_goto (t := 14) d_D_isPart_10 (by decide) ?_
              refine Rj_bret1 d_D_isPart_14 rfl ?_
              refine Rj_if_ne (q := 26) (t := 30) d_D_worn_23 rfl (by decide) (by decide) (fun _ => ?_) (fun c => absurd c (by decide))
              refine Rj_aload_n (q := 31) d_D_worn_30 rfl rfl rfl ?_
              refine Rj_iload_n (q := 32) d_D_worn_31 rfl rfl rfl ?_
              refine Rj_vo (q := 35) (z := y_D_imagineDay) (as := [vI a]) (rest := []) (la := [vA 0, vI a]) oD_0_D_imagineDay ml_D_282 mw_D_imagineDay mv_D_imagineDay rfl d_D_worn_32 rfl rfl rfl rfl rfl ?_
              obtain ⟨D, hRc, hRm⟩ := hR.at (show 0 ≤ a by omega) (show a < ν 0 2 by omega)
              obtain ⟨-, w5, -, -⟩ := hC.w
              have w51 := w5.1
              have tI := cms_I (D := D) (g := fun j => ν 11 (94 + j)) (N := ν 11 5) (K := ((n : Int) * 112000000000000)) hS hH (fun j j0 j1 => (w5.2.2 j j0 j1).1) 61 0 0 0 (s0 (ν 12)) (by decide) (by omega) (by omega) (s0_I hBK hSB)
              refine s_imagine (K := ((n : Int) * 112000000000000)) h hRc hBK hSB w5.2.1 w5.1 (fun j j0 j1 => ⟨(w5.2.2 j j0 j1).2, (w5.2.2 j j0 j1).1⟩) (by omega) (fun m21 f21 r21 c21 => ?_)
              generalize eτ : cms (ν 11) (ν 14) (ν 15) (ν 16) (ν 17) D (fun j => ν 11 (94 + j)) (ν 11 5) 61 0 (s0 (ν 12)) = τ at c21 tI ⊢
              have t1 := tI.1
              have t2 := tI.2.1
              have t3 := tI.2.2.1
              obtain ⟨dt, dsp, tr, sr, br, bp, sc, lr, lq, mr, pr, kr, zk⟩ := h.d (d := b) ⟨by omega, by omega⟩
              have e63 : m21 63 b = μ 63 b := f21 63 b (by unfold Wig Wdy; omega)
              have wq := c21.2 b (by omega) (by omega)
              rw [e63] at wq
              have wr := tI.2.2.2.1 b (by omega) (by omega)
              have wl := sc_le br.1 bp wr.1 wq
              refine Rj_pop (q := 36) d_D_worn_35 rfl (by intro h; cases h) ?_
              refine Rj_aload_n (q := 37) d_D_worn_36 rfl rfl rfl ?_
              refine Rj_gr (q := 40) (zd := 86) gD_D_97_0 rfl rfl d_D_worn_37 rfl ?_
              refine Rj_gr (q := 43) (zd := 87) gD_D_291_86 rfl rfl d_D_worn_40 rfl ?_
              refine Rj_iload_n (q := 44) d_D_worn_43 rfl rfl rfl ?_
              refine Rj_la (q := 45) (v := m21 87 b) aD_87 rfl (by omega) rfl d_D_worn_44 rfl ?_
              refine Rj_aload_n (q := 46) d_D_worn_45 rfl rfl rfl ?_
              refine Rj_gr (q := 49) (zd := 59) gD_D_45_0 rfl rfl d_D_worn_46 rfl ?_
              refine Rj_gr (q := 52) (zd := 63) gD_D_179_59 rfl rfl d_D_worn_49 rfl ?_
              refine Rj_iload_n (q := 53) d_D_worn_52 rfl rfl rfl ?_
              refine Rj_la (q := 54) (v := μ 63 b) aD_63 rfl (by omega) e63 d_D_worn_53 rfl ?_
              refine Rj_iload_n (q := 55) d_D_worn_54 rfl rfl rfl ?_
              refine Rj_cs (q := 58) (z := y_D_lowest) (as := [vL (m21 87 b), vL (μ 63 b), vI c]) (rest := []) (la := [vL (m21 87 b), vU, vL (μ 63 b), vU, vI c]) ml_D_182 mw_D_lowest ms_D_lowest d_D_worn_55 rfl rfl rfl rfl rfl ?_
              refine s_D_lowest (by omega) (by omega) (by omega) (by first | assumption | exact ⟨by omega, by omega⟩) ?_
              refine Rj_lret d_D_worn_58 rfl ?_
              refine Rj_aload_n (q := 1) d_M_worn_0 rfl rfl rfl ?_
              refine Rj_iload_n (q := 2) d_M_worn_1 rfl rfl rfl ?_
              refine Rj_vo (q := 5) (z := y_M_canPass) (as := [vI a]) (rest := []) (la := [vA 0, vI a]) oM_0_M_canPass ml_M_489 mw_M_canPass mv_M_canPass rfl d_M_worn_2 rfl rfl rfl rfl rfl ?_
              refine Rj_aload_n (q := 1) d_M_canPass_0 rfl rfl rfl ?_
              refine Rj_gr (q := 4) (zd := 11) gM_M_42_0 rfl rfl d_M_canPass_1 rfl ?_
              refine Rj_iconst (q := 5) d_M_canPass_4 rfl ?_
              refine Rj_ia (q := 6) (v := ν 11 0) aM_11 rfl (by decide) rfl d_M_canPass_5 rfl ?_
              refine Rj_if_le (q := 9) (t := 21) d_M_canPass_6 rfl (by decide) (by first | assumption | exact ⟨by omega, by omega⟩) (fun c2_6 => ?_) (fun c2_6 => ?_)
              · refine Rj_iconst (q := 22) d_M_canPass_21 rfl ?_
                refine Rj_bret0 d_M_canPass_22 rfl ?_
                refine Rj_if_eq (q := 8) (t := 26) d_M_worn_5 rfl (by decide) (by decide) (fun _ => ?_) (fun c => absurd c (by decide))
                refine Rj_ldc2 (q := 29) k_M_304 d_M_worn_26 rfl ?_
                refine Rj_lret d_M_worn_29 rfl ?_
                exfalso; omega
              · refine Rj_aload_n (q := 10) d_M_canPass_9 rfl rfl rfl ?_
                refine Rj_iload_n (q := 11) d_M_canPass_10 rfl rfl rfl ?_
                refine Rj_vo (q := 14) (z := y_M_isRule) (as := [vI a]) (rest := []) (la := [vA 0, vI a]) oM_0_M_isRule ml_M_486 mw_M_isRule mv_M_isRule rfl d_M_canPass_11 rfl rfl rfl rfl rfl ?_
                refine Rj_iload_n (q := 1) d_M_isRule_0 rfl rfl rfl ?_
                refine Rj_if_lt (q := 4) (t := 16) d_M_isRule_1 rfl (by decide) (by first | assumption | exact ⟨by omega, by omega⟩) (fun c2_11_1 => ?_) (fun c2_11_1 => ?_)
                · refine Rj_iconst (q := 17) d_M_isRule_16 rfl ?_
                  refine Rj_bret0 d_M_isRule_17 rfl ?_
                  refine Rj_if_eq (q := 17) (t := 21) d_M_canPass_14 rfl (by decide) (by decide) (fun _ => ?_) (fun c => absurd c (by decide))
                  refine Rj_iconst (q := 22) d_M_canPass_21 rfl ?_
                  refine Rj_bret0 d_M_canPass_22 rfl ?_
                  refine Rj_if_eq (q := 8) (t := 26) d_M_worn_5 rfl (by decide) (by decide) (fun _ => ?_) (fun c => absurd c (by decide))
                  refine Rj_ldc2 (q := 29) k_M_304 d_M_worn_26 rfl ?_
                  refine Rj_lret d_M_worn_29 rfl ?_
                  exfalso; omega
                · refine Rj_iload_n (q := 5) d_M_isRule_4 rfl rfl rfl ?_
                  refine Rj_aload_n (q := 6) d_M_isRule_5 rfl rfl rfl ?_
                  refine Rj_gi (q := 9) (ki := 2) (v := ν 0 2) gM_M_273_0 rfl rfl rfl d_M_isRule_6 rfl ?_
                  refine Rj_icmp_ge (q := 12) (t := 16) d_M_isRule_9 rfl (by decide) (by first | assumption | exact ⟨by omega, by omega⟩) (by first | assumption | exact ⟨by omega, by omega⟩) (fun c2_11_9 => ?_) (fun c2_11_9 => ?_)
                  · refine Rj_iconst (q := 17) d_M_isRule_16 rfl ?_
                    refine Rj_bret0 d_M_isRule_17 rfl ?_
                    refine Rj_if_eq (q := 17) (t := 21) d_M_canPass_14 rfl (by decide) (by decide) (fun _ => ?_) (fun c => absurd c (by decide))
                    refine Rj_iconst (q := 22) d_M_canPass_21 rfl ?_
                    refine Rj_bret0 d_M_canPass_22 rfl ?_
                    refine Rj_if_eq (q := 8) (t := 26) d_M_worn_5 rfl (by decide) (by decide) (fun _ => ?_) (fun c => absurd c (by decide))
                    refine Rj_ldc2 (q := 29) k_M_304 d_M_worn_26 rfl ?_
                    refine Rj_lret d_M_worn_29 rfl ?_
                    exfalso; omega
                  · refine Rj_iconst (q := 13) d_M_isRule_12 rfl ?_
                    refine Rj_goto (t := 17) d_M_isRule_13 (by decide) ?_
                    refine Rj_bret1 d_M_isRule_17 rfl ?_
                    refine Rj_if_eq (q := 17) (t := 21) d_M_canPass_14 rfl (by decide) (by decide) (fun c => absurd c (by decide)) (fun _ => ?_)
                    refine Rj_iconst (q := 18) d_M_canPass_17 rfl ?_
                    refine Rj_goto (t := 22) d_M_canPass_18 (by decide) ?_
                    refine Rj_bret1 d_M_canPass_22 rfl ?_
                    refine Rj_if_eq (q := 8) (t := 26) d_M_worn_5 rfl (by decide) (by decide) (fun c => absurd c (by decide)) (fun _ => ?_)
                    refine Rj_aload_n (q := 9) d_M_worn_8 rfl rfl rfl ?_
                    refine Rj_iload_n (q := 10) d_M_worn_9 rfl rfl rfl ?_
                    refine Rj_vo (q := 13) (z := y_M_isDoor) (as := [vI b]) (rest := []) (la := [vA 0, vI b]) oM_0_M_isDoor ml_M_353 mw_M_isDoor mv_M_isDoor rfl d_M_worn_10 rfl rfl rfl rfl rfl ?_
                    refine s_M_isDoor hD (by first | assumption | omega) ?_
                    refine Rj_b_eq (q := 16) (t := 26) d_M_worn_13 rfl (by decide) (fun c13 => ?_) (fun c13 => ?_)
                    · have c13 := of_decide_eq_false c13
                      refine Rj_ldc2 (q := 29) k_M_304 d_M_worn_26 rfl ?_
                      refine Rj_lret d_M_worn_29 rfl ?_
                      exfalso; omega
                    · have c13 := of_decide_eq_true c13
                      refine Rj_iload_n (q := 17) d_M_worn_16 rfl rfl rfl ?_
                      refine Rj_i2l (q := 18) d_M_worn_17 rfl (by first | assumption | exact ⟨by omega, by omega⟩) ?_
                      refine Rj_lconst (q := 19) (z := 0) d_M_worn_18 rfl rfl ?_
                      refine Rj_lconst (q := 20) (z := 1) d_M_worn_19 rfl rfl ?_
                      refine Rj_cs (q := 23) (z := y_M_in) (as := [vL c, vL 0, vL 1]) (rest := []) (la := [vL c, vU, vL 0, vU, vL 1, vU]) ml_M_138 mw_M_in ms_M_in d_M_worn_20 rfl rfl rfl rfl rfl ?_
                      refine s_M_in ⟨by omega, by omega⟩ (by decide) (by decide) ?_
                      refine Rj_b_ne (q := 26) (t := 30) d_M_worn_23 rfl (by decide) (fun c23 => ?_) (fun c23 => ?_)
                      · have c23 := of_decide_eq_true c23
                        refine Rj_aload_n (q := 31) d_M_worn_30 rfl rfl rfl ?_
                        refine Rj_vov (q := 34) (z := y_M_keeps) (as := []) (rest := []) (la := [vA 0]) oM_0_M_keeps ml_M_497 mw_M_keeps mv_M_keeps rfl d_M_worn_31 rfl rfl rfl rfl rfl ?_
                        refine s_M_keeps (fun m23 f23 h23 => ?_)
                        have u2 : m23 2 = ν 2 := f23.row (fun i q => absurd (show (2 : Nat) = 13 from q) (by decide))
                        have u4 : m23 4 = ν 4 := f23.row (fun i q => absurd (show (4 : Nat) = 13 from q) (by decide))
                        have u5 : m23 5 = ν 5 := f23.row (fun i q => absurd (show (5 : Nat) = 13 from q) (by decide))
                        have u11 : m23 11 = ν 11 := f23.row (fun i q => absurd (show (11 : Nat) = 13 from q) (by decide))
                        have u12 : m23 12 = ν 12 := f23.row (fun i q => absurd (show (12 : Nat) = 13 from q) (by decide))
                        have u14 : m23 14 = ν 14 := f23.row (fun i q => absurd (show (14 : Nat) = 13 from q) (by decide))
                        have u15 : m23 15 = ν 15 := f23.row (fun i q => absurd (show (15 : Nat) = 13 from q) (by decide))
                        have u16 : m23 16 = ν 16 := f23.row (fun i q => absurd (show (16 : Nat) = 13 from q) (by decide))
                        have u17 : m23 17 = ν 17 := f23.row (fun i q => absurd (show (17 : Nat) = 13 from q) (by decide))
                        have hM2 : MX m23 := hM.mv u11 u14 u15 u16 u17 (f23 0 32 (show ¬ (0 : Nat) = 13 by decide)) (by rw [u12]; exact hB)
                        refine Rj_aload_n (q := 35) d_M_worn_34 rfl rfl rfl ?_
                        refine Rj_iload_n (q := 36) d_M_worn_35 rfl rfl rfl ?_
                        refine Rj_vov (q := 39) (z := y_M_passesDay) (as := [vI a]) (rest := []) (la := [vA 0, vI a]) oM_0_M_passesDay ml_M_492 mw_M_passesDay mv_M_passesDay rfl d_M_worn_36 rfl rfl rfl rfl rfl ?_
                        refine s_M_passesDay (K := ((n : Int) * 112000000000000)) hM2 (hRm.kp u4 u5 u2) (by rw [u12]; exact hBK) (by rw [u11, u12]; exact hSB) (by rw [u11]; exact w5.1) (by rw [u11]; exact fun j j0 j1 => (w5.2.2 j j0 j1).1) (by omega) (fun m28 f28 q28 => ?_)
                        rw [u11, u12, u14, u15, u16, u17, eτ] at q28
                        have x11 : m28 11 = ν 11 := (f28.row (fun i q => by unfold Wcm at q; omega)).trans u11
                        have x14 : m28 14 = ν 14 := (f28.row (fun i q => by unfold Wcm at q; omega)).trans u14
                        have x15 : m28 15 = ν 15 := (f28.row (fun i q => by unfold Wcm at q; omega)).trans u15
                        have x16 : m28 16 = ν 16 := (f28.row (fun i q => by unfold Wcm at q; omega)).trans u16
                        have x17 : m28 17 = ν 17 := (f28.row (fun i q => by unfold Wcm at q; omega)).trans u17
                        have hM3 : MX m28 := hM.mv x11 x14 x15 x16 x17 ((f28 0 32 (by unfold Wcm; omega)).trans (f23 0 32 (show ¬ (0 : Nat) = 13 by decide))) (by rw [q28.1]; exact fun y y0 y1 => by have := tI.2.2.2.2.1 y y0 y1; omega)
                        refine Rj_aload_n (q := 40) d_M_worn_39 rfl rfl rfl ?_
                        refine Rj_vov (q := 43) (z := y_M_putsBack) (as := []) (rest := []) (la := [vA 0]) oM_0_M_putsBack ml_M_500 mw_M_putsBack mv_M_putsBack rfl d_M_worn_40 rfl rfl rfl rfl rfl ?_
                        refine s_M_putsBack (fun m37 f37 h37 => ?_)
                        refine Rj_aload_n (q := 44) d_M_worn_43 rfl rfl rfl ?_
                        refine Rj_gr (q := 47) (zd := 23) gM_M_83_0 rfl rfl d_M_worn_44 rfl ?_
                        refine Rj_iload_n (q := 48) d_M_worn_47 rfl rfl rfl ?_
                        refine Rj_la (q := 49) (v := τ.2.2.2.2 b) aM_23 rfl (by omega) ((f37 23 b (show ¬ (23 : Nat) = 12 by decide)).trans (q28.2.2.2.2 b (by omega) (by omega))) d_M_worn_48 rfl ?_
                        refine Rj_aload_n (q := 50) d_M_worn_49 rfl rfl rfl ?_
                        refine Rj_gl (q := 53) (ki := 32) (v := pts (ν 11)) gM_M_64_0 rfl rfl ((f37 0 32 (show ¬ (0 : Nat) = 12 by decide)).trans ((f28 0 32 (by unfold Wcm; omega)).trans ((f23 0 32 (show ¬ (0 : Nat) = 13 by decide)).trans hP))) d_M_worn_50 rfl ?_
                        refine Rj_iload_n (q := 54) d_M_worn_53 rfl rfl rfl ?_
                        refine Rj_cs (q := 57) (z := y_M_lowest) (as := [vL (τ.2.2.2.2 b), vL (pts (ν 11)), vI c]) (rest := []) (la := [vL (τ.2.2.2.2 b), vU, vL (pts (ν 11)), vU, vI c]) ml_M_313 mw_M_lowest ms_M_lowest d_M_worn_54 rfl rfl rfl rfl rfl ?_
                        refine s_M_lowest (by omega) (by omega) (by omega) (by first | assumption | exact ⟨by omega, by omega⟩) ?_
                        refine Rj_lret d_M_worn_57 rfl ?_
                        have p37 : ∀ j, 0 ≤ j → j < 12 → m37 12 j = ν 12 j := fun j j0 j1 => by
                          rw [h37 j j0 j1, f28 13 j (by unfold Wcm; omega)]; exact h23 j j0 j1
                        have g37 : ∀ c i, c ≠ 12 → cqm c i → m37 c i = ν c i := fun c i q1 q2 => ((f37 c i q1).trans (f28 c i (by unfold cqm at q2; unfold Wcm; omega))).trans (f23 c i (by unfold cqm at q2; omega))
                        refine ⟨sm_L (lw_eq br.1 (by omega) wq).symm, hC.moved (fun c i q1 q2 => f21 c i (by unfold Wig Wdy; omega)) g37 (GX.pl (h.spots (fun c i q1 q2 => f21 c i (by unfold gxc at q2; unfold Wig Wdy; omega)) (fun y y0 y1 => r21 y y0 (by omega))) p37) (fun d d0 d1 d2 => ?_) (fun d d0 d1 => ?_), fun c i q => f21 c i (by unfold Wig Wdy; omega), fun c i q => ((f37 c i (by omega)).trans (f28 c i (by unfold Wcm; omega))).trans (f23 c i (by omega))⟩
                        · rw [p37 d d0 (by omega)]; exact hSB d d0 d1 d2
                        · rw [p37 d d0 d1]
                          have := hBK d d0 d1
                          omega
                      · have c23 := of_decide_eq_false c23
                        refine Rj_ldc2 (q := 29) k_M_304 d_M_worn_26 rfl ?_
                        refine Rj_lret d_M_worn_29 rfl ?_
                        exfalso; omega
            · refine Rj_iload_n (q := 5) d_D_isPart_4 rfl rfl rfl ?_
              refine Rj_iconst (q := 6) d_D_isPart_5 rfl ?_
              refine Rj_icmp_ne (q := 9) (t := 13) d_D_isPart_6 rfl (by decide) (by first | assumption | exact ⟨by omega, by omega⟩) (by decide) (fun c20_6 => ?_) (fun c20_6 => ?_)
              · refine Rj_iconst (q := 14) d_D_isPart_13 rfl ?_
                refine Rj_bret0 d_D_isPart_14 rfl ?_
                refine Rj_if_ne (q := 26) (t := 30) d_D_worn_23 rfl (by decide) (by decide) (fun c => absurd c (by decide)) (fun _ => ?_)
                refine Rj_ldc2 (q := 29) k_D_289 d_D_worn_26 rfl ?_
                refine Rj_lret d_D_worn_29 rfl ?_
                refine Rj_aload_n (q := 1) d_M_worn_0 rfl rfl rfl ?_
                refine Rj_iload_n (q := 2) d_M_worn_1 rfl rfl rfl ?_
                refine Rj_vo (q := 5) (z := y_M_canPass) (as := [vI a]) (rest := []) (la := [vA 0, vI a]) oM_0_M_canPass ml_M_489 mw_M_canPass mv_M_canPass rfl d_M_worn_2 rfl rfl rfl rfl rfl ?_
                refine Rj_aload_n (q := 1) d_M_canPass_0 rfl rfl rfl ?_
                refine Rj_gr (q := 4) (zd := 11) gM_M_42_0 rfl rfl d_M_canPass_1 rfl ?_
                refine Rj_iconst (q := 5) d_M_canPass_4 rfl ?_
                refine Rj_ia (q := 6) (v := ν 11 0) aM_11 rfl (by decide) rfl d_M_canPass_5 rfl ?_
                refine Rj_if_le (q := 9) (t := 21) d_M_canPass_6 rfl (by decide) (by first | assumption | exact ⟨by omega, by omega⟩) (fun c2_6 => ?_) (fun c2_6 => ?_)
                · refine Rj_iconst (q := 22) d_M_canPass_21 rfl ?_
                  refine Rj_bret0 d_M_canPass_22 rfl ?_
                  refine Rj_if_eq (q := 8) (t := 26) d_M_worn_5 rfl (by decide) (by decide) (fun _ => ?_) (fun c => absurd c (by decide))
                  refine Rj_ldc2 (q := 29) k_M_304 d_M_worn_26 rfl ?_
                  refine Rj_lret d_M_worn_29 rfl ?_
                  exact ⟨sm_L rfl, hC1, kp0 _, kq0 _⟩
                · refine Rj_aload_n (q := 10) d_M_canPass_9 rfl rfl rfl ?_
                  refine Rj_iload_n (q := 11) d_M_canPass_10 rfl rfl rfl ?_
                  refine Rj_vo (q := 14) (z := y_M_isRule) (as := [vI a]) (rest := []) (la := [vA 0, vI a]) oM_0_M_isRule ml_M_486 mw_M_isRule mv_M_isRule rfl d_M_canPass_11 rfl rfl rfl rfl rfl ?_
                  refine Rj_iload_n (q := 1) d_M_isRule_0 rfl rfl rfl ?_
                  refine Rj_if_lt (q := 4) (t := 16) d_M_isRule_1 rfl (by decide) (by first | assumption | exact ⟨by omega, by omega⟩) (fun c2_11_1 => ?_) (fun c2_11_1 => ?_)
                  · refine Rj_iconst (q := 17) d_M_isRule_16 rfl ?_
                    refine Rj_bret0 d_M_isRule_17 rfl ?_
                    refine Rj_if_eq (q := 17) (t := 21) d_M_canPass_14 rfl (by decide) (by decide) (fun _ => ?_) (fun c => absurd c (by decide))
                    refine Rj_iconst (q := 22) d_M_canPass_21 rfl ?_
                    refine Rj_bret0 d_M_canPass_22 rfl ?_
                    refine Rj_if_eq (q := 8) (t := 26) d_M_worn_5 rfl (by decide) (by decide) (fun _ => ?_) (fun c => absurd c (by decide))
                    refine Rj_ldc2 (q := 29) k_M_304 d_M_worn_26 rfl ?_
                    refine Rj_lret d_M_worn_29 rfl ?_
                    exact ⟨sm_L rfl, hC1, kp0 _, kq0 _⟩
                  · refine Rj_iload_n (q := 5) d_M_isRule_4 rfl rfl rfl ?_
                    refine Rj_aload_n (q := 6) d_M_isRule_5 rfl rfl rfl ?_
                    refine Rj_gi (q := 9) (ki := 2) (v := ν 0 2) gM_M_273_0 rfl rfl rfl d_M_isRule_6 rfl ?_
                    refine Rj_icmp_ge (q := 12) (t := 16) d_M_isRule_9 rfl (by decide) (by first | assumption | exact ⟨by omega, by omega⟩) (by first | assumption | exact ⟨by omega, by omega⟩) (fun c2_11_9 => ?_) (fun c2_11_9 => ?_)
                    · refine Rj_iconst (q := 17) d_M_isRule_16 rfl ?_
                      refine Rj_bret0 d_M_isRule_17 rfl ?_
                      refine Rj_if_eq (q := 17) (t := 21) d_M_canPass_14 rfl (by decide) (by decide) (fun _ => ?_) (fun c => absurd c (by decide))
                      refine Rj_iconst (q := 22) d_M_canPass_21 rfl ?_
                      refine Rj_bret0 d_M_canPass_22 rfl ?_
                      refine Rj_if_eq (q := 8) (t := 26) d_M_worn_5 rfl (by decide) (by decide) (fun _ => ?_) (fun c => absurd c (by decide))
                      refine Rj_ldc2 (q := 29) k_M_304 d_M_worn_26 rfl ?_
                      refine Rj_lret d_M_worn_29 rfl ?_
                      exact ⟨sm_L rfl, hC1, kp0 _, kq0 _⟩
                    · refine Rj_iconst (q := 13) d_M_isRule_12 rfl ?_
                      refine Rj_goto (t := 17) d_M_isRule_13 (by decide) ?_
                      refine Rj_bret1 d_M_isRule_17 rfl ?_
                      refine Rj_if_eq (q := 17) (t := 21) d_M_canPass_14 rfl (by decide) (by decide) (fun c => absurd c (by decide)) (fun _ => ?_)
                      refine Rj_iconst (q := 18) d_M_canPass_17 rfl ?_
                      refine Rj_goto (t := 22) d_M_canPass_18 (by decide) ?_
                      refine Rj_bret1 d_M_canPass_22 rfl ?_
                      refine Rj_if_eq (q := 8) (t := 26) d_M_worn_5 rfl (by decide) (by decide) (fun c => absurd c (by decide)) (fun _ => ?_)
                      refine Rj_aload_n (q := 9) d_M_worn_8 rfl rfl rfl ?_
                      refine Rj_iload_n (q := 10) d_M_worn_9 rfl rfl rfl ?_
                      refine Rj_vo (q := 13) (z := y_M_isDoor) (as := [vI b]) (rest := []) (la := [vA 0, vI b]) oM_0_M_isDoor ml_M_353 mw_M_isDoor mv_M_isDoor rfl d_M_worn_10 rfl rfl rfl rfl rfl ?_
                      refine s_M_isDoor hD (by first | assumption | omega) ?_
                      refine Rj_b_eq (q := 16) (t := 26) d_M_worn_13 rfl (by decide) (fun c13 => ?_) (fun c13 => ?_)
                      · have c13 := of_decide_eq_false c13
                        refine Rj_ldc2 (q := 29) k_M_304 d_M_worn_26 rfl ?_
                        refine Rj_lret d_M_worn_29 rfl ?_
                        exact ⟨sm_L rfl, hC1, kp0 _, kq0 _⟩
                      · have c13 := of_decide_eq_true c13
                        refine Rj_iload_n (q := 17) d_M_worn_16 rfl rfl rfl ?_
                        refine Rj_i2l (q := 18) d_M_worn_17 rfl (by first | assumption | exact ⟨by omega, by omega⟩) ?_
                        refine Rj_lconst (q := 19) (z := 0) d_M_worn_18 rfl rfl ?_
                        refine Rj_lconst (q := 20) (z := 1) d_M_worn_19 rfl rfl ?_
                        refine Rj_cs (q := 23) (z := y_M_in) (as := [vL c, vL 0, vL 1]) (rest := []) (la := [vL c, vU, vL 0, vU, vL 1, vU]) ml_M_138 mw_M_in ms_M_in d_M_worn_20 rfl rfl rfl rfl rfl ?_
                        refine s_M_in ⟨by omega, by omega⟩ (by decide) (by decide) ?_
                        refine Rj_b_ne (q := 26) (t := 30) d_M_worn_23 rfl (by decide) (fun c23 => ?_) (fun c23 => ?_)
                        · have c23 := of_decide_eq_true c23
                          refine Rj_aload_n (q := 31) d_M_worn_30 rfl rfl rfl ?_
                          refine Rj_vov (q := 34) (z := y_M_keeps) (as := []) (rest := []) (la := [vA 0]) oM_0_M_keeps ml_M_497 mw_M_keeps mv_M_keeps rfl d_M_worn_31 rfl rfl rfl rfl rfl ?_
                          exfalso; omega
                        · have c23 := of_decide_eq_false c23
                          refine Rj_ldc2 (q := 29) k_M_304 d_M_worn_26 rfl ?_
                          refine Rj_lret d_M_worn_29 rfl ?_
                          exact ⟨sm_L rfl, hC1, kp0 _, kq0 _⟩
              · refine Rj_iconst (q := 10) d_D_isPart_9 rfl ?_
                refine Rj_goto (t := 14) d_D_isPart_10 (by decide) ?_
                refine Rj_bret1 d_D_isPart_14 rfl ?_
                refine Rj_if_ne (q := 26) (t := 30) d_D_worn_23 rfl (by decide) (by decide) (fun _ => ?_) (fun c => absurd c (by decide))
                refine Rj_aload_n (q := 31) d_D_worn_30 rfl rfl rfl ?_
                refine Rj_iload_n (q := 32) d_D_worn_31 rfl rfl rfl ?_
                refine Rj_vo (q := 35) (z := y_D_imagineDay) (as := [vI a]) (rest := []) (la := [vA 0, vI a]) oD_0_D_imagineDay ml_D_282 mw_D_imagineDay mv_D_imagineDay rfl d_D_worn_32 rfl rfl rfl rfl rfl ?_
                obtain ⟨D, hRc, hRm⟩ := hR.at (show 0 ≤ a by omega) (show a < ν 0 2 by omega)
                obtain ⟨-, w5, -, -⟩ := hC.w
                have w51 := w5.1
                have tI := cms_I (D := D) (g := fun j => ν 11 (94 + j)) (N := ν 11 5) (K := ((n : Int) * 112000000000000)) hS hH (fun j j0 j1 => (w5.2.2 j j0 j1).1) 61 0 0 0 (s0 (ν 12)) (by decide) (by omega) (by omega) (s0_I hBK hSB)
                refine s_imagine (K := ((n : Int) * 112000000000000)) h hRc hBK hSB w5.2.1 w5.1 (fun j j0 j1 => ⟨(w5.2.2 j j0 j1).2, (w5.2.2 j j0 j1).1⟩) (by omega) (fun m21 f21 r21 c21 => ?_)
                generalize eτ : cms (ν 11) (ν 14) (ν 15) (ν 16) (ν 17) D (fun j => ν 11 (94 + j)) (ν 11 5) 61 0 (s0 (ν 12)) = τ at c21 tI ⊢
                have t1 := tI.1
                have t2 := tI.2.1
                have t3 := tI.2.2.1
                obtain ⟨dt, dsp, tr, sr, br, bp, sc, lr, lq, mr, pr, kr, zk⟩ := h.d (d := b) ⟨by omega, by omega⟩
                have e63 : m21 63 b = μ 63 b := f21 63 b (by unfold Wig Wdy; omega)
                have wq := c21.2 b (by omega) (by omega)
                rw [e63] at wq
                have wr := tI.2.2.2.1 b (by omega) (by omega)
                have wl := sc_le br.1 bp wr.1 wq
                refine Rj_pop (q := 36) d_D_worn_35 rfl (by intro h; cases h) ?_
                refine Rj_aload_n (q := 37) d_D_worn_36 rfl rfl rfl ?_
                refine Rj_gr (q := 40) (zd := 86) gD_D_97_0 rfl rfl d_D_worn_37 rfl ?_
                refine Rj_gr (q := 43) (zd := 87) gD_D_291_86 rfl rfl d_D_worn_40 rfl ?_
                refine Rj_iload_n (q := 44) d_D_worn_43 rfl rfl rfl ?_
                refine Rj_la (q := 45) (v := m21 87 b) aD_87 rfl (by omega) rfl d_D_worn_44 rfl ?_
                refine Rj_aload_n (q := 46) d_D_worn_45 rfl rfl rfl ?_
                refine Rj_gr (q := 49) (zd := 59) gD_D_45_0 rfl rfl d_D_worn_46 rfl ?_
                refine Rj_gr (q := 52) (zd := 63) gD_D_179_59 rfl rfl d_D_worn_49 rfl ?_
                refine Rj_iload_n (q := 53) d_D_worn_52 rfl rfl rfl ?_
                refine Rj_la (q := 54) (v := μ 63 b) aD_63 rfl (by omega) e63 d_D_worn_53 rfl ?_
                refine Rj_iload_n (q := 55) d_D_worn_54 rfl rfl rfl ?_
                refine Rj_cs (q := 58) (z := y_D_lowest) (as := [vL (m21 87 b), vL (μ 63 b), vI c]) (rest := []) (la := [vL (m21 87 b), vU, vL (μ 63 b), vU, vI c]) ml_D_182 mw_D_lowest ms_D_lowest d_D_worn_55 rfl rfl rfl rfl rfl ?_
                refine s_D_lowest (by omega) (by omega) (by omega) (by first | assumption | exact ⟨by omega, by omega⟩) ?_
                refine Rj_lret d_D_worn_58 rfl ?_
                refine Rj_aload_n (q := 1) d_M_worn_0 rfl rfl rfl ?_
                refine Rj_iload_n (q := 2) d_M_worn_1 rfl rfl rfl ?_
                refine Rj_vo (q := 5) (z := y_M_canPass) (as := [vI a]) (rest := []) (la := [vA 0, vI a]) oM_0_M_canPass ml_M_489 mw_M_canPass mv_M_canPass rfl d_M_worn_2 rfl rfl rfl rfl rfl ?_
                refine Rj_aload_n (q := 1) d_M_canPass_0 rfl rfl rfl ?_
                refine Rj_gr (q := 4) (zd := 11) gM_M_42_0 rfl rfl d_M_canPass_1 rfl ?_
                refine Rj_iconst (q := 5) d_M_canPass_4 rfl ?_
                refine Rj_ia (q := 6) (v := ν 11 0) aM_11 rfl (by decide) rfl d_M_canPass_5 rfl ?_
                refine Rj_if_le (q := 9) (t := 21) d_M_canPass_6 rfl (by decide) (by first | assumption | exact ⟨by omega, by omega⟩) (fun c2_6 => ?_) (fun c2_6 => ?_)
                · refine Rj_iconst (q := 22) d_M_canPass_21 rfl ?_
                  refine Rj_bret0 d_M_canPass_22 rfl ?_
                  refine Rj_if_eq (q := 8) (t := 26) d_M_worn_5 rfl (by decide) (by decide) (fun _ => ?_) (fun c => absurd c (by decide))
                  refine Rj_ldc2 (q := 29) k_M_304 d_M_worn_26 rfl ?_
                  refine Rj_lret d_M_worn_29 rfl ?_
                  exfalso; omega
                · refine Rj_aload_n (q := 10) d_M_canPass_9 rfl rfl rfl ?_
                  refine Rj_iload_n (q := 11) d_M_canPass_10 rfl rfl rfl ?_
                  refine Rj_vo (q := 14) (z := y_M_isRule) (as := [vI a]) (rest := []) (la := [vA 0, vI a]) oM_0_M_isRule ml_M_486 mw_M_isRule mv_M_isRule rfl d_M_canPass_11 rfl rfl rfl rfl rfl ?_
                  refine Rj_iload_n (q := 1) d_M_isRule_0 rfl rfl rfl ?_
                  refine Rj_if_lt (q := 4) (t := 16) d_M_isRule_1 rfl (by decide) (by first | assumption | exact ⟨by omega, by omega⟩) (fun c2_11_1 => ?_) (fun c2_11_1 => ?_)
                  · refine Rj_iconst (q := 17) d_M_isRule_16 rfl ?_
                    refine Rj_bret0 d_M_isRule_17 rfl ?_
                    refine Rj_if_eq (q := 17) (t := 21) d_M_canPass_14 rfl (by decide) (by decide) (fun _ => ?_) (fun c => absurd c (by decide))
                    refine Rj_iconst (q := 22) d_M_canPass_21 rfl ?_
                    refine Rj_bret0 d_M_canPass_22 rfl ?_
                    refine Rj_if_eq (q := 8) (t := 26) d_M_worn_5 rfl (by decide) (by decide) (fun _ => ?_) (fun c => absurd c (by decide))
                    refine Rj_ldc2 (q := 29) k_M_304 d_M_worn_26 rfl ?_
                    refine Rj_lret d_M_worn_29 rfl ?_
                    exfalso; omega
                  · refine Rj_iload_n (q := 5) d_M_isRule_4 rfl rfl rfl ?_
                    refine Rj_aload_n (q := 6) d_M_isRule_5 rfl rfl rfl ?_
                    refine Rj_gi (q := 9) (ki := 2) (v := ν 0 2) gM_M_273_0 rfl rfl rfl d_M_isRule_6 rfl ?_
                    refine Rj_icmp_ge (q := 12) (t := 16) d_M_isRule_9 rfl (by decide) (by first | assumption | exact ⟨by omega, by omega⟩) (by first | assumption | exact ⟨by omega, by omega⟩) (fun c2_11_9 => ?_) (fun c2_11_9 => ?_)
                    · refine Rj_iconst (q := 17) d_M_isRule_16 rfl ?_
                      refine Rj_bret0 d_M_isRule_17 rfl ?_
                      refine Rj_if_eq (q := 17) (t := 21) d_M_canPass_14 rfl (by decide) (by decide) (fun _ => ?_) (fun c => absurd c (by decide))
                      refine Rj_iconst (q := 22) d_M_canPass_21 rfl ?_
                      refine Rj_bret0 d_M_canPass_22 rfl ?_
                      refine Rj_if_eq (q := 8) (t := 26) d_M_worn_5 rfl (by decide) (by decide) (fun _ => ?_) (fun c => absurd c (by decide))
                      refine Rj_ldc2 (q := 29) k_M_304 d_M_worn_26 rfl ?_
                      refine Rj_lret d_M_worn_29 rfl ?_
                      exfalso; omega
                    · refine Rj_iconst (q := 13) d_M_isRule_12 rfl ?_
                      refine Rj_goto (t := 17) d_M_isRule_13 (by decide) ?_
                      refine Rj_bret1 d_M_isRule_17 rfl ?_
                      refine Rj_if_eq (q := 17) (t := 21) d_M_canPass_14 rfl (by decide) (by decide) (fun c => absurd c (by decide)) (fun _ => ?_)
                      refine Rj_iconst (q := 18) d_M_canPass_17 rfl ?_
                      refine Rj_goto (t := 22) d_M_canPass_18 (by decide) ?_
                      refine Rj_bret1 d_M_canPass_22 rfl ?_
                      refine Rj_if_eq (q := 8) (t := 26) d_M_worn_5 rfl (by decide) (by decide) (fun c => absurd c (by decide)) (fun _ => ?_)
                      refine Rj_aload_n (q := 9) d_M_worn_8 rfl rfl rfl ?_
                      refine Rj_iload_n (q := 10) d_M_worn_9 rfl rfl rfl ?_
                      refine Rj_vo (q := 13) (z := y_M_isDoor) (as := [vI b]) (rest := []) (la := [vA 0, vI b]) oM_0_M_isDoor ml_M_353 mw_M_isDoor mv_M_isDoor rfl d_M_worn_10 rfl rfl rfl rfl rfl ?_
                      refine s_M_isDoor hD (by first | assumption | omega) ?_
                      refine Rj_b_eq (q := 16) (t := 26) d_M_worn_13 rfl (by decide) (fun c13 => ?_) (fun c13 => ?_)
                      · have c13 := of_decide_eq_false c13
                        refine Rj_ldc2 (q := 29) k_M_304 d_M_worn_26 rfl ?_
                        refine Rj_lret d_M_worn_29 rfl ?_
                        exfalso; omega
                      · have c13 := of_decide_eq_true c13
                        refine Rj_iload_n (q := 17) d_M_worn_16 rfl rfl rfl ?_
                        refine Rj_i2l (q := 18) d_M_worn_17 rfl (by first | assumption | exact ⟨by omega, by omega⟩) ?_
                        refine Rj_lconst (q := 19) (z := 0) d_M_worn_18 rfl rfl ?_
                        refine Rj_lconst (q := 20) (z := 1) d_M_worn_19 rfl rfl ?_
                        refine Rj_cs (q := 23) (z := y_M_in) (as := [vL c, vL 0, vL 1]) (rest := []) (la := [vL c, vU, vL 0, vU, vL 1, vU]) ml_M_138 mw_M_in ms_M_in d_M_worn_20 rfl rfl rfl rfl rfl ?_
                        refine s_M_in ⟨by omega, by omega⟩ (by decide) (by decide) ?_
                        refine Rj_b_ne (q := 26) (t := 30) d_M_worn_23 rfl (by decide) (fun c23 => ?_) (fun c23 => ?_)
                        · have c23 := of_decide_eq_true c23
                          refine Rj_aload_n (q := 31) d_M_worn_30 rfl rfl rfl ?_
                          refine Rj_vov (q := 34) (z := y_M_keeps) (as := []) (rest := []) (la := [vA 0]) oM_0_M_keeps ml_M_497 mw_M_keeps mv_M_keeps rfl d_M_worn_31 rfl rfl rfl rfl rfl ?_
                          refine s_M_keeps (fun m23 f23 h23 => ?_)
                          have u2 : m23 2 = ν 2 := f23.row (fun i q => absurd (show (2 : Nat) = 13 from q) (by decide))
                          have u4 : m23 4 = ν 4 := f23.row (fun i q => absurd (show (4 : Nat) = 13 from q) (by decide))
                          have u5 : m23 5 = ν 5 := f23.row (fun i q => absurd (show (5 : Nat) = 13 from q) (by decide))
                          have u11 : m23 11 = ν 11 := f23.row (fun i q => absurd (show (11 : Nat) = 13 from q) (by decide))
                          have u12 : m23 12 = ν 12 := f23.row (fun i q => absurd (show (12 : Nat) = 13 from q) (by decide))
                          have u14 : m23 14 = ν 14 := f23.row (fun i q => absurd (show (14 : Nat) = 13 from q) (by decide))
                          have u15 : m23 15 = ν 15 := f23.row (fun i q => absurd (show (15 : Nat) = 13 from q) (by decide))
                          have u16 : m23 16 = ν 16 := f23.row (fun i q => absurd (show (16 : Nat) = 13 from q) (by decide))
                          have u17 : m23 17 = ν 17 := f23.row (fun i q => absurd (show (17 : Nat) = 13 from q) (by decide))
                          have hM2 : MX m23 := hM.mv u11 u14 u15 u16 u17 (f23 0 32 (show ¬ (0 : Nat) = 13 by decide)) (by rw [u12]; exact hB)
                          refine Rj_aload_n (q := 35) d_M_worn_34 rfl rfl rfl ?_
                          refine Rj_iload_n (q := 36) d_M_worn_35 rfl rfl rfl ?_
                          refine Rj_vov (q := 39) (z := y_M_passesDay) (as := [vI a]) (rest := []) (la := [vA 0, vI a]) oM_0_M_passesDay ml_M_492 mw_M_passesDay mv_M_passesDay rfl d_M_worn_36 rfl rfl rfl rfl rfl ?_
                          refine s_M_passesDay (K := ((n : Int) * 112000000000000)) hM2 (hRm.kp u4 u5 u2) (by rw [u12]; exact hBK) (by rw [u11, u12]; exact hSB) (by rw [u11]; exact w5.1) (by rw [u11]; exact fun j j0 j1 => (w5.2.2 j j0 j1).1) (by omega) (fun m28 f28 q28 => ?_)
                          rw [u11, u12, u14, u15, u16, u17, eτ] at q28
                          have x11 : m28 11 = ν 11 := (f28.row (fun i q => by unfold Wcm at q; omega)).trans u11
                          have x14 : m28 14 = ν 14 := (f28.row (fun i q => by unfold Wcm at q; omega)).trans u14
                          have x15 : m28 15 = ν 15 := (f28.row (fun i q => by unfold Wcm at q; omega)).trans u15
                          have x16 : m28 16 = ν 16 := (f28.row (fun i q => by unfold Wcm at q; omega)).trans u16
                          have x17 : m28 17 = ν 17 := (f28.row (fun i q => by unfold Wcm at q; omega)).trans u17
                          have hM3 : MX m28 := hM.mv x11 x14 x15 x16 x17 ((f28 0 32 (by unfold Wcm; omega)).trans (f23 0 32 (show ¬ (0 : Nat) = 13 by decide))) (by rw [q28.1]; exact fun y y0 y1 => by have := tI.2.2.2.2.1 y y0 y1; omega)
                          refine Rj_aload_n (q := 40) d_M_worn_39 rfl rfl rfl ?_
                          refine Rj_vov (q := 43) (z := y_M_putsBack) (as := []) (rest := []) (la := [vA 0]) oM_0_M_putsBack ml_M_500 mw_M_putsBack mv_M_putsBack rfl d_M_worn_40 rfl rfl rfl rfl rfl ?_
                          refine s_M_putsBack (fun m37 f37 h37 => ?_)
                          refine Rj_aload_n (q := 44) d_M_worn_43 rfl rfl rfl ?_
                          refine Rj_gr (q := 47) (zd := 23) gM_M_83_0 rfl rfl d_M_worn_44 rfl ?_
                          refine Rj_iload_n (q := 48) d_M_worn_47 rfl rfl rfl ?_
                          refine Rj_la (q := 49) (v := τ.2.2.2.2 b) aM_23 rfl (by omega) ((f37 23 b (show ¬ (23 : Nat) = 12 by decide)).trans (q28.2.2.2.2 b (by omega) (by omega))) d_M_worn_48 rfl ?_
                          refine Rj_aload_n (q := 50) d_M_worn_49 rfl rfl rfl ?_
                          refine Rj_gl (q := 53) (ki := 32) (v := pts (ν 11)) gM_M_64_0 rfl rfl ((f37 0 32 (show ¬ (0 : Nat) = 12 by decide)).trans ((f28 0 32 (by unfold Wcm; omega)).trans ((f23 0 32 (show ¬ (0 : Nat) = 13 by decide)).trans hP))) d_M_worn_50 rfl ?_
                          refine Rj_iload_n (q := 54) d_M_worn_53 rfl rfl rfl ?_
                          refine Rj_cs (q := 57) (z := y_M_lowest) (as := [vL (τ.2.2.2.2 b), vL (pts (ν 11)), vI c]) (rest := []) (la := [vL (τ.2.2.2.2 b), vU, vL (pts (ν 11)), vU, vI c]) ml_M_313 mw_M_lowest ms_M_lowest d_M_worn_54 rfl rfl rfl rfl rfl ?_
                          refine s_M_lowest (by omega) (by omega) (by omega) (by first | assumption | exact ⟨by omega, by omega⟩) ?_
                          refine Rj_lret d_M_worn_57 rfl ?_
                          have p37 : ∀ j, 0 ≤ j → j < 12 → m37 12 j = ν 12 j := fun j j0 j1 => by
                            rw [h37 j j0 j1, f28 13 j (by unfold Wcm; omega)]; exact h23 j j0 j1
                          have g37 : ∀ c i, c ≠ 12 → cqm c i → m37 c i = ν c i := fun c i q1 q2 => ((f37 c i q1).trans (f28 c i (by unfold cqm at q2; unfold Wcm; omega))).trans (f23 c i (by unfold cqm at q2; omega))
                          refine ⟨sm_L (lw_eq br.1 (by omega) wq).symm, hC.moved (fun c i q1 q2 => f21 c i (by unfold Wig Wdy; omega)) g37 (GX.pl (h.spots (fun c i q1 q2 => f21 c i (by unfold gxc at q2; unfold Wig Wdy; omega)) (fun y y0 y1 => r21 y y0 (by omega))) p37) (fun d d0 d1 d2 => ?_) (fun d d0 d1 => ?_), fun c i q => f21 c i (by unfold Wig Wdy; omega), fun c i q => ((f37 c i (by omega)).trans (f28 c i (by unfold Wcm; omega))).trans (f23 c i (by omega))⟩
                          · rw [p37 d d0 (by omega)]; exact hSB d d0 d1 d2
                          · rw [p37 d d0 d1]
                            have := hBK d d0 d1
                            omega
                        · have c23 := of_decide_eq_false c23
                          refine Rj_ldc2 (q := 29) k_M_304 d_M_worn_26 rfl ?_
                          refine Rj_lret d_M_worn_29 rfl ?_
                          exfalso; omega
