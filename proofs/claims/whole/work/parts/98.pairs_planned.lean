theorem oD_0_D_isPlanOf : OI YD 0 y_D_isPlanOf := ⟨by decide, _, _, _, cD_0, rfl⟩
theorem oM_0_M_canPlan : OI YM 0 y_M_canPlan := ⟨by decide, _, _, _, cM_0, rfl⟩
theorem oM_0_M_plans : OI YM 0 y_M_plans := ⟨by decide, _, _, _, cM_0, rfl⟩
theorem gD_D_61_0 : GI YD "DoorsOnCogs" 61 0 9 (some (some 74)) := ⟨by decide, _, _, _, fl_D_61, cD_0, by decide, rfl⟩
theorem oD_74_Pl_solve : OI YD 74 y_Pl_solve := ⟨by decide, _, _, _, cD_74, rfl⟩
theorem gD_D_236_74 : GI YD "DoorsOnCogs" 236 74 8 none := ⟨by decide, _, _, _, fl_D_236, cD_74, by decide, rfl⟩
/-! pairs of calls: planned, row -/
theorem Cor.idle {n : Nat} {μ ν μ' ν' : Mem} (h : Cor n μ ν) (f : ∀ c i, c ≤ 64 → μ' c i = μ c i) (g : ∀ c i, cqm c i → ν' c i = ν c i) : Cor (n + 1) μ' ν' := by
  have e11 : ν' 11 = ν 11 := funext fun i => g 11 i (by unfold cqm; omega)
  refine h.told (fun c i _ q => f c i q) (fun c i _ q => g c i q) (fun i _ => by rw [e11]) (by rw [e11]; exact h.2.1) (by rw [e11]; exact h.2.2.1.keep (fun c i q1 q2 => f c i (by omega)))
theorem pln_bd {D : Int} {ac : Int → Bool} {res dp : Int → Int} (hd : ∀ d, ac d = true → 0 ≤ res d → 0 ≤ dp d ∧ dp d ≤ 1999) (hr : ∀ d, res d = -2 ∨ res d = -3 ∨ 0 ≤ res d) : ∀ (f : Nat) (d b u : Int), 0 ≤ b → d ≤ D → -3 ≤ pln D ac res dp f d b u ∧ pln D ac res dp f d b u ≤ b + (D - d) * 1999
  | 0, d, b, u, h, hD => by
    unfold pln
    by_cases c : u = 1
    · rw [if_pos c]; omega
    · rw [if_neg c]; omega
  | f + 1, d, b, u, h, hD => by
    by_cases c1 : d < D
    · by_cases c2 : ac d = true
      · rcases hr d with c3 | c3 | c3
        · rw [pln_no c1 c2 c3]; omega
        · rw [pln_unk c1 c2 c3]
          have := pln_bd (D := D) hd hr f (d + 1) b 1 h (by omega)
          omega
        · rw [pln_go c1 c2 c3]
          have q := hd d c2 c3
          have := pln_bd (D := D) hd hr f (d + 1) (b + dp d) u (by omega) (by omega)
          omega
      · rw [pln_skip c1 c2]
        have := pln_bd (D := D) hd hr f (d + 1) b u h (by omega)
        omega
    · rw [pln_out c1]
      by_cases c : u = 1
      · rw [if_pos c]; omega
      · rw [if_neg c]; omega
theorem dpP_bd {S lo up dn pl lk : Int → Int} {tc wt l : Int} (h : 0 ≤ resP S lo up dn pl lk tc wt l) : 0 ≤ dpP S lo up dn pl tc wt l ∧ dpP S lo up dn pl tc wt l ≤ 1999 := by
  have q := srch_dp (S := S) (lo := lo) (up := up) (dn := dn) (pl := pl) (tc := tc) (wt := wt) (l := l)
  have e : resP S lo up dn pl lk tc wt l = (srch S lo up dn pl tc wt l).2 := by
    unfold resP at h ⊢
    by_cases c : lk l = 0
    · rw [if_pos c]
    · rw [if_neg c] at h; omega
  rw [e] at h
  have q1 := q.1.2
  have r := dpt_bd q.1.1 2001 (srch S lo up dn pl tc wt l).2 h (by omega)
  unfold dpP
  omega
theorem pln_rng {S lo up dn pl lk : Int → Int} {tc wt : Int} (h0 : 0 ≤ S 0 ∧ S 0 ≤ 12) : -3 ≤ pln (S 0) (acP S lo up dn pl) (resP S lo up dn pl lk tc wt) (dpP S lo up dn pl tc wt) 13 0 0 0 ∧ pln (S 0) (acP S lo up dn pl) (resP S lo up dn pl lk tc wt) (dpP S lo up dn pl tc wt) 13 0 0 0 ≤ 23988 := by
  have q := pln_bd (D := S 0) (ac := (acP S lo up dn pl)) (res := (resP S lo up dn pl lk tc wt)) (dp := (dpP S lo up dn pl tc wt)) (fun d _ c => dpP_bd c) (fun d => by have := resP_c (S := S) (lo := lo) (up := up) (dn := dn) (pl := pl) (lk := lk) (tc := tc) (wt := wt) (l := d); omega) 13 0 0 0 (by decide) h0.1
  constructor
  · exact q.1
  · have := q.2
    omega
theorem prw_past {S lo up dn pl lk : Int → Int} {tc wt k : Int} (h0 : 0 ≤ pln (S 0) (acP S lo up dn pl) (resP S lo up dn pl lk tc wt) (dpP S lo up dn pl tc wt) 13 0 0 0) (h : pln (S 0) (acP S lo up dn pl) (resP S lo up dn pl lk tc wt) (dpP S lo up dn pl tc wt) 13 0 0 0 ≤ k) : prw (S 0) (acP S lo up dn pl) (resP S lo up dn pl lk tc wt) (dpP S lo up dn pl tc wt) (ktP S lo up dn pl tc wt) 13 0 0 k = -2 := by
  refine prw_end (fun x _ _ c => (dpP_bd c).1) 13 0 0 (by decide) ?_
  rw [← pln_pnd (fun d => by have := resP_c (S := S) (lo := lo) (up := up) (dn := dn) (pl := pl) (lk := lk) (tc := tc) (wt := wt) (l := d); omega) 13 0 0 0 h0]
  exact h
set_option maxHeartbeats 8000000 in
theorem C_planned {n : Nat} {μ ν : Mem} {a b : Int} (hC : Cor n μ ν) (hn : n ≤ 511) (ha : i32 a) (hb : i32 b)  : Rj YD y_D_planned 0 [vA 0, vI a, vI b] [] μ (fun r μ' => Rj YM y_M_planned 0 [vA 0, vI a, vI b] [] ν (fun r' ν' => Sm 1 r' r ∧ Cor (n + 1) μ' ν' ∧ Kp μ μ' ∧ Kq ν ν')) := by
  obtain ⟨hTP, hK, hSc, h, hM, hSB, hBK, hIM⟩ := id hC
  have hC1 := hC.next
  obtain ⟨z0, z1, z2, z3, z4, z5, z6, z7⟩ := h.z
  obtain ⟨hS, hH, hP, hB, hFx⟩ := id hM
  have hD := z0
  have hJ := z1
  have p2k := p2_32 z0.2
  have da := dp_iff (a := a) (k := (ν 11 0).toNat)
  have db := dp_iff (a := b) (k := (ν 11 0).toNat)
  have plr := pln_rng (S := ν 11) (lo := ν 14) (up := ν 15) (dn := ν 16) (pl := ν 12) (lk := ν 17) (tc := a) (wt := b) z0
  refine Rj_aload_n (q := 1) d_D_planned_0 rfl rfl rfl ?_
  refine Rj_iload_n (q := 2) d_D_planned_1 rfl rfl rfl ?_
  refine Rj_iload_n (q := 3) d_D_planned_2 rfl rfl rfl ?_
  refine Rj_vo (q := 6) (z := y_D_isPlanOf) (as := [vI a, vI b]) (rest := []) (la := [vA 0, vI a, vI b]) oD_0_D_isPlanOf ml_D_229 mw_D_isPlanOf mv_D_isPlanOf rfl d_D_planned_3 rfl rfl rfl rfl rfl ?_
  refine Rj_aload_n (q := 1) d_D_isPlanOf_0 rfl rfl rfl ?_
  refine Rj_gr (q := 4) (zd := 3) gD_D_25_0 rfl rfl d_D_isPlanOf_1 rfl ?_
  refine Rj_gi (q := 7) (ki := 0) (v := ν 11 0) gD_D_130_3 rfl rfl z2 d_D_isPlanOf_4 rfl ?_
  refine Rj_if_le (q := 10) (t := 36) d_D_isPlanOf_7 rfl (by decide) (by first | assumption | exact ⟨by omega, by omega⟩) (fun c3_7 => ?_) (fun c3_7 => ?_)
  · refine Rj_iconst (q := 37) d_D_isPlanOf_36 rfl ?_
    refine Rj_bret0 d_D_isPlanOf_37 rfl ?_
    refine Rj_if_ne (q := 9) (t := 11) d_D_planned_6 rfl (by decide) (by decide) (fun c => absurd c (by decide)) (fun _ => ?_)
    refine Rj_iconst (q := 10) d_D_planned_9 rfl ?_
    refine Rj_iret d_D_planned_10 rfl ?_
    refine Rj_aload_n (q := 1) d_M_planned_0 rfl rfl rfl ?_
    refine Rj_iload_n (q := 2) d_M_planned_1 rfl rfl rfl ?_
    refine Rj_iload_n (q := 3) d_M_planned_2 rfl rfl rfl ?_
    refine Rj_vo (q := 6) (z := y_M_canPlan) (as := [vI a, vI b]) (rest := []) (la := [vA 0, vI a, vI b]) oM_0_M_canPlan ml_M_433 mw_M_canPlan mv_M_canPlan rfl d_M_planned_3 rfl rfl rfl rfl rfl ?_
    refine Rj_aload_n (q := 1) d_M_canPlan_0 rfl rfl rfl ?_
    refine Rj_gr (q := 4) (zd := 11) gM_M_42_0 rfl rfl d_M_canPlan_1 rfl ?_
    refine Rj_iconst (q := 5) d_M_canPlan_4 rfl ?_
    refine Rj_ia (q := 6) (v := ν 11 0) aM_11 rfl (by decide) rfl d_M_canPlan_5 rfl ?_
    refine Rj_if_le (q := 9) (t := 29) d_M_canPlan_6 rfl (by decide) (by first | assumption | exact ⟨by omega, by omega⟩) (fun c3_6 => ?_) (fun c3_6 => ?_)
    · refine Rj_iconst (q := 30) d_M_canPlan_29 rfl ?_
      refine Rj_bret0 d_M_canPlan_30 rfl ?_
      refine Rj_if_eq (q := 9) (t := 18) d_M_planned_6 rfl (by decide) (by decide) (fun _ => ?_) (fun c => absurd c (by decide))
      refine Rj_iconst (q := 19) d_M_planned_18 rfl ?_
      refine Rj_iret d_M_planned_19 rfl ?_
      exact ⟨sm_I rfl, hC1, kp0 _, kq0 _⟩
    · refine Rj_aload_n (q := 10) d_M_canPlan_9 rfl rfl rfl ?_
      refine Rj_iload_n (q := 11) d_M_canPlan_10 rfl rfl rfl ?_
      refine Rj_vo (q := 14) (z := y_M_isSet) (as := [vI a]) (rest := []) (la := [vA 0, vI a]) oM_0_M_isSet ml_M_388 mw_M_isSet mv_M_isSet rfl d_M_canPlan_11 rfl rfl rfl rfl rfl ?_
      refine Rj_iload_n (q := 1) d_M_isSet_0 rfl rfl rfl ?_
      refine Rj_if_lt (q := 4) (t := 20) d_M_isSet_1 rfl (by decide) (by first | assumption | exact ⟨by omega, by omega⟩) (fun c3_11_1 => ?_) (fun c3_11_1 => ?_)
      · refine Rj_iconst (q := 21) d_M_isSet_20 rfl ?_
        refine Rj_bret0 d_M_isSet_21 rfl ?_
        refine Rj_if_eq (q := 17) (t := 29) d_M_canPlan_14 rfl (by decide) (by decide) (fun _ => ?_) (fun c => absurd c (by decide))
        refine Rj_iconst (q := 30) d_M_canPlan_29 rfl ?_
        refine Rj_bret0 d_M_canPlan_30 rfl ?_
        refine Rj_if_eq (q := 9) (t := 18) d_M_planned_6 rfl (by decide) (by decide) (fun _ => ?_) (fun c => absurd c (by decide))
        refine Rj_iconst (q := 19) d_M_planned_18 rfl ?_
        refine Rj_iret d_M_planned_19 rfl ?_
        exact ⟨sm_I rfl, hC1, kp0 _, kq0 _⟩
      · refine Rj_iload_n (q := 5) d_M_isSet_4 rfl rfl rfl ?_
        refine Rj_iconst (q := 6) d_M_isSet_5 rfl ?_
        refine Rj_aload_n (q := 7) d_M_isSet_6 rfl rfl rfl ?_
        refine Rj_gr (q := 10) (zd := 11) gM_M_42_0 rfl rfl d_M_isSet_7 rfl ?_
        refine Rj_iconst (q := 11) d_M_isSet_10 rfl ?_
        refine Rj_ia (q := 12) (v := ν 11 0) aM_11 rfl (by decide) rfl d_M_isSet_11 rfl ?_
        refine Rj_ishl (q := 13) (z := 2 ^ (ν 11 0).toNat) d_M_isSet_12 rfl (z_shl_p ⟨by omega, by omega⟩) ?_
        refine Rj_icmp_ge (q := 16) (t := 20) d_M_isSet_13 rfl (by decide) (by first | exact ha | exact hb | exact p2k.1) (by first | exact ha | exact hb | exact p2k.1) (fun c3_11_13 => ?_) (fun c3_11_13 => ?_)
        · refine Rj_iconst (q := 21) d_M_isSet_20 rfl ?_
          refine Rj_bret0 d_M_isSet_21 rfl ?_
          refine Rj_if_eq (q := 17) (t := 29) d_M_canPlan_14 rfl (by decide) (by decide) (fun _ => ?_) (fun c => absurd c (by decide))
          refine Rj_iconst (q := 30) d_M_canPlan_29 rfl ?_
          refine Rj_bret0 d_M_canPlan_30 rfl ?_
          refine Rj_if_eq (q := 9) (t := 18) d_M_planned_6 rfl (by decide) (by decide) (fun _ => ?_) (fun c => absurd c (by decide))
          refine Rj_iconst (q := 19) d_M_planned_18 rfl ?_
          refine Rj_iret d_M_planned_19 rfl ?_
          exact ⟨sm_I rfl, hC1, kp0 _, kq0 _⟩
        · refine Rj_iconst (q := 17) d_M_isSet_16 rfl ?_
          refine Rj_goto (t := 21) d_M_isSet_17 (by decide) ?_
          refine Rj_bret1 d_M_isSet_21 rfl ?_
          refine Rj_if_eq (q := 17) (t := 29) d_M_canPlan_14 rfl (by decide) (by decide) (fun c => absurd c (by decide)) (fun _ => ?_)
          refine Rj_aload_n (q := 18) d_M_canPlan_17 rfl rfl rfl ?_
          refine Rj_iload_n (q := 19) d_M_canPlan_18 rfl rfl rfl ?_
          refine Rj_vo (q := 22) (z := y_M_isSet) (as := [vI b]) (rest := []) (la := [vA 0, vI b]) oM_0_M_isSet ml_M_388 mw_M_isSet mv_M_isSet rfl d_M_canPlan_19 rfl rfl rfl rfl rfl ?_
          refine Rj_iload_n (q := 1) d_M_isSet_0 rfl rfl rfl ?_
          refine Rj_if_lt (q := 4) (t := 20) d_M_isSet_1 rfl (by decide) (by first | assumption | exact ⟨by omega, by omega⟩) (fun c3_19_1 => ?_) (fun c3_19_1 => ?_)
          · refine Rj_iconst (q := 21) d_M_isSet_20 rfl ?_
            refine Rj_bret0 d_M_isSet_21 rfl ?_
            refine Rj_if_eq (q := 25) (t := 29) d_M_canPlan_22 rfl (by decide) (by decide) (fun _ => ?_) (fun c => absurd c (by decide))
            refine Rj_iconst (q := 30) d_M_canPlan_29 rfl ?_
            refine Rj_bret0 d_M_canPlan_30 rfl ?_
            refine Rj_if_eq (q := 9) (t := 18) d_M_planned_6 rfl (by decide) (by decide) (fun _ => ?_) (fun c => absurd c (by decide))
            refine Rj_iconst (q := 19) d_M_planned_18 rfl ?_
            refine Rj_iret d_M_planned_19 rfl ?_
            exact ⟨sm_I rfl, hC1, kp0 _, kq0 _⟩
          · refine Rj_iload_n (q := 5) d_M_isSet_4 rfl rfl rfl ?_
            refine Rj_iconst (q := 6) d_M_isSet_5 rfl ?_
            refine Rj_aload_n (q := 7) d_M_isSet_6 rfl rfl rfl ?_
            refine Rj_gr (q := 10) (zd := 11) gM_M_42_0 rfl rfl d_M_isSet_7 rfl ?_
            refine Rj_iconst (q := 11) d_M_isSet_10 rfl ?_
            refine Rj_ia (q := 12) (v := ν 11 0) aM_11 rfl (by decide) rfl d_M_isSet_11 rfl ?_
            refine Rj_ishl (q := 13) (z := 2 ^ (ν 11 0).toNat) d_M_isSet_12 rfl (z_shl_p ⟨by omega, by omega⟩) ?_
            refine Rj_icmp_ge (q := 16) (t := 20) d_M_isSet_13 rfl (by decide) (by first | exact ha | exact hb | exact p2k.1) (by first | exact ha | exact hb | exact p2k.1) (fun c3_19_13 => ?_) (fun c3_19_13 => ?_)
            · refine Rj_iconst (q := 21) d_M_isSet_20 rfl ?_
              refine Rj_bret0 d_M_isSet_21 rfl ?_
              refine Rj_if_eq (q := 25) (t := 29) d_M_canPlan_22 rfl (by decide) (by decide) (fun _ => ?_) (fun c => absurd c (by decide))
              refine Rj_iconst (q := 30) d_M_canPlan_29 rfl ?_
              refine Rj_bret0 d_M_canPlan_30 rfl ?_
              refine Rj_if_eq (q := 9) (t := 18) d_M_planned_6 rfl (by decide) (by decide) (fun _ => ?_) (fun c => absurd c (by decide))
              refine Rj_iconst (q := 19) d_M_planned_18 rfl ?_
              refine Rj_iret d_M_planned_19 rfl ?_
              exact ⟨sm_I rfl, hC1, kp0 _, kq0 _⟩
            · refine Rj_iconst (q := 17) d_M_isSet_16 rfl ?_
              refine Rj_goto (t := 21) d_M_isSet_17 (by decide) ?_
              refine Rj_bret1 d_M_isSet_21 rfl ?_
              refine Rj_if_eq (q := 25) (t := 29) d_M_canPlan_22 rfl (by decide) (by decide) (fun c => absurd c (by decide)) (fun _ => ?_)
              refine Rj_iconst (q := 26) d_M_canPlan_25 rfl ?_
              refine Rj_goto (t := 30) d_M_canPlan_26 (by decide) ?_
              refine Rj_bret1 d_M_canPlan_30 rfl ?_
              refine Rj_if_eq (q := 9) (t := 18) d_M_planned_6 rfl (by decide) (by decide) (fun c => absurd c (by decide)) (fun _ => ?_)
              refine Rj_aload_n (q := 10) d_M_planned_9 rfl rfl rfl ?_
              refine Rj_iload_n (q := 11) d_M_planned_10 rfl rfl rfl ?_
              refine Rj_iload_n (q := 12) d_M_planned_11 rfl rfl rfl ?_
              refine Rj_vo (q := 15) (z := y_M_plans) (as := [vI a, vI b]) (rest := []) (la := [vA 0, vI a, vI b]) oM_0_M_plans ml_M_436 mw_M_plans mv_M_plans rfl d_M_planned_12 rfl rfl rfl rfl rfl ?_
              refine s_M_plans (lk := ν 17) hM ⟨rfl, rfl, rfl, rfl, rfl⟩ rfl (by omega) (by omega) (by omega) (by omega) (fun m2 fm2 gm2 => ?_)
              refine Rj_goto (t := 19) d_M_planned_15 (by decide) ?_
              refine Rj_iret d_M_planned_19 rfl ?_
              exfalso; omega
  · refine Rj_aload_n (q := 11) d_D_isPlanOf_10 rfl rfl rfl ?_
    refine Rj_gr (q := 14) (zd := 3) gD_D_25_0 rfl rfl d_D_isPlanOf_11 rfl ?_
    refine Rj_iload_n (q := 15) d_D_isPlanOf_14 rfl rfl rfl ?_
    refine Rj_vo (q := 18) (z := y_Sc_isSet) (as := [vI a]) (rest := []) (la := [vA 3, vI a]) oD_3_Sc_isSet ml_D_220 mw_Sc_isSet mv_Sc_isSet rfl d_D_isPlanOf_15 rfl rfl rfl rfl rfl ?_
    refine Rj_iload_n (q := 1) d_Sc_isSet_0 rfl rfl rfl ?_
    refine Rj_if_lt (q := 4) (t := 17) d_Sc_isSet_1 rfl (by decide) (by first | assumption | exact ⟨by omega, by omega⟩) (fun c3_15_1 => ?_) (fun c3_15_1 => ?_)
    · refine Rj_iconst (q := 18) d_Sc_isSet_17 rfl ?_
      refine Rj_bret0 d_Sc_isSet_18 rfl ?_
      refine Rj_if_eq (q := 21) (t := 36) d_D_isPlanOf_18 rfl (by decide) (by decide) (fun _ => ?_) (fun c => absurd c (by decide))
      refine Rj_iconst (q := 37) d_D_isPlanOf_36 rfl ?_
      refine Rj_bret0 d_D_isPlanOf_37 rfl ?_
      refine Rj_if_ne (q := 9) (t := 11) d_D_planned_6 rfl (by decide) (by decide) (fun c => absurd c (by decide)) (fun _ => ?_)
      refine Rj_iconst (q := 10) d_D_planned_9 rfl ?_
      refine Rj_iret d_D_planned_10 rfl ?_
      refine Rj_aload_n (q := 1) d_M_planned_0 rfl rfl rfl ?_
      refine Rj_iload_n (q := 2) d_M_planned_1 rfl rfl rfl ?_
      refine Rj_iload_n (q := 3) d_M_planned_2 rfl rfl rfl ?_
      refine Rj_vo (q := 6) (z := y_M_canPlan) (as := [vI a, vI b]) (rest := []) (la := [vA 0, vI a, vI b]) oM_0_M_canPlan ml_M_433 mw_M_canPlan mv_M_canPlan rfl d_M_planned_3 rfl rfl rfl rfl rfl ?_
      refine Rj_aload_n (q := 1) d_M_canPlan_0 rfl rfl rfl ?_
      refine Rj_gr (q := 4) (zd := 11) gM_M_42_0 rfl rfl d_M_canPlan_1 rfl ?_
      refine Rj_iconst (q := 5) d_M_canPlan_4 rfl ?_
      refine Rj_ia (q := 6) (v := ν 11 0) aM_11 rfl (by decide) rfl d_M_canPlan_5 rfl ?_
      refine Rj_if_le (q := 9) (t := 29) d_M_canPlan_6 rfl (by decide) (by first | assumption | exact ⟨by omega, by omega⟩) (fun c3_6 => ?_) (fun c3_6 => ?_)
      · refine Rj_iconst (q := 30) d_M_canPlan_29 rfl ?_
        refine Rj_bret0 d_M_canPlan_30 rfl ?_
        refine Rj_if_eq (q := 9) (t := 18) d_M_planned_6 rfl (by decide) (by decide) (fun _ => ?_) (fun c => absurd c (by decide))
        refine Rj_iconst (q := 19) d_M_planned_18 rfl ?_
        refine Rj_iret d_M_planned_19 rfl ?_
        exact ⟨sm_I rfl, hC1, kp0 _, kq0 _⟩
      · refine Rj_aload_n (q := 10) d_M_canPlan_9 rfl rfl rfl ?_
        refine Rj_iload_n (q := 11) d_M_canPlan_10 rfl rfl rfl ?_
        refine Rj_vo (q := 14) (z := y_M_isSet) (as := [vI a]) (rest := []) (la := [vA 0, vI a]) oM_0_M_isSet ml_M_388 mw_M_isSet mv_M_isSet rfl d_M_canPlan_11 rfl rfl rfl rfl rfl ?_
        refine Rj_iload_n (q := 1) d_M_isSet_0 rfl rfl rfl ?_
        refine Rj_if_lt (q := 4) (t := 20) d_M_isSet_1 rfl (by decide) (by first | assumption | exact ⟨by omega, by omega⟩) (fun c3_11_1 => ?_) (fun c3_11_1 => ?_)
        · refine Rj_iconst (q := 21) d_M_isSet_20 rfl ?_
          refine Rj_bret0 d_M_isSet_21 rfl ?_
          refine Rj_if_eq (q := 17) (t := 29) d_M_canPlan_14 rfl (by decide) (by decide) (fun _ => ?_) (fun c => absurd c (by decide))
          refine Rj_iconst (q := 30) d_M_canPlan_29 rfl ?_
          refine Rj_bret0 d_M_canPlan_30 rfl ?_
          refine Rj_if_eq (q := 9) (t := 18) d_M_planned_6 rfl (by decide) (by decide) (fun _ => ?_) (fun c => absurd c (by decide))
          refine Rj_iconst (q := 19) d_M_planned_18 rfl ?_
          refine Rj_iret d_M_planned_19 rfl ?_
          exact ⟨sm_I rfl, hC1, kp0 _, kq0 _⟩
        · refine Rj_iload_n (q := 5) d_M_isSet_4 rfl rfl rfl ?_
          refine Rj_iconst (q := 6) d_M_isSet_5 rfl ?_
          refine Rj_aload_n (q := 7) d_M_isSet_6 rfl rfl rfl ?_
          refine Rj_gr (q := 10) (zd := 11) gM_M_42_0 rfl rfl d_M_isSet_7 rfl ?_
          refine Rj_iconst (q := 11) d_M_isSet_10 rfl ?_
          refine Rj_ia (q := 12) (v := ν 11 0) aM_11 rfl (by decide) rfl d_M_isSet_11 rfl ?_
          refine Rj_ishl (q := 13) (z := 2 ^ (ν 11 0).toNat) d_M_isSet_12 rfl (z_shl_p ⟨by omega, by omega⟩) ?_
          refine Rj_icmp_ge (q := 16) (t := 20) d_M_isSet_13 rfl (by decide) (by first | exact ha | exact hb | exact p2k.1) (by first | exact ha | exact hb | exact p2k.1) (fun c3_11_13 => ?_) (fun c3_11_13 => ?_)
          · refine Rj_iconst (q := 21) d_M_isSet_20 rfl ?_
            refine Rj_bret0 d_M_isSet_21 rfl ?_
            refine Rj_if_eq (q := 17) (t := 29) d_M_canPlan_14 rfl (by decide) (by decide) (fun _ => ?_) (fun c => absurd c (by decide))
            refine Rj_iconst (q := 30) d_M_canPlan_29 rfl ?_
            refine Rj_bret0 d_M_canPlan_30 rfl ?_
            refine Rj_if_eq (q := 9) (t := 18) d_M_planned_6 rfl (by decide) (by decide) (fun _ => ?_) (fun c => absurd c (by decide))
            refine Rj_iconst (q := 19) d_M_planned_18 rfl ?_
            refine Rj_iret d_M_planned_19 rfl ?_
            exact ⟨sm_I rfl, hC1, kp0 _, kq0 _⟩
          · refine Rj_iconst (q := 17) d_M_isSet_16 rfl ?_
            refine Rj_goto (t := 21) d_M_isSet_17 (by decide) ?_
            refine Rj_bret1 d_M_isSet_21 rfl ?_
            refine Rj_if_eq (q := 17) (t := 29) d_M_canPlan_14 rfl (by decide) (by decide) (fun c => absurd c (by decide)) (fun _ => ?_)
            refine Rj_aload_n (q := 18) d_M_canPlan_17 rfl rfl rfl ?_
            refine Rj_iload_n (q := 19) d_M_canPlan_18 rfl rfl rfl ?_
            refine Rj_vo (q := 22) (z := y_M_isSet) (as := [vI b]) (rest := []) (la := [vA 0, vI b]) oM_0_M_isSet ml_M_388 mw_M_isSet mv_M_isSet rfl d_M_canPlan_19 rfl rfl rfl rfl rfl ?_
            refine Rj_iload_n (q := 1) d_M_isSet_0 rfl rfl rfl ?_
            refine Rj_if_lt (q := 4) (t := 20) d_M_isSet_1 rfl (by decide) (by first | assumption | exact ⟨by omega, by omega⟩) (fun c3_19_1 => ?_) (fun c3_19_1 => ?_)
            · refine Rj_iconst (q := 21) d_M_isSet_20 rfl ?_
              refine Rj_bret0 d_M_isSet_21 rfl ?_
              refine Rj_if_eq (q := 25) (t := 29) d_M_canPlan_22 rfl (by decide) (by decide) (fun _ => ?_) (fun c => absurd c (by decide))
              refine Rj_iconst (q := 30) d_M_canPlan_29 rfl ?_
              refine Rj_bret0 d_M_canPlan_30 rfl ?_
              refine Rj_if_eq (q := 9) (t := 18) d_M_planned_6 rfl (by decide) (by decide) (fun _ => ?_) (fun c => absurd c (by decide))
              refine Rj_iconst (q := 19) d_M_planned_18 rfl ?_
              refine Rj_iret d_M_planned_19 rfl ?_
              exact ⟨sm_I rfl, hC1, kp0 _, kq0 _⟩
            · refine Rj_iload_n (q := 5) d_M_isSet_4 rfl rfl rfl ?_
              refine Rj_iconst (q := 6) d_M_isSet_5 rfl ?_
              refine Rj_aload_n (q := 7) d_M_isSet_6 rfl rfl rfl ?_
              refine Rj_gr (q := 10) (zd := 11) gM_M_42_0 rfl rfl d_M_isSet_7 rfl ?_
              refine Rj_iconst (q := 11) d_M_isSet_10 rfl ?_
              refine Rj_ia (q := 12) (v := ν 11 0) aM_11 rfl (by decide) rfl d_M_isSet_11 rfl ?_
              refine Rj_ishl (q := 13) (z := 2 ^ (ν 11 0).toNat) d_M_isSet_12 rfl (z_shl_p ⟨by omega, by omega⟩) ?_
              refine Rj_icmp_ge (q := 16) (t := 20) d_M_isSet_13 rfl (by decide) (by first | exact ha | exact hb | exact p2k.1) (by first | exact ha | exact hb | exact p2k.1) (fun c3_19_13 => ?_) (fun c3_19_13 => ?_)
              · refine Rj_iconst (q := 21) d_M_isSet_20 rfl ?_
                refine Rj_bret0 d_M_isSet_21 rfl ?_
                refine Rj_if_eq (q := 25) (t := 29) d_M_canPlan_22 rfl (by decide) (by decide) (fun _ => ?_) (fun c => absurd c (by decide))
                refine Rj_iconst (q := 30) d_M_canPlan_29 rfl ?_
                refine Rj_bret0 d_M_canPlan_30 rfl ?_
                refine Rj_if_eq (q := 9) (t := 18) d_M_planned_6 rfl (by decide) (by decide) (fun _ => ?_) (fun c => absurd c (by decide))
                refine Rj_iconst (q := 19) d_M_planned_18 rfl ?_
                refine Rj_iret d_M_planned_19 rfl ?_
                exact ⟨sm_I rfl, hC1, kp0 _, kq0 _⟩
              · refine Rj_iconst (q := 17) d_M_isSet_16 rfl ?_
                refine Rj_goto (t := 21) d_M_isSet_17 (by decide) ?_
                refine Rj_bret1 d_M_isSet_21 rfl ?_
                refine Rj_if_eq (q := 25) (t := 29) d_M_canPlan_22 rfl (by decide) (by decide) (fun c => absurd c (by decide)) (fun _ => ?_)
                refine Rj_iconst (q := 26) d_M_canPlan_25 rfl ?_
                refine Rj_goto (t := 30) d_M_canPlan_26 (by decide) ?_
                refine Rj_bret1 d_M_canPlan_30 rfl ?_
                refine Rj_if_eq (q := 9) (t := 18) d_M_planned_6 rfl (by decide) (by decide) (fun c => absurd c (by decide)) (fun _ => ?_)
                refine Rj_aload_n (q := 10) d_M_planned_9 rfl rfl rfl ?_
                refine Rj_iload_n (q := 11) d_M_planned_10 rfl rfl rfl ?_
                refine Rj_iload_n (q := 12) d_M_planned_11 rfl rfl rfl ?_
                refine Rj_vo (q := 15) (z := y_M_plans) (as := [vI a, vI b]) (rest := []) (la := [vA 0, vI a, vI b]) oM_0_M_plans ml_M_436 mw_M_plans mv_M_plans rfl d_M_planned_12 rfl rfl rfl rfl rfl ?_
                refine s_M_plans (lk := ν 17) hM ⟨rfl, rfl, rfl, rfl, rfl⟩ rfl (by omega) (by omega) (by omega) (by omega) (fun m2 fm2 gm2 => ?_)
                refine Rj_goto (t := 19) d_M_planned_15 (by decide) ?_
                refine Rj_iret d_M_planned_19 rfl ?_
                exfalso; omega
    · refine Rj_iload_n (q := 5) d_Sc_isSet_4 rfl rfl rfl ?_
      refine Rj_aload_n (q := 6) d_Sc_isSet_5 rfl rfl rfl ?_
      refine Rj_gi (q := 9) (ki := 0) (v := ν 11 0) gD_Sc_37_3 rfl rfl z2 d_Sc_isSet_6 rfl ?_
      refine Rj_iushr (q := 10) (z := a / 2 ^ (ν 11 0).toNat) d_Sc_isSet_9 rfl (z_ush0 ⟨by omega, by omega⟩ (by omega) (by omega)) ?_
      refine Rj_if_ne (q := 13) (t := 17) d_Sc_isSet_10 rfl (by decide) (by first | exact dp_32 (by omega) ha | exact dp_32 (by omega) hb) (fun c3_15_10 => ?_) (fun c3_15_10 => ?_)
      · refine Rj_iconst (q := 18) d_Sc_isSet_17 rfl ?_
        refine Rj_bret0 d_Sc_isSet_18 rfl ?_
        refine Rj_if_eq (q := 21) (t := 36) d_D_isPlanOf_18 rfl (by decide) (by decide) (fun _ => ?_) (fun c => absurd c (by decide))
        refine Rj_iconst (q := 37) d_D_isPlanOf_36 rfl ?_
        refine Rj_bret0 d_D_isPlanOf_37 rfl ?_
        refine Rj_if_ne (q := 9) (t := 11) d_D_planned_6 rfl (by decide) (by decide) (fun c => absurd c (by decide)) (fun _ => ?_)
        refine Rj_iconst (q := 10) d_D_planned_9 rfl ?_
        refine Rj_iret d_D_planned_10 rfl ?_
        refine Rj_aload_n (q := 1) d_M_planned_0 rfl rfl rfl ?_
        refine Rj_iload_n (q := 2) d_M_planned_1 rfl rfl rfl ?_
        refine Rj_iload_n (q := 3) d_M_planned_2 rfl rfl rfl ?_
        refine Rj_vo (q := 6) (z := y_M_canPlan) (as := [vI a, vI b]) (rest := []) (la := [vA 0, vI a, vI b]) oM_0_M_canPlan ml_M_433 mw_M_canPlan mv_M_canPlan rfl d_M_planned_3 rfl rfl rfl rfl rfl ?_
        refine Rj_aload_n (q := 1) d_M_canPlan_0 rfl rfl rfl ?_
        refine Rj_gr (q := 4) (zd := 11) gM_M_42_0 rfl rfl d_M_canPlan_1 rfl ?_
        refine Rj_iconst (q := 5) d_M_canPlan_4 rfl ?_
        refine Rj_ia (q := 6) (v := ν 11 0) aM_11 rfl (by decide) rfl d_M_canPlan_5 rfl ?_
        refine Rj_if_le (q := 9) (t := 29) d_M_canPlan_6 rfl (by decide) (by first | assumption | exact ⟨by omega, by omega⟩) (fun c3_6 => ?_) (fun c3_6 => ?_)
        · refine Rj_iconst (q := 30) d_M_canPlan_29 rfl ?_
          refine Rj_bret0 d_M_canPlan_30 rfl ?_
          refine Rj_if_eq (q := 9) (t := 18) d_M_planned_6 rfl (by decide) (by decide) (fun _ => ?_) (fun c => absurd c (by decide))
          refine Rj_iconst (q := 19) d_M_planned_18 rfl ?_
          refine Rj_iret d_M_planned_19 rfl ?_
          exact ⟨sm_I rfl, hC1, kp0 _, kq0 _⟩
        · refine Rj_aload_n (q := 10) d_M_canPlan_9 rfl rfl rfl ?_
          refine Rj_iload_n (q := 11) d_M_canPlan_10 rfl rfl rfl ?_
          refine Rj_vo (q := 14) (z := y_M_isSet) (as := [vI a]) (rest := []) (la := [vA 0, vI a]) oM_0_M_isSet ml_M_388 mw_M_isSet mv_M_isSet rfl d_M_canPlan_11 rfl rfl rfl rfl rfl ?_
          refine Rj_iload_n (q := 1) d_M_isSet_0 rfl rfl rfl ?_
          refine Rj_if_lt (q := 4) (t := 20) d_M_isSet_1 rfl (by decide) (by first | assumption | exact ⟨by omega, by omega⟩) (fun c3_11_1 => ?_) (fun c3_11_1 => ?_)
          · refine Rj_iconst (q := 21) d_M_isSet_20 rfl ?_
            refine Rj_bret0 d_M_isSet_21 rfl ?_
            refine Rj_if_eq (q := 17) (t := 29) d_M_canPlan_14 rfl (by decide) (by decide) (fun _ => ?_) (fun c => absurd c (by decide))
            refine Rj_iconst (q := 30) d_M_canPlan_29 rfl ?_
            refine Rj_bret0 d_M_canPlan_30 rfl ?_
            refine Rj_if_eq (q := 9) (t := 18) d_M_planned_6 rfl (by decide) (by decide) (fun _ => ?_) (fun c => absurd c (by decide))
            refine Rj_iconst (q := 19) d_M_planned_18 rfl ?_
            refine Rj_iret d_M_planned_19 rfl ?_
            exact ⟨sm_I rfl, hC1, kp0 _, kq0 _⟩
          · refine Rj_iload_n (q := 5) d_M_isSet_4 rfl rfl rfl ?_
            refine Rj_iconst (q := 6) d_M_isSet_5 rfl ?_
            refine Rj_aload_n (q := 7) d_M_isSet_6 rfl rfl rfl ?_
            refine Rj_gr (q := 10) (zd := 11) gM_M_42_0 rfl rfl d_M_isSet_7 rfl ?_
            refine Rj_iconst (q := 11) d_M_isSet_10 rfl ?_
            refine Rj_ia (q := 12) (v := ν 11 0) aM_11 rfl (by decide) rfl d_M_isSet_11 rfl ?_
            refine Rj_ishl (q := 13) (z := 2 ^ (ν 11 0).toNat) d_M_isSet_12 rfl (z_shl_p ⟨by omega, by omega⟩) ?_
            refine Rj_icmp_ge (q := 16) (t := 20) d_M_isSet_13 rfl (by decide) (by first | exact ha | exact hb | exact p2k.1) (by first | exact ha | exact hb | exact p2k.1) (fun c3_11_13 => ?_) (fun c3_11_13 => ?_)
            · refine Rj_iconst (q := 21) d_M_isSet_20 rfl ?_
              refine Rj_bret0 d_M_isSet_21 rfl ?_
              refine Rj_if_eq (q := 17) (t := 29) d_M_canPlan_14 rfl (by decide) (by decide) (fun _ => ?_) (fun c => absurd c (by decide))
              refine Rj_iconst (q := 30) d_M_canPlan_29 rfl ?_
              refine Rj_bret0 d_M_canPlan_30 rfl ?_
              refine Rj_if_eq (q := 9) (t := 18) d_M_planned_6 rfl (by decide) (by decide) (fun _ => ?_) (fun c => absurd c (by decide))
              refine Rj_iconst (q := 19) d_M_planned_18 rfl ?_
              refine Rj_iret d_M_planned_19 rfl ?_
              exact ⟨sm_I rfl, hC1, kp0 _, kq0 _⟩
            · refine Rj_iconst (q := 17) d_M_isSet_16 rfl ?_
              refine Rj_goto (t := 21) d_M_isSet_17 (by decide) ?_
              refine Rj_bret1 d_M_isSet_21 rfl ?_
              refine Rj_if_eq (q := 17) (t := 29) d_M_canPlan_14 rfl (by decide) (by decide) (fun c => absurd c (by decide)) (fun _ => ?_)
              refine Rj_aload_n (q := 18) d_M_canPlan_17 rfl rfl rfl ?_
              refine Rj_iload_n (q := 19) d_M_canPlan_18 rfl rfl rfl ?_
              refine Rj_vo (q := 22) (z := y_M_isSet) (as := [vI b]) (rest := []) (la := [vA 0, vI b]) oM_0_M_isSet ml_M_388 mw_M_isSet mv_M_isSet rfl d_M_canPlan_19 rfl rfl rfl rfl rfl ?_
              refine Rj_iload_n (q := 1) d_M_isSet_0 rfl rfl rfl ?_
              refine Rj_if_lt (q := 4) (t := 20) d_M_isSet_1 rfl (by decide) (by first | assumption | exact ⟨by omega, by omega⟩) (fun c3_19_1 => ?_) (fun c3_19_1 => ?_)
              · refine Rj_iconst (q := 21) d_M_isSet_20 rfl ?_
                refine Rj_bret0 d_M_isSet_21 rfl ?_
                refine Rj_if_eq (q := 25) (t := 29) d_M_canPlan_22 rfl (by decide) (by decide) (fun _ => ?_) (fun c => absurd c (by decide))
                refine Rj_iconst (q := 30) d_M_canPlan_29 rfl ?_
                refine Rj_bret0 d_M_canPlan_30 rfl ?_
                refine Rj_if_eq (q := 9) (t := 18) d_M_planned_6 rfl (by decide) (by decide) (fun _ => ?_) (fun c => absurd c (by decide))
                refine Rj_iconst (q := 19) d_M_planned_18 rfl ?_
                refine Rj_iret d_M_planned_19 rfl ?_
                exact ⟨sm_I rfl, hC1, kp0 _, kq0 _⟩
              · refine Rj_iload_n (q := 5) d_M_isSet_4 rfl rfl rfl ?_
                refine Rj_iconst (q := 6) d_M_isSet_5 rfl ?_
                refine Rj_aload_n (q := 7) d_M_isSet_6 rfl rfl rfl ?_
                refine Rj_gr (q := 10) (zd := 11) gM_M_42_0 rfl rfl d_M_isSet_7 rfl ?_
                refine Rj_iconst (q := 11) d_M_isSet_10 rfl ?_
                refine Rj_ia (q := 12) (v := ν 11 0) aM_11 rfl (by decide) rfl d_M_isSet_11 rfl ?_
                refine Rj_ishl (q := 13) (z := 2 ^ (ν 11 0).toNat) d_M_isSet_12 rfl (z_shl_p ⟨by omega, by omega⟩) ?_
                refine Rj_icmp_ge (q := 16) (t := 20) d_M_isSet_13 rfl (by decide) (by first | exact ha | exact hb | exact p2k.1) (by first | exact ha | exact hb | exact p2k.1) (fun c3_19_13 => ?_) (fun c3_19_13 => ?_)
                · refine Rj_iconst (q := 21) d_M_isSet_20 rfl ?_
                  refine Rj_bret0 d_M_isSet_21 rfl ?_
                  refine Rj_if_eq (q := 25) (t := 29) d_M_canPlan_22 rfl (by decide) (by decide) (fun _ => ?_) (fun c => absurd c (by decide))
                  refine Rj_iconst (q := 30) d_M_canPlan_29 rfl ?_
                  refine Rj_bret0 d_M_canPlan_30 rfl ?_
                  refine Rj_if_eq (q := 9) (t := 18) d_M_planned_6 rfl (by decide) (by decide) (fun _ => ?_) (fun c => absurd c (by decide))
                  refine Rj_iconst (q := 19) d_M_planned_18 rfl ?_
                  refine Rj_iret d_M_planned_19 rfl ?_
                  exact ⟨sm_I rfl, hC1, kp0 _, kq0 _⟩
                · refine Rj_iconst (q := 17) d_M_isSet_16 rfl ?_
                  refine Rj_goto (t := 21) d_M_isSet_17 (by decide) ?_
                  refine Rj_bret1 d_M_isSet_21 rfl ?_
                  refine Rj_if_eq (q := 25) (t := 29) d_M_canPlan_22 rfl (by decide) (by decide) (fun c => absurd c (by decide)) (fun _ => ?_)
                  refine Rj_iconst (q := 26) d_M_canPlan_25 rfl ?_
                  refine Rj_goto (t := 30) d_M_canPlan_26 (by decide) ?_
                  refine Rj_bret1 d_M_canPlan_30 rfl ?_
                  refine Rj_if_eq (q := 9) (t := 18) d_M_planned_6 rfl (by decide) (by decide) (fun c => absurd c (by decide)) (fun _ => ?_)
                  refine Rj_aload_n (q := 10) d_M_planned_9 rfl rfl rfl ?_
                  refine Rj_iload_n (q := 11) d_M_planned_10 rfl rfl rfl ?_
                  refine Rj_iload_n (q := 12) d_M_planned_11 rfl rfl rfl ?_
                  refine Rj_vo (q := 15) (z := y_M_plans) (as := [vI a, vI b]) (rest := []) (la := [vA 0, vI a, vI b]) oM_0_M_plans ml_M_436 mw_M_plans mv_M_plans rfl d_M_planned_12 rfl rfl rfl rfl rfl ?_
                  refine s_M_plans (lk := ν 17) hM ⟨rfl, rfl, rfl, rfl, rfl⟩ rfl (by omega) (by omega) (by omega) (by omega) (fun m2 fm2 gm2 => ?_)
                  refine Rj_goto (t := 19) d_M_planned_15 (by decide) ?_
                  refine Rj_iret d_M_planned_19 rfl ?_
                  exfalso; omega
      · refine Rj_iconst (q := 14) d_Sc_isSet_13 rfl ?_
        refine Rj_goto (t := 18) d_Sc_isSet_14 (by decide) ?_
        refine Rj_bret1 d_Sc_isSet_18 rfl ?_
        refine Rj_if_eq (q := 21) (t := 36) d_D_isPlanOf_18 rfl (by decide) (by decide) (fun c => absurd c (by decide)) (fun _ => ?_)
        refine Rj_aload_n (q := 22) d_D_isPlanOf_21 rfl rfl rfl ?_
        refine Rj_gr (q := 25) (zd := 3) gD_D_25_0 rfl rfl d_D_isPlanOf_22 rfl ?_
        refine Rj_iload_n (q := 26) d_D_isPlanOf_25 rfl rfl rfl ?_
        refine Rj_vo (q := 29) (z := y_Sc_isSet) (as := [vI b]) (rest := []) (la := [vA 3, vI b]) oD_3_Sc_isSet ml_D_220 mw_Sc_isSet mv_Sc_isSet rfl d_D_isPlanOf_26 rfl rfl rfl rfl rfl ?_
        refine Rj_iload_n (q := 1) d_Sc_isSet_0 rfl rfl rfl ?_
        refine Rj_if_lt (q := 4) (t := 17) d_Sc_isSet_1 rfl (by decide) (by first | assumption | exact ⟨by omega, by omega⟩) (fun c3_26_1 => ?_) (fun c3_26_1 => ?_)
        · refine Rj_iconst (q := 18) d_Sc_isSet_17 rfl ?_
          refine Rj_bret0 d_Sc_isSet_18 rfl ?_
          refine Rj_if_eq (q := 32) (t := 36) d_D_isPlanOf_29 rfl (by decide) (by decide) (fun _ => ?_) (fun c => absurd c (by decide))
          refine Rj_iconst (q := 37) d_D_isPlanOf_36 rfl ?_
          refine Rj_bret0 d_D_isPlanOf_37 rfl ?_
          refine Rj_if_ne (q := 9) (t := 11) d_D_planned_6 rfl (by decide) (by decide) (fun c => absurd c (by decide)) (fun _ => ?_)
          refine Rj_iconst (q := 10) d_D_planned_9 rfl ?_
          refine Rj_iret d_D_planned_10 rfl ?_
          refine Rj_aload_n (q := 1) d_M_planned_0 rfl rfl rfl ?_
          refine Rj_iload_n (q := 2) d_M_planned_1 rfl rfl rfl ?_
          refine Rj_iload_n (q := 3) d_M_planned_2 rfl rfl rfl ?_
          refine Rj_vo (q := 6) (z := y_M_canPlan) (as := [vI a, vI b]) (rest := []) (la := [vA 0, vI a, vI b]) oM_0_M_canPlan ml_M_433 mw_M_canPlan mv_M_canPlan rfl d_M_planned_3 rfl rfl rfl rfl rfl ?_
          refine Rj_aload_n (q := 1) d_M_canPlan_0 rfl rfl rfl ?_
          refine Rj_gr (q := 4) (zd := 11) gM_M_42_0 rfl rfl d_M_canPlan_1 rfl ?_
          refine Rj_iconst (q := 5) d_M_canPlan_4 rfl ?_
          refine Rj_ia (q := 6) (v := ν 11 0) aM_11 rfl (by decide) rfl d_M_canPlan_5 rfl ?_
          refine Rj_if_le (q := 9) (t := 29) d_M_canPlan_6 rfl (by decide) (by first | assumption | exact ⟨by omega, by omega⟩) (fun c3_6 => ?_) (fun c3_6 => ?_)
          · refine Rj_iconst (q := 30) d_M_canPlan_29 rfl ?_
            refine Rj_bret0 d_M_canPlan_30 rfl ?_
            refine Rj_if_eq (q := 9) (t := 18) d_M_planned_6 rfl (by decide) (by decide) (fun _ => ?_) (fun c => absurd c (by decide))
            refine Rj_iconst (q := 19) d_M_planned_18 rfl ?_
            refine Rj_iret d_M_planned_19 rfl ?_
            exact ⟨sm_I rfl, hC1, kp0 _, kq0 _⟩
          · refine Rj_aload_n (q := 10) d_M_canPlan_9 rfl rfl rfl ?_
            refine Rj_iload_n (q := 11) d_M_canPlan_10 rfl rfl rfl ?_
            refine Rj_vo (q := 14) (z := y_M_isSet) (as := [vI a]) (rest := []) (la := [vA 0, vI a]) oM_0_M_isSet ml_M_388 mw_M_isSet mv_M_isSet rfl d_M_canPlan_11 rfl rfl rfl rfl rfl ?_
            refine Rj_iload_n (q := 1) d_M_isSet_0 rfl rfl rfl ?_
            refine Rj_if_lt (q := 4) (t := 20) d_M_isSet_1 rfl (by decide) (by first | assumption | exact ⟨by omega, by omega⟩) (fun c3_11_1 => ?_) (fun c3_11_1 => ?_)
            · refine Rj_iconst (q := 21) d_M_isSet_20 rfl ?_
              refine Rj_bret0 d_M_isSet_21 rfl ?_
              refine Rj_if_eq (q := 17) (t := 29) d_M_canPlan_14 rfl (by decide) (by decide) (fun _ => ?_) (fun c => absurd c (by decide))
              refine Rj_iconst (q := 30) d_M_canPlan_29 rfl ?_
              refine Rj_bret0 d_M_canPlan_30 rfl ?_
              refine Rj_if_eq (q := 9) (t := 18) d_M_planned_6 rfl (by decide) (by decide) (fun _ => ?_) (fun c => absurd c (by decide))
              refine Rj_iconst (q := 19) d_M_planned_18 rfl ?_
              refine Rj_iret d_M_planned_19 rfl ?_
              exact ⟨sm_I rfl, hC1, kp0 _, kq0 _⟩
            · refine Rj_iload_n (q := 5) d_M_isSet_4 rfl rfl rfl ?_
              refine Rj_iconst (q := 6) d_M_isSet_5 rfl ?_
              refine Rj_aload_n (q := 7) d_M_isSet_6 rfl rfl rfl ?_
              refine Rj_gr (q := 10) (zd := 11) gM_M_42_0 rfl rfl d_M_isSet_7 rfl ?_
              refine Rj_iconst (q := 11) d_M_isSet_10 rfl ?_
              refine Rj_ia (q := 12) (v := ν 11 0) aM_11 rfl (by decide) rfl d_M_isSet_11 rfl ?_
              refine Rj_ishl (q := 13) (z := 2 ^ (ν 11 0).toNat) d_M_isSet_12 rfl (z_shl_p ⟨by omega, by omega⟩) ?_
              refine Rj_icmp_ge (q := 16) (t := 20) d_M_isSet_13 rfl (by decide) (by first | exact ha | exact hb | exact p2k.1) (by first | exact ha | exact hb | exact p2k.1) (fun c3_11_13 => ?_) (fun c3_11_13 => ?_)
              · refine Rj_iconst (q := 21) d_M_isSet_20 rfl ?_
                refine Rj_bret0 d_M_isSet_21 rfl ?_
                refine Rj_if_eq (q := 17) (t := 29) d_M_canPlan_14 rfl (by decide) (by decide) (fun _ => ?_) (fun c => absurd c (by decide))
                refine Rj_iconst (q := 30) d_M_canPlan_29 rfl ?_
                refine Rj_bret0 d_M_canPlan_30 rfl ?_
                refine Rj_if_eq (q := 9) (t := 18) d_M_planned_6 rfl (by decide) (by decide) (fun _ => ?_) (fun c => absurd c (by decide))
                refine Rj_iconst (q := 19) d_M_planned_18 rfl ?_
                refine Rj_iret d_M_planned_19 rfl ?_
                exact ⟨sm_I rfl, hC1, kp0 _, kq0 _⟩
              · refine Rj_iconst (q := 17) d_M_isSet_16 rfl ?_
                refine Rj_goto (t := 21) d_M_isSet_17 (by decide) ?_
                refine Rj_bret1 d_M_isSet_21 rfl ?_
                refine Rj_if_eq (q := 17) (t := 29) d_M_canPlan_14 rfl (by decide) (by decide) (fun c => absurd c (by decide)) (fun _ => ?_)
                refine Rj_aload_n (q := 18) d_M_canPlan_17 rfl rfl rfl ?_
                refine Rj_iload_n (q := 19) d_M_canPlan_18 rfl rfl rfl ?_
                refine Rj_vo (q := 22) (z := y_M_isSet) (as := [vI b]) (rest := []) (la := [vA 0, vI b]) oM_0_M_isSet ml_M_388 mw_M_isSet mv_M_isSet rfl d_M_canPlan_19 rfl rfl rfl rfl rfl ?_
                refine Rj_iload_n (q := 1) d_M_isSet_0 rfl rfl rfl ?_
                refine Rj_if_lt (q := 4) (t := 20) d_M_isSet_1 rfl (by decide) (by first | assumption | exact ⟨by omega, by omega⟩) (fun c3_19_1 => ?_) (fun c3_19_1 => ?_)
                · refine Rj_iconst (q := 21) d_M_isSet_20 rfl ?_
                  refine Rj_bret0 d_M_isSet_21 rfl ?_
                  refine Rj_if_eq (q := 25) (t := 29) d_M_canPlan_22 rfl (by decide) (by decide) (fun _ => ?_) (fun c => absurd c (by decide))
                  refine Rj_iconst (q := 30) d_M_canPlan_29 rfl ?_
                  refine Rj_bret0 d_M_canPlan_30 rfl ?_
                  refine Rj_if_eq (q := 9) (t := 18) d_M_planned_6 rfl (by decide) (by decide) (fun _ => ?_) (fun c => absurd c (by decide))
                  refine Rj_iconst (q := 19) d_M_planned_18 rfl ?_
                  refine Rj_iret d_M_planned_19 rfl ?_
                  exact ⟨sm_I rfl, hC1, kp0 _, kq0 _⟩
                · refine Rj_iload_n (q := 5) d_M_isSet_4 rfl rfl rfl ?_
                  refine Rj_iconst (q := 6) d_M_isSet_5 rfl ?_
                  refine Rj_aload_n (q := 7) d_M_isSet_6 rfl rfl rfl ?_
                  refine Rj_gr (q := 10) (zd := 11) gM_M_42_0 rfl rfl d_M_isSet_7 rfl ?_
                  refine Rj_iconst (q := 11) d_M_isSet_10 rfl ?_
                  refine Rj_ia (q := 12) (v := ν 11 0) aM_11 rfl (by decide) rfl d_M_isSet_11 rfl ?_
                  refine Rj_ishl (q := 13) (z := 2 ^ (ν 11 0).toNat) d_M_isSet_12 rfl (z_shl_p ⟨by omega, by omega⟩) ?_
                  refine Rj_icmp_ge (q := 16) (t := 20) d_M_isSet_13 rfl (by decide) (by first | exact ha | exact hb | exact p2k.1) (by first | exact ha | exact hb | exact p2k.1) (fun c3_19_13 => ?_) (fun c3_19_13 => ?_)
                  · refine Rj_iconst (q := 21) d_M_isSet_20 rfl ?_
                    refine Rj_bret0 d_M_isSet_21 rfl ?_
                    refine Rj_if_eq (q := 25) (t := 29) d_M_canPlan_22 rfl (by decide) (by decide) (fun _ => ?_) (fun c => absurd c (by decide))
                    refine Rj_iconst (q := 30) d_M_canPlan_29 rfl ?_
                    refine Rj_bret0 d_M_canPlan_30 rfl ?_
                    refine Rj_if_eq (q := 9) (t := 18) d_M_planned_6 rfl (by decide) (by decide) (fun _ => ?_) (fun c => absurd c (by decide))
                    refine Rj_iconst (q := 19) d_M_planned_18 rfl ?_
                    refine Rj_iret d_M_planned_19 rfl ?_
                    exact ⟨sm_I rfl, hC1, kp0 _, kq0 _⟩
                  · refine Rj_iconst (q := 17) d_M_isSet_16 rfl ?_
                    refine Rj_goto (t := 21) d_M_isSet_17 (by decide) ?_
                    refine Rj_bret1 d_M_isSet_21 rfl ?_
                    refine Rj_if_eq (q := 25) (t := 29) d_M_canPlan_22 rfl (by decide) (by decide) (fun c => absurd c (by decide)) (fun _ => ?_)
                    refine Rj_iconst (q := 26) d_M_canPlan_25 rfl ?_
                    refine Rj_goto (t := 30) d_M_canPlan_26 (by decide) ?_
                    refine Rj_bret1 d_M_canPlan_30 rfl ?_
                    refine Rj_if_eq (q := 9) (t := 18) d_M_planned_6 rfl (by decide) (by decide) (fun c => absurd c (by decide)) (fun _ => ?_)
                    refine Rj_aload_n (q := 10) d_M_planned_9 rfl rfl rfl ?_
                    refine Rj_iload_n (q := 11) d_M_planned_10 rfl rfl rfl ?_
                    refine Rj_iload_n (q := 12) d_M_planned_11 rfl rfl rfl ?_
                    refine Rj_vo (q := 15) (z := y_M_plans) (as := [vI a, vI b]) (rest := []) (la := [vA 0, vI a, vI b]) oM_0_M_plans ml_M_436 mw_M_plans mv_M_plans rfl d_M_planned_12 rfl rfl rfl rfl rfl ?_
                    refine s_M_plans (lk := ν 17) hM ⟨rfl, rfl, rfl, rfl, rfl⟩ rfl (by omega) (by omega) (by omega) (by omega) (fun m2 fm2 gm2 => ?_)
                    refine Rj_goto (t := 19) d_M_planned_15 (by decide) ?_
                    refine Rj_iret d_M_planned_19 rfl ?_
                    exfalso; omega
        · refine Rj_iload_n (q := 5) d_Sc_isSet_4 rfl rfl rfl ?_
          refine Rj_aload_n (q := 6) d_Sc_isSet_5 rfl rfl rfl ?_
          refine Rj_gi (q := 9) (ki := 0) (v := ν 11 0) gD_Sc_37_3 rfl rfl z2 d_Sc_isSet_6 rfl ?_
          refine Rj_iushr (q := 10) (z := b / 2 ^ (ν 11 0).toNat) d_Sc_isSet_9 rfl (z_ush0 ⟨by omega, by omega⟩ (by omega) (by omega)) ?_
          refine Rj_if_ne (q := 13) (t := 17) d_Sc_isSet_10 rfl (by decide) (by first | exact dp_32 (by omega) ha | exact dp_32 (by omega) hb) (fun c3_26_10 => ?_) (fun c3_26_10 => ?_)
          · refine Rj_iconst (q := 18) d_Sc_isSet_17 rfl ?_
            refine Rj_bret0 d_Sc_isSet_18 rfl ?_
            refine Rj_if_eq (q := 32) (t := 36) d_D_isPlanOf_29 rfl (by decide) (by decide) (fun _ => ?_) (fun c => absurd c (by decide))
            refine Rj_iconst (q := 37) d_D_isPlanOf_36 rfl ?_
            refine Rj_bret0 d_D_isPlanOf_37 rfl ?_
            refine Rj_if_ne (q := 9) (t := 11) d_D_planned_6 rfl (by decide) (by decide) (fun c => absurd c (by decide)) (fun _ => ?_)
            refine Rj_iconst (q := 10) d_D_planned_9 rfl ?_
            refine Rj_iret d_D_planned_10 rfl ?_
            refine Rj_aload_n (q := 1) d_M_planned_0 rfl rfl rfl ?_
            refine Rj_iload_n (q := 2) d_M_planned_1 rfl rfl rfl ?_
            refine Rj_iload_n (q := 3) d_M_planned_2 rfl rfl rfl ?_
            refine Rj_vo (q := 6) (z := y_M_canPlan) (as := [vI a, vI b]) (rest := []) (la := [vA 0, vI a, vI b]) oM_0_M_canPlan ml_M_433 mw_M_canPlan mv_M_canPlan rfl d_M_planned_3 rfl rfl rfl rfl rfl ?_
            refine Rj_aload_n (q := 1) d_M_canPlan_0 rfl rfl rfl ?_
            refine Rj_gr (q := 4) (zd := 11) gM_M_42_0 rfl rfl d_M_canPlan_1 rfl ?_
            refine Rj_iconst (q := 5) d_M_canPlan_4 rfl ?_
            refine Rj_ia (q := 6) (v := ν 11 0) aM_11 rfl (by decide) rfl d_M_canPlan_5 rfl ?_
            refine Rj_if_le (q := 9) (t := 29) d_M_canPlan_6 rfl (by decide) (by first | assumption | exact ⟨by omega, by omega⟩) (fun c3_6 => ?_) (fun c3_6 => ?_)
            · refine Rj_iconst (q := 30) d_M_canPlan_29 rfl ?_
              refine Rj_bret0 d_M_canPlan_30 rfl ?_
              refine Rj_if_eq (q := 9) (t := 18) d_M_planned_6 rfl (by decide) (by decide) (fun _ => ?_) (fun c => absurd c (by decide))
              refine Rj_iconst (q := 19) d_M_planned_18 rfl ?_
              refine Rj_iret d_M_planned_19 rfl ?_
              exact ⟨sm_I rfl, hC1, kp0 _, kq0 _⟩
            · refine Rj_aload_n (q := 10) d_M_canPlan_9 rfl rfl rfl ?_
              refine Rj_iload_n (q := 11) d_M_canPlan_10 rfl rfl rfl ?_
              refine Rj_vo (q := 14) (z := y_M_isSet) (as := [vI a]) (rest := []) (la := [vA 0, vI a]) oM_0_M_isSet ml_M_388 mw_M_isSet mv_M_isSet rfl d_M_canPlan_11 rfl rfl rfl rfl rfl ?_
              refine Rj_iload_n (q := 1) d_M_isSet_0 rfl rfl rfl ?_
              refine Rj_if_lt (q := 4) (t := 20) d_M_isSet_1 rfl (by decide) (by first | assumption | exact ⟨by omega, by omega⟩) (fun c3_11_1 => ?_) (fun c3_11_1 => ?_)
              · refine Rj_iconst (q := 21) d_M_isSet_20 rfl ?_
                refine Rj_bret0 d_M_isSet_21 rfl ?_
                refine Rj_if_eq (q := 17) (t := 29) d_M_canPlan_14 rfl (by decide) (by decide) (fun _ => ?_) (fun c => absurd c (by decide))
                refine Rj_iconst (q := 30) d_M_canPlan_29 rfl ?_
                refine Rj_bret0 d_M_canPlan_30 rfl ?_
                refine Rj_if_eq (q := 9) (t := 18) d_M_planned_6 rfl (by decide) (by decide) (fun _ => ?_) (fun c => absurd c (by decide))
                refine Rj_iconst (q := 19) d_M_planned_18 rfl ?_
                refine Rj_iret d_M_planned_19 rfl ?_
                exact ⟨sm_I rfl, hC1, kp0 _, kq0 _⟩
              · refine Rj_iload_n (q := 5) d_M_isSet_4 rfl rfl rfl ?_
                refine Rj_iconst (q := 6) d_M_isSet_5 rfl ?_
                refine Rj_aload_n (q := 7) d_M_isSet_6 rfl rfl rfl ?_
                refine Rj_gr (q := 10) (zd := 11) gM_M_42_0 rfl rfl d_M_isSet_7 rfl ?_
                refine Rj_iconst (q := 11) d_M_isSet_10 rfl ?_
                refine Rj_ia (q := 12) (v := ν 11 0) aM_11 rfl (by decide) rfl d_M_isSet_11 rfl ?_
                refine Rj_ishl (q := 13) (z := 2 ^ (ν 11 0).toNat) d_M_isSet_12 rfl (z_shl_p ⟨by omega, by omega⟩) ?_
                refine Rj_icmp_ge (q := 16) (t := 20) d_M_isSet_13 rfl (by decide) (by first | exact ha | exact hb | exact p2k.1) (by first | exact ha | exact hb | exact p2k.1) (fun c3_11_13 => ?_) (fun c3_11_13 => ?_)
                · refine Rj_iconst (q := 21) d_M_isSet_20 rfl ?_
                  refine Rj_bret0 d_M_isSet_21 rfl ?_
                  refine Rj_if_eq (q := 17) (t := 29) d_M_canPlan_14 rfl (by decide) (by decide) (fun _ => ?_) (fun c => absurd c (by decide))
                  refine Rj_iconst (q := 30) d_M_canPlan_29 rfl ?_
                  refine Rj_bret0 d_M_canPlan_30 rfl ?_
                  refine Rj_if_eq (q := 9) (t := 18) d_M_planned_6 rfl (by decide) (by decide) (fun _ => ?_) (fun c => absurd c (by decide))
                  refine Rj_iconst (q := 19) d_M_planned_18 rfl ?_
                  refine Rj_iret d_M_planned_19 rfl ?_
                  exact ⟨sm_I rfl, hC1, kp0 _, kq0 _⟩
                · refine Rj_iconst (q := 17) d_M_isSet_16 rfl ?_
                  refine Rj_goto (t := 21) d_M_isSet_17 (by decide) ?_
                  refine Rj_bret1 d_M_isSet_21 rfl ?_
                  refine Rj_if_eq (q := 17) (t := 29) d_M_canPlan_14 rfl (by decide) (by decide) (fun c => absurd c (by decide)) (fun _ => ?_)
                  refine Rj_aload_n (q := 18) d_M_canPlan_17 rfl rfl rfl ?_
                  refine Rj_iload_n (q := 19) d_M_canPlan_18 rfl rfl rfl ?_
                  refine Rj_vo (q := 22) (z := y_M_isSet) (as := [vI b]) (rest := []) (la := [vA 0, vI b]) oM_0_M_isSet ml_M_388 mw_M_isSet mv_M_isSet rfl d_M_canPlan_19 rfl rfl rfl rfl rfl ?_
                  refine Rj_iload_n (q := 1) d_M_isSet_0 rfl rfl rfl ?_
                  refine Rj_if_lt (q := 4) (t := 20) d_M_isSet_1 rfl (by decide) (by first | assumption | exact ⟨by omega, by omega⟩) (fun c3_19_1 => ?_) (fun c3_19_1 => ?_)
                  · refine Rj_iconst (q := 21) d_M_isSet_20 rfl ?_
                    refine Rj_bret0 d_M_isSet_21 rfl ?_
                    refine Rj_if_eq (q := 25) (t := 29) d_M_canPlan_22 rfl (by decide) (by decide) (fun _ => ?_) (fun c => absurd c (by decide))
                    refine Rj_iconst (q := 30) d_M_canPlan_29 rfl ?_
                    refine Rj_bret0 d_M_canPlan_30 rfl ?_
                    refine Rj_if_eq (q := 9) (t := 18) d_M_planned_6 rfl (by decide) (by decide) (fun _ => ?_) (fun c => absurd c (by decide))
                    refine Rj_iconst (q := 19) d_M_planned_18 rfl ?_
                    refine Rj_iret d_M_planned_19 rfl ?_
                    exact ⟨sm_I rfl, hC1, kp0 _, kq0 _⟩
                  · refine Rj_iload_n (q := 5) d_M_isSet_4 rfl rfl rfl ?_
                    refine Rj_iconst (q := 6) d_M_isSet_5 rfl ?_
                    refine Rj_aload_n (q := 7) d_M_isSet_6 rfl rfl rfl ?_
                    refine Rj_gr (q := 10) (zd := 11) gM_M_42_0 rfl rfl d_M_isSet_7 rfl ?_
                    refine Rj_iconst (q := 11) d_M_isSet_10 rfl ?_
                    refine Rj_ia (q := 12) (v := ν 11 0) aM_11 rfl (by decide) rfl d_M_isSet_11 rfl ?_
                    refine Rj_ishl (q := 13) (z := 2 ^ (ν 11 0).toNat) d_M_isSet_12 rfl (z_shl_p ⟨by omega, by omega⟩) ?_
                    refine Rj_icmp_ge (q := 16) (t := 20) d_M_isSet_13 rfl (by decide) (by first | exact ha | exact hb | exact p2k.1) (by first | exact ha | exact hb | exact p2k.1) (fun c3_19_13 => ?_) (fun c3_19_13 => ?_)
                    · refine Rj_iconst (q := 21) d_M_isSet_20 rfl ?_
                      refine Rj_bret0 d_M_isSet_21 rfl ?_
                      refine Rj_if_eq (q := 25) (t := 29) d_M_canPlan_22 rfl (by decide) (by decide) (fun _ => ?_) (fun c => absurd c (by decide))
                      refine Rj_iconst (q := 30) d_M_canPlan_29 rfl ?_
                      refine Rj_bret0 d_M_canPlan_30 rfl ?_
                      refine Rj_if_eq (q := 9) (t := 18) d_M_planned_6 rfl (by decide) (by decide) (fun _ => ?_) (fun c => absurd c (by decide))
                      refine Rj_iconst (q := 19) d_M_planned_18 rfl ?_
                      refine Rj_iret d_M_planned_19 rfl ?_
                      exact ⟨sm_I rfl, hC1, kp0 _, kq0 _⟩
                    · refine Rj_iconst (q := 17) d_M_isSet_16 rfl ?_
                      refine Rj_goto (t := 21) d_M_isSet_17 (by decide) ?_
                      refine Rj_bret1 d_M_isSet_21 rfl ?_
                      refine Rj_if_eq (q := 25) (t := 29) d_M_canPlan_22 rfl (by decide) (by decide) (fun c => absurd c (by decide)) (fun _ => ?_)
                      refine Rj_iconst (q := 26) d_M_canPlan_25 rfl ?_
                      refine Rj_goto (t := 30) d_M_canPlan_26 (by decide) ?_
                      refine Rj_bret1 d_M_canPlan_30 rfl ?_
                      refine Rj_if_eq (q := 9) (t := 18) d_M_planned_6 rfl (by decide) (by decide) (fun c => absurd c (by decide)) (fun _ => ?_)
                      refine Rj_aload_n (q := 10) d_M_planned_9 rfl rfl rfl ?_
                      refine Rj_iload_n (q := 11) d_M_planned_10 rfl rfl rfl ?_
                      refine Rj_iload_n (q := 12) d_M_planned_11 rfl rfl rfl ?_
                      refine Rj_vo (q := 15) (z := y_M_plans) (as := [vI a, vI b]) (rest := []) (la := [vA 0, vI a, vI b]) oM_0_M_plans ml_M_436 mw_M_plans mv_M_plans rfl d_M_planned_12 rfl rfl rfl rfl rfl ?_
                      refine s_M_plans (lk := ν 17) hM ⟨rfl, rfl, rfl, rfl, rfl⟩ rfl (by omega) (by omega) (by omega) (by omega) (fun m2 fm2 gm2 => ?_)
                      refine Rj_goto (t := 19) d_M_planned_15 (by decide) ?_
                      refine Rj_iret d_M_planned_19 rfl ?_
                      exfalso; omega
          · refine Rj_iconst (q := 14) d_Sc_isSet_13 rfl ?_
            refine Rj_goto (t := 18) d_Sc_isSet_14 (by decide) ?_
            refine Rj_bret1 d_Sc_isSet_18 rfl ?_
            refine Rj_if_eq (q := 32) (t := 36) d_D_isPlanOf_29 rfl (by decide) (by decide) (fun c => absurd c (by decide)) (fun _ => ?_)
            refine Rj_iconst (q := 33) d_D_isPlanOf_32 rfl ?_
            refine Rj_goto (t := 37) d_D_isPlanOf_33 (by decide) ?_
            refine Rj_bret1 d_D_isPlanOf_37 rfl ?_
            refine Rj_if_ne (q := 9) (t := 11) d_D_planned_6 rfl (by decide) (by decide) (fun _ => ?_) (fun c => absurd c (by decide))
            refine Rj_aload_n (q := 12) d_D_planned_11 rfl rfl rfl ?_
            refine Rj_gr (q := 15) (zd := 74) gD_D_61_0 rfl rfl d_D_planned_12 rfl ?_
            refine Rj_iload_n (q := 16) d_D_planned_15 rfl rfl rfl ?_
            refine Rj_iload_n (q := 17) d_D_planned_16 rfl rfl rfl ?_
            refine Rj_iconst (q := 18) d_D_planned_17 rfl ?_
            refine Rj_vo (q := 21) (z := y_Pl_solve) (as := [vI a, vI b, vI 0]) (rest := []) (la := [vA 74, vI a, vI b, vI 0]) oD_74_Pl_solve ml_D_232 mw_Pl_solve mv_Pl_solve rfl d_D_planned_18 rfl rfl rfl rfl rfl ?_
            obtain ⟨w3, w5, w6, w8⟩ := hC.w
            have p4 := p2k.2.2
            have w31 := w3.1
            have w33 := w3.2.2.1
            refine s_solve h hSB ⟨by omega, w3.2.1⟩ ⟨by omega, w3.2.2.2⟩ (by omega) (by omega) (by decide) (fun m fm gm => ?_)
            have hz := True.intro
            refine Rj_iret d_D_planned_21 rfl ?_
            refine Rj_aload_n (q := 1) d_M_planned_0 rfl rfl rfl ?_
            refine Rj_iload_n (q := 2) d_M_planned_1 rfl rfl rfl ?_
            refine Rj_iload_n (q := 3) d_M_planned_2 rfl rfl rfl ?_
            refine Rj_vo (q := 6) (z := y_M_canPlan) (as := [vI a, vI b]) (rest := []) (la := [vA 0, vI a, vI b]) oM_0_M_canPlan ml_M_433 mw_M_canPlan mv_M_canPlan rfl d_M_planned_3 rfl rfl rfl rfl rfl ?_
            refine Rj_aload_n (q := 1) d_M_canPlan_0 rfl rfl rfl ?_
            refine Rj_gr (q := 4) (zd := 11) gM_M_42_0 rfl rfl d_M_canPlan_1 rfl ?_
            refine Rj_iconst (q := 5) d_M_canPlan_4 rfl ?_
            refine Rj_ia (q := 6) (v := ν 11 0) aM_11 rfl (by decide) rfl d_M_canPlan_5 rfl ?_
            refine Rj_if_le (q := 9) (t := 29) d_M_canPlan_6 rfl (by decide) (by first | assumption | exact ⟨by omega, by omega⟩) (fun c3_6 => ?_) (fun c3_6 => ?_)
            · refine Rj_iconst (q := 30) d_M_canPlan_29 rfl ?_
              refine Rj_bret0 d_M_canPlan_30 rfl ?_
              refine Rj_if_eq (q := 9) (t := 18) d_M_planned_6 rfl (by decide) (by decide) (fun _ => ?_) (fun c => absurd c (by decide))
              refine Rj_iconst (q := 19) d_M_planned_18 rfl ?_
              refine Rj_iret d_M_planned_19 rfl ?_
              exfalso; omega
            · refine Rj_aload_n (q := 10) d_M_canPlan_9 rfl rfl rfl ?_
              refine Rj_iload_n (q := 11) d_M_canPlan_10 rfl rfl rfl ?_
              refine Rj_vo (q := 14) (z := y_M_isSet) (as := [vI a]) (rest := []) (la := [vA 0, vI a]) oM_0_M_isSet ml_M_388 mw_M_isSet mv_M_isSet rfl d_M_canPlan_11 rfl rfl rfl rfl rfl ?_
              refine Rj_iload_n (q := 1) d_M_isSet_0 rfl rfl rfl ?_
              refine Rj_if_lt (q := 4) (t := 20) d_M_isSet_1 rfl (by decide) (by first | assumption | exact ⟨by omega, by omega⟩) (fun c3_11_1 => ?_) (fun c3_11_1 => ?_)
              · refine Rj_iconst (q := 21) d_M_isSet_20 rfl ?_
                refine Rj_bret0 d_M_isSet_21 rfl ?_
                refine Rj_if_eq (q := 17) (t := 29) d_M_canPlan_14 rfl (by decide) (by decide) (fun _ => ?_) (fun c => absurd c (by decide))
                refine Rj_iconst (q := 30) d_M_canPlan_29 rfl ?_
                refine Rj_bret0 d_M_canPlan_30 rfl ?_
                refine Rj_if_eq (q := 9) (t := 18) d_M_planned_6 rfl (by decide) (by decide) (fun _ => ?_) (fun c => absurd c (by decide))
                refine Rj_iconst (q := 19) d_M_planned_18 rfl ?_
                refine Rj_iret d_M_planned_19 rfl ?_
                exfalso; omega
              · refine Rj_iload_n (q := 5) d_M_isSet_4 rfl rfl rfl ?_
                refine Rj_iconst (q := 6) d_M_isSet_5 rfl ?_
                refine Rj_aload_n (q := 7) d_M_isSet_6 rfl rfl rfl ?_
                refine Rj_gr (q := 10) (zd := 11) gM_M_42_0 rfl rfl d_M_isSet_7 rfl ?_
                refine Rj_iconst (q := 11) d_M_isSet_10 rfl ?_
                refine Rj_ia (q := 12) (v := ν 11 0) aM_11 rfl (by decide) rfl d_M_isSet_11 rfl ?_
                refine Rj_ishl (q := 13) (z := 2 ^ (ν 11 0).toNat) d_M_isSet_12 rfl (z_shl_p ⟨by omega, by omega⟩) ?_
                refine Rj_icmp_ge (q := 16) (t := 20) d_M_isSet_13 rfl (by decide) (by first | exact ha | exact hb | exact p2k.1) (by first | exact ha | exact hb | exact p2k.1) (fun c3_11_13 => ?_) (fun c3_11_13 => ?_)
                · refine Rj_iconst (q := 21) d_M_isSet_20 rfl ?_
                  refine Rj_bret0 d_M_isSet_21 rfl ?_
                  refine Rj_if_eq (q := 17) (t := 29) d_M_canPlan_14 rfl (by decide) (by decide) (fun _ => ?_) (fun c => absurd c (by decide))
                  refine Rj_iconst (q := 30) d_M_canPlan_29 rfl ?_
                  refine Rj_bret0 d_M_canPlan_30 rfl ?_
                  refine Rj_if_eq (q := 9) (t := 18) d_M_planned_6 rfl (by decide) (by decide) (fun _ => ?_) (fun c => absurd c (by decide))
                  refine Rj_iconst (q := 19) d_M_planned_18 rfl ?_
                  refine Rj_iret d_M_planned_19 rfl ?_
                  exfalso; omega
                · refine Rj_iconst (q := 17) d_M_isSet_16 rfl ?_
                  refine Rj_goto (t := 21) d_M_isSet_17 (by decide) ?_
                  refine Rj_bret1 d_M_isSet_21 rfl ?_
                  refine Rj_if_eq (q := 17) (t := 29) d_M_canPlan_14 rfl (by decide) (by decide) (fun c => absurd c (by decide)) (fun _ => ?_)
                  refine Rj_aload_n (q := 18) d_M_canPlan_17 rfl rfl rfl ?_
                  refine Rj_iload_n (q := 19) d_M_canPlan_18 rfl rfl rfl ?_
                  refine Rj_vo (q := 22) (z := y_M_isSet) (as := [vI b]) (rest := []) (la := [vA 0, vI b]) oM_0_M_isSet ml_M_388 mw_M_isSet mv_M_isSet rfl d_M_canPlan_19 rfl rfl rfl rfl rfl ?_
                  refine Rj_iload_n (q := 1) d_M_isSet_0 rfl rfl rfl ?_
                  refine Rj_if_lt (q := 4) (t := 20) d_M_isSet_1 rfl (by decide) (by first | assumption | exact ⟨by omega, by omega⟩) (fun c3_19_1 => ?_) (fun c3_19_1 => ?_)
                  · refine Rj_iconst (q := 21) d_M_isSet_20 rfl ?_
                    refine Rj_bret0 d_M_isSet_21 rfl ?_
                    refine Rj_if_eq (q := 25) (t := 29) d_M_canPlan_22 rfl (by decide) (by decide) (fun _ => ?_) (fun c => absurd c (by decide))
                    refine Rj_iconst (q := 30) d_M_canPlan_29 rfl ?_
                    refine Rj_bret0 d_M_canPlan_30 rfl ?_
                    refine Rj_if_eq (q := 9) (t := 18) d_M_planned_6 rfl (by decide) (by decide) (fun _ => ?_) (fun c => absurd c (by decide))
                    refine Rj_iconst (q := 19) d_M_planned_18 rfl ?_
                    refine Rj_iret d_M_planned_19 rfl ?_
                    exfalso; omega
                  · refine Rj_iload_n (q := 5) d_M_isSet_4 rfl rfl rfl ?_
                    refine Rj_iconst (q := 6) d_M_isSet_5 rfl ?_
                    refine Rj_aload_n (q := 7) d_M_isSet_6 rfl rfl rfl ?_
                    refine Rj_gr (q := 10) (zd := 11) gM_M_42_0 rfl rfl d_M_isSet_7 rfl ?_
                    refine Rj_iconst (q := 11) d_M_isSet_10 rfl ?_
                    refine Rj_ia (q := 12) (v := ν 11 0) aM_11 rfl (by decide) rfl d_M_isSet_11 rfl ?_
                    refine Rj_ishl (q := 13) (z := 2 ^ (ν 11 0).toNat) d_M_isSet_12 rfl (z_shl_p ⟨by omega, by omega⟩) ?_
                    refine Rj_icmp_ge (q := 16) (t := 20) d_M_isSet_13 rfl (by decide) (by first | exact ha | exact hb | exact p2k.1) (by first | exact ha | exact hb | exact p2k.1) (fun c3_19_13 => ?_) (fun c3_19_13 => ?_)
                    · refine Rj_iconst (q := 21) d_M_isSet_20 rfl ?_
                      refine Rj_bret0 d_M_isSet_21 rfl ?_
                      refine Rj_if_eq (q := 25) (t := 29) d_M_canPlan_22 rfl (by decide) (by decide) (fun _ => ?_) (fun c => absurd c (by decide))
                      refine Rj_iconst (q := 30) d_M_canPlan_29 rfl ?_
                      refine Rj_bret0 d_M_canPlan_30 rfl ?_
                      refine Rj_if_eq (q := 9) (t := 18) d_M_planned_6 rfl (by decide) (by decide) (fun _ => ?_) (fun c => absurd c (by decide))
                      refine Rj_iconst (q := 19) d_M_planned_18 rfl ?_
                      refine Rj_iret d_M_planned_19 rfl ?_
                      exfalso; omega
                    · refine Rj_iconst (q := 17) d_M_isSet_16 rfl ?_
                      refine Rj_goto (t := 21) d_M_isSet_17 (by decide) ?_
                      refine Rj_bret1 d_M_isSet_21 rfl ?_
                      refine Rj_if_eq (q := 25) (t := 29) d_M_canPlan_22 rfl (by decide) (by decide) (fun c => absurd c (by decide)) (fun _ => ?_)
                      refine Rj_iconst (q := 26) d_M_canPlan_25 rfl ?_
                      refine Rj_goto (t := 30) d_M_canPlan_26 (by decide) ?_
                      refine Rj_bret1 d_M_canPlan_30 rfl ?_
                      refine Rj_if_eq (q := 9) (t := 18) d_M_planned_6 rfl (by decide) (by decide) (fun c => absurd c (by decide)) (fun _ => ?_)
                      refine Rj_aload_n (q := 10) d_M_planned_9 rfl rfl rfl ?_
                      refine Rj_iload_n (q := 11) d_M_planned_10 rfl rfl rfl ?_
                      refine Rj_iload_n (q := 12) d_M_planned_11 rfl rfl rfl ?_
                      refine Rj_vo (q := 15) (z := y_M_plans) (as := [vI a, vI b]) (rest := []) (la := [vA 0, vI a, vI b]) oM_0_M_plans ml_M_436 mw_M_plans mv_M_plans rfl d_M_planned_12 rfl rfl rfl rfl rfl ?_
                      refine s_M_plans (lk := ν 17) hM ⟨rfl, rfl, rfl, rfl, rfl⟩ rfl (by omega) (by omega) (by omega) (by omega) (fun m2 fm2 gm2 => ?_)
                      refine Rj_goto (t := 19) d_M_planned_15 (by decide) ?_
                      refine Rj_iret d_M_planned_19 rfl ?_
                      exact ⟨sm_I rfl, hC.idle (fun c i q => fm c i (by unfold Wso; omega)) (fun c i q => fm2 c i (by unfold cqm at q; unfold Wpl; omega)), fun c i q => fm c i (by unfold Wso; omega), fun c i q => fm2 c i (by unfold Wpl; omega)⟩
set_option maxHeartbeats 8000000 in
theorem C_row {n : Nat} {μ ν : Mem} {a b c : Int} (hC : Cor n μ ν) (hn : n ≤ 511) (ha : i32 a) (hb : i32 b) (hc : i32 c)  : Rj YD y_D_row 0 [vA 0, vI a, vI b, vI c] [] μ (fun r μ' => Rj YM y_M_row 0 [vA 0, vI a, vI b, vI c] [] ν (fun r' ν' => Sm 1 r' r ∧ Cor (n + 1) μ' ν' ∧ Kp μ μ' ∧ Kq ν ν')) := by
  obtain ⟨hTP, hK, hSc, h, hM, hSB, hBK, hIM⟩ := id hC
  have hC1 := hC.next
  obtain ⟨z0, z1, z2, z3, z4, z5, z6, z7⟩ := h.z
  obtain ⟨hS, hH, hP, hB, hFx⟩ := id hM
  have hD := z0
  have hJ := z1
  have p2k := p2_32 z0.2
  have da := dp_iff (a := a) (k := (ν 11 0).toNat)
  have db := dp_iff (a := b) (k := (ν 11 0).toNat)
  have plr := pln_rng (S := ν 11) (lo := ν 14) (up := ν 15) (dn := ν 16) (pl := ν 12) (lk := ν 17) (tc := a) (wt := b) z0
  refine Rj_aload_n (q := 1) d_D_row_0 rfl rfl rfl ?_
  refine Rj_iload_n (q := 2) d_D_row_1 rfl rfl rfl ?_
  refine Rj_iload_n (q := 3) d_D_row_2 rfl rfl rfl ?_
  refine Rj_vo (q := 6) (z := y_D_isPlanOf) (as := [vI a, vI b]) (rest := []) (la := [vA 0, vI a, vI b]) oD_0_D_isPlanOf ml_D_229 mw_D_isPlanOf mv_D_isPlanOf rfl d_D_row_3 rfl rfl rfl rfl rfl ?_
  refine Rj_aload_n (q := 1) d_D_isPlanOf_0 rfl rfl rfl ?_
  refine Rj_gr (q := 4) (zd := 3) gD_D_25_0 rfl rfl d_D_isPlanOf_1 rfl ?_
  refine Rj_gi (q := 7) (ki := 0) (v := ν 11 0) gD_D_130_3 rfl rfl z2 d_D_isPlanOf_4 rfl ?_
  refine Rj_if_le (q := 10) (t := 36) d_D_isPlanOf_7 rfl (by decide) (by first | assumption | exact ⟨by omega, by omega⟩) (fun c3_7 => ?_) (fun c3_7 => ?_)
  · refine Rj_iconst (q := 37) d_D_isPlanOf_36 rfl ?_
    refine Rj_bret0 d_D_isPlanOf_37 rfl ?_
    refine Rj_if_eq (q := 9) (t := 13) d_D_row_6 rfl (by decide) (by decide) (fun _ => ?_) (fun c => absurd c (by decide))
    refine Rj_iconst (q := 14) d_D_row_13 rfl ?_
    refine Rj_iret d_D_row_14 rfl ?_
    refine Rj_aload_n (q := 1) d_M_row_0 rfl rfl rfl ?_
    refine Rj_iload_n (q := 2) d_M_row_1 rfl rfl rfl ?_
    refine Rj_iload_n (q := 3) d_M_row_2 rfl rfl rfl ?_
    refine Rj_vo (q := 6) (z := y_M_canPlan) (as := [vI a, vI b]) (rest := []) (la := [vA 0, vI a, vI b]) oM_0_M_canPlan ml_M_433 mw_M_canPlan mv_M_canPlan rfl d_M_row_3 rfl rfl rfl rfl rfl ?_
    refine Rj_aload_n (q := 1) d_M_canPlan_0 rfl rfl rfl ?_
    refine Rj_gr (q := 4) (zd := 11) gM_M_42_0 rfl rfl d_M_canPlan_1 rfl ?_
    refine Rj_iconst (q := 5) d_M_canPlan_4 rfl ?_
    refine Rj_ia (q := 6) (v := ν 11 0) aM_11 rfl (by decide) rfl d_M_canPlan_5 rfl ?_
    refine Rj_if_le (q := 9) (t := 29) d_M_canPlan_6 rfl (by decide) (by first | assumption | exact ⟨by omega, by omega⟩) (fun c3_6 => ?_) (fun c3_6 => ?_)
    · refine Rj_iconst (q := 30) d_M_canPlan_29 rfl ?_
      refine Rj_bret0 d_M_canPlan_30 rfl ?_
      refine Rj_if_eq (q := 9) (t := 13) d_M_row_6 rfl (by decide) (by decide) (fun _ => ?_) (fun c => absurd c (by decide))
      refine Rj_iconst (q := 14) d_M_row_13 rfl ?_
      refine Rj_iret d_M_row_14 rfl ?_
      exact ⟨sm_I rfl, hC1, kp0 _, kq0 _⟩
    · refine Rj_aload_n (q := 10) d_M_canPlan_9 rfl rfl rfl ?_
      refine Rj_iload_n (q := 11) d_M_canPlan_10 rfl rfl rfl ?_
      refine Rj_vo (q := 14) (z := y_M_isSet) (as := [vI a]) (rest := []) (la := [vA 0, vI a]) oM_0_M_isSet ml_M_388 mw_M_isSet mv_M_isSet rfl d_M_canPlan_11 rfl rfl rfl rfl rfl ?_
      refine Rj_iload_n (q := 1) d_M_isSet_0 rfl rfl rfl ?_
      refine Rj_if_lt (q := 4) (t := 20) d_M_isSet_1 rfl (by decide) (by first | assumption | exact ⟨by omega, by omega⟩) (fun c3_11_1 => ?_) (fun c3_11_1 => ?_)
      · refine Rj_iconst (q := 21) d_M_isSet_20 rfl ?_
        refine Rj_bret0 d_M_isSet_21 rfl ?_
        refine Rj_if_eq (q := 17) (t := 29) d_M_canPlan_14 rfl (by decide) (by decide) (fun _ => ?_) (fun c => absurd c (by decide))
        refine Rj_iconst (q := 30) d_M_canPlan_29 rfl ?_
        refine Rj_bret0 d_M_canPlan_30 rfl ?_
        refine Rj_if_eq (q := 9) (t := 13) d_M_row_6 rfl (by decide) (by decide) (fun _ => ?_) (fun c => absurd c (by decide))
        refine Rj_iconst (q := 14) d_M_row_13 rfl ?_
        refine Rj_iret d_M_row_14 rfl ?_
        exact ⟨sm_I rfl, hC1, kp0 _, kq0 _⟩
      · refine Rj_iload_n (q := 5) d_M_isSet_4 rfl rfl rfl ?_
        refine Rj_iconst (q := 6) d_M_isSet_5 rfl ?_
        refine Rj_aload_n (q := 7) d_M_isSet_6 rfl rfl rfl ?_
        refine Rj_gr (q := 10) (zd := 11) gM_M_42_0 rfl rfl d_M_isSet_7 rfl ?_
        refine Rj_iconst (q := 11) d_M_isSet_10 rfl ?_
        refine Rj_ia (q := 12) (v := ν 11 0) aM_11 rfl (by decide) rfl d_M_isSet_11 rfl ?_
        refine Rj_ishl (q := 13) (z := 2 ^ (ν 11 0).toNat) d_M_isSet_12 rfl (z_shl_p ⟨by omega, by omega⟩) ?_
        refine Rj_icmp_ge (q := 16) (t := 20) d_M_isSet_13 rfl (by decide) (by first | exact ha | exact hb | exact p2k.1) (by first | exact ha | exact hb | exact p2k.1) (fun c3_11_13 => ?_) (fun c3_11_13 => ?_)
        · refine Rj_iconst (q := 21) d_M_isSet_20 rfl ?_
          refine Rj_bret0 d_M_isSet_21 rfl ?_
          refine Rj_if_eq (q := 17) (t := 29) d_M_canPlan_14 rfl (by decide) (by decide) (fun _ => ?_) (fun c => absurd c (by decide))
          refine Rj_iconst (q := 30) d_M_canPlan_29 rfl ?_
          refine Rj_bret0 d_M_canPlan_30 rfl ?_
          refine Rj_if_eq (q := 9) (t := 13) d_M_row_6 rfl (by decide) (by decide) (fun _ => ?_) (fun c => absurd c (by decide))
          refine Rj_iconst (q := 14) d_M_row_13 rfl ?_
          refine Rj_iret d_M_row_14 rfl ?_
          exact ⟨sm_I rfl, hC1, kp0 _, kq0 _⟩
        · refine Rj_iconst (q := 17) d_M_isSet_16 rfl ?_
          refine Rj_goto (t := 21) d_M_isSet_17 (by decide) ?_
          refine Rj_bret1 d_M_isSet_21 rfl ?_
          refine Rj_if_eq (q := 17) (t := 29) d_M_canPlan_14 rfl (by decide) (by decide) (fun c => absurd c (by decide)) (fun _ => ?_)
          refine Rj_aload_n (q := 18) d_M_canPlan_17 rfl rfl rfl ?_
          refine Rj_iload_n (q := 19) d_M_canPlan_18 rfl rfl rfl ?_
          refine Rj_vo (q := 22) (z := y_M_isSet) (as := [vI b]) (rest := []) (la := [vA 0, vI b]) oM_0_M_isSet ml_M_388 mw_M_isSet mv_M_isSet rfl d_M_canPlan_19 rfl rfl rfl rfl rfl ?_
          refine Rj_iload_n (q := 1) d_M_isSet_0 rfl rfl rfl ?_
          refine Rj_if_lt (q := 4) (t := 20) d_M_isSet_1 rfl (by decide) (by first | assumption | exact ⟨by omega, by omega⟩) (fun c3_19_1 => ?_) (fun c3_19_1 => ?_)
          · refine Rj_iconst (q := 21) d_M_isSet_20 rfl ?_
            refine Rj_bret0 d_M_isSet_21 rfl ?_
            refine Rj_if_eq (q := 25) (t := 29) d_M_canPlan_22 rfl (by decide) (by decide) (fun _ => ?_) (fun c => absurd c (by decide))
            refine Rj_iconst (q := 30) d_M_canPlan_29 rfl ?_
            refine Rj_bret0 d_M_canPlan_30 rfl ?_
            refine Rj_if_eq (q := 9) (t := 13) d_M_row_6 rfl (by decide) (by decide) (fun _ => ?_) (fun c => absurd c (by decide))
            refine Rj_iconst (q := 14) d_M_row_13 rfl ?_
            refine Rj_iret d_M_row_14 rfl ?_
            exact ⟨sm_I rfl, hC1, kp0 _, kq0 _⟩
          · refine Rj_iload_n (q := 5) d_M_isSet_4 rfl rfl rfl ?_
            refine Rj_iconst (q := 6) d_M_isSet_5 rfl ?_
            refine Rj_aload_n (q := 7) d_M_isSet_6 rfl rfl rfl ?_
            refine Rj_gr (q := 10) (zd := 11) gM_M_42_0 rfl rfl d_M_isSet_7 rfl ?_
            refine Rj_iconst (q := 11) d_M_isSet_10 rfl ?_
            refine Rj_ia (q := 12) (v := ν 11 0) aM_11 rfl (by decide) rfl d_M_isSet_11 rfl ?_
            refine Rj_ishl (q := 13) (z := 2 ^ (ν 11 0).toNat) d_M_isSet_12 rfl (z_shl_p ⟨by omega, by omega⟩) ?_
            refine Rj_icmp_ge (q := 16) (t := 20) d_M_isSet_13 rfl (by decide) (by first | exact ha | exact hb | exact p2k.1) (by first | exact ha | exact hb | exact p2k.1) (fun c3_19_13 => ?_) (fun c3_19_13 => ?_)
            · refine Rj_iconst (q := 21) d_M_isSet_20 rfl ?_
              refine Rj_bret0 d_M_isSet_21 rfl ?_
              refine Rj_if_eq (q := 25) (t := 29) d_M_canPlan_22 rfl (by decide) (by decide) (fun _ => ?_) (fun c => absurd c (by decide))
              refine Rj_iconst (q := 30) d_M_canPlan_29 rfl ?_
              refine Rj_bret0 d_M_canPlan_30 rfl ?_
              refine Rj_if_eq (q := 9) (t := 13) d_M_row_6 rfl (by decide) (by decide) (fun _ => ?_) (fun c => absurd c (by decide))
              refine Rj_iconst (q := 14) d_M_row_13 rfl ?_
              refine Rj_iret d_M_row_14 rfl ?_
              exact ⟨sm_I rfl, hC1, kp0 _, kq0 _⟩
            · refine Rj_iconst (q := 17) d_M_isSet_16 rfl ?_
              refine Rj_goto (t := 21) d_M_isSet_17 (by decide) ?_
              refine Rj_bret1 d_M_isSet_21 rfl ?_
              refine Rj_if_eq (q := 25) (t := 29) d_M_canPlan_22 rfl (by decide) (by decide) (fun c => absurd c (by decide)) (fun _ => ?_)
              refine Rj_iconst (q := 26) d_M_canPlan_25 rfl ?_
              refine Rj_goto (t := 30) d_M_canPlan_26 (by decide) ?_
              refine Rj_bret1 d_M_canPlan_30 rfl ?_
              refine Rj_if_eq (q := 9) (t := 13) d_M_row_6 rfl (by decide) (by decide) (fun c => absurd c (by decide)) (fun _ => ?_)
              refine Rj_iload_n (q := 10) d_M_row_9 rfl rfl rfl ?_
              refine Rj_if_ge (q := 13) (t := 15) d_M_row_10 rfl (by decide) (by first | assumption | exact ⟨by omega, by omega⟩) (fun c10 => ?_) (fun c10 => ?_)
              · refine Rj_aload_n (q := 16) d_M_row_15 rfl rfl rfl ?_
                refine Rj_iload_n (q := 17) d_M_row_16 rfl rfl rfl ?_
                refine Rj_iload_n (q := 18) d_M_row_17 rfl rfl rfl ?_
                refine Rj_vo (q := 21) (z := y_M_plans) (as := [vI a, vI b]) (rest := []) (la := [vA 0, vI a, vI b]) oM_0_M_plans ml_M_436 mw_M_plans mv_M_plans rfl d_M_row_18 rfl rfl rfl rfl rfl ?_
                refine s_M_plans (lk := ν 17) hM ⟨rfl, rfl, rfl, rfl, rfl⟩ rfl (by omega) (by omega) (by omega) (by omega) (fun m2 fm2 gm2 => ?_)
                refine Rj_istore (q := 23) (ls' := [vA 0, vI a, vI b, vI c, vI (pln (ν 11 0) (acP (ν 11) (ν 14) (ν 15) (ν 16) (ν 12)) (resP (ν 11) (ν 14) (ν 15) (ν 16) (ν 12) (ν 17) a b) (dpP (ν 11) (ν 14) (ν 15) (ν 16) (ν 12) a b) 13 0 0 0)]) d_M_row_21 rfl (by decide) rfl ?_
                refine Rj_iload (q := 25) d_M_row_23 rfl rfl ?_
                refine Rj_if_ge (q := 28) (t := 33) d_M_row_25 rfl (by decide) (by first | assumption | exact ⟨by omega, by omega⟩) (fun c25 => ?_) (fun c25 => ?_)
                · refine Rj_iload_n (q := 34) d_M_row_33 rfl rfl rfl ?_
                  refine Rj_iload (q := 36) d_M_row_34 rfl rfl ?_
                  refine Rj_icmp_ge (q := 39) (t := 48) d_M_row_36 rfl (by decide) (by first | assumption | exact ⟨by omega, by omega⟩) (by first | assumption | exact ⟨by omega, by omega⟩) (fun c36 => ?_) (fun c36 => ?_)
                  · refine Rj_bipush (q := 50) d_M_row_48 rfl (by decide +kernel) ?_
                    refine Rj_iret d_M_row_50 rfl ?_
                    exfalso; omega
                  · refine Rj_aload_n (q := 40) d_M_row_39 rfl rfl rfl ?_
                    refine Rj_gr (q := 43) (zd := 22) gM_M_80_0 rfl rfl d_M_row_40 rfl ?_
                    refine Rj_iload_n (q := 44) d_M_row_43 rfl rfl rfl ?_
                    refine Rj_ia (q := 45) (v := m2 22 c) aM_22 rfl (by omega) rfl d_M_row_44 rfl ?_
                    refine Rj_goto (t := 50) d_M_row_45 (by decide) ?_
                    refine Rj_iret d_M_row_50 rfl ?_
                    exfalso; omega
                · refine Rj_iload (q := 30) d_M_row_28 rfl rfl ?_
                  refine Rj_goto (t := 50) d_M_row_30 (by decide) ?_
                  refine Rj_iret d_M_row_50 rfl ?_
                  exfalso; omega
              · refine Rj_iconst (q := 14) d_M_row_13 rfl ?_
                refine Rj_iret d_M_row_14 rfl ?_
                exact ⟨sm_I rfl, hC1, kp0 _, kq0 _⟩
  · refine Rj_aload_n (q := 11) d_D_isPlanOf_10 rfl rfl rfl ?_
    refine Rj_gr (q := 14) (zd := 3) gD_D_25_0 rfl rfl d_D_isPlanOf_11 rfl ?_
    refine Rj_iload_n (q := 15) d_D_isPlanOf_14 rfl rfl rfl ?_
    refine Rj_vo (q := 18) (z := y_Sc_isSet) (as := [vI a]) (rest := []) (la := [vA 3, vI a]) oD_3_Sc_isSet ml_D_220 mw_Sc_isSet mv_Sc_isSet rfl d_D_isPlanOf_15 rfl rfl rfl rfl rfl ?_
    refine Rj_iload_n (q := 1) d_Sc_isSet_0 rfl rfl rfl ?_
    refine Rj_if_lt (q := 4) (t := 17) d_Sc_isSet_1 rfl (by decide) (by first | assumption | exact ⟨by omega, by omega⟩) (fun c3_15_1 => ?_) (fun c3_15_1 => ?_)
    · refine Rj_iconst (q := 18) d_Sc_isSet_17 rfl ?_
      refine Rj_bret0 d_Sc_isSet_18 rfl ?_
      refine Rj_if_eq (q := 21) (t := 36) d_D_isPlanOf_18 rfl (by decide) (by decide) (fun _ => ?_) (fun c => absurd c (by decide))
      refine Rj_iconst (q := 37) d_D_isPlanOf_36 rfl ?_
      refine Rj_bret0 d_D_isPlanOf_37 rfl ?_
      refine Rj_if_eq (q := 9) (t := 13) d_D_row_6 rfl (by decide) (by decide) (fun _ => ?_) (fun c => absurd c (by decide))
      refine Rj_iconst (q := 14) d_D_row_13 rfl ?_
      refine Rj_iret d_D_row_14 rfl ?_
      refine Rj_aload_n (q := 1) d_M_row_0 rfl rfl rfl ?_
      refine Rj_iload_n (q := 2) d_M_row_1 rfl rfl rfl ?_
      refine Rj_iload_n (q := 3) d_M_row_2 rfl rfl rfl ?_
      refine Rj_vo (q := 6) (z := y_M_canPlan) (as := [vI a, vI b]) (rest := []) (la := [vA 0, vI a, vI b]) oM_0_M_canPlan ml_M_433 mw_M_canPlan mv_M_canPlan rfl d_M_row_3 rfl rfl rfl rfl rfl ?_
      refine Rj_aload_n (q := 1) d_M_canPlan_0 rfl rfl rfl ?_
      refine Rj_gr (q := 4) (zd := 11) gM_M_42_0 rfl rfl d_M_canPlan_1 rfl ?_
      refine Rj_iconst (q := 5) d_M_canPlan_4 rfl ?_
      refine Rj_ia (q := 6) (v := ν 11 0) aM_11 rfl (by decide) rfl d_M_canPlan_5 rfl ?_
      refine Rj_if_le (q := 9) (t := 29) d_M_canPlan_6 rfl (by decide) (by first | assumption | exact ⟨by omega, by omega⟩) (fun c3_6 => ?_) (fun c3_6 => ?_)
      · refine Rj_iconst (q := 30) d_M_canPlan_29 rfl ?_
        refine Rj_bret0 d_M_canPlan_30 rfl ?_
        refine Rj_if_eq (q := 9) (t := 13) d_M_row_6 rfl (by decide) (by decide) (fun _ => ?_) (fun c => absurd c (by decide))
        refine Rj_iconst (q := 14) d_M_row_13 rfl ?_
        refine Rj_iret d_M_row_14 rfl ?_
        exact ⟨sm_I rfl, hC1, kp0 _, kq0 _⟩
      · refine Rj_aload_n (q := 10) d_M_canPlan_9 rfl rfl rfl ?_
        refine Rj_iload_n (q := 11) d_M_canPlan_10 rfl rfl rfl ?_
        refine Rj_vo (q := 14) (z := y_M_isSet) (as := [vI a]) (rest := []) (la := [vA 0, vI a]) oM_0_M_isSet ml_M_388 mw_M_isSet mv_M_isSet rfl d_M_canPlan_11 rfl rfl rfl rfl rfl ?_
        refine Rj_iload_n (q := 1) d_M_isSet_0 rfl rfl rfl ?_
        refine Rj_if_lt (q := 4) (t := 20) d_M_isSet_1 rfl (by decide) (by first | assumption | exact ⟨by omega, by omega⟩) (fun c3_11_1 => ?_) (fun c3_11_1 => ?_)
        · refine Rj_iconst (q := 21) d_M_isSet_20 rfl ?_
          refine Rj_bret0 d_M_isSet_21 rfl ?_
          refine Rj_if_eq (q := 17) (t := 29) d_M_canPlan_14 rfl (by decide) (by decide) (fun _ => ?_) (fun c => absurd c (by decide))
          refine Rj_iconst (q := 30) d_M_canPlan_29 rfl ?_
          refine Rj_bret0 d_M_canPlan_30 rfl ?_
          refine Rj_if_eq (q := 9) (t := 13) d_M_row_6 rfl (by decide) (by decide) (fun _ => ?_) (fun c => absurd c (by decide))
          refine Rj_iconst (q := 14) d_M_row_13 rfl ?_
          refine Rj_iret d_M_row_14 rfl ?_
          exact ⟨sm_I rfl, hC1, kp0 _, kq0 _⟩
        · refine Rj_iload_n (q := 5) d_M_isSet_4 rfl rfl rfl ?_
          refine Rj_iconst (q := 6) d_M_isSet_5 rfl ?_
          refine Rj_aload_n (q := 7) d_M_isSet_6 rfl rfl rfl ?_
          refine Rj_gr (q := 10) (zd := 11) gM_M_42_0 rfl rfl d_M_isSet_7 rfl ?_
          refine Rj_iconst (q := 11) d_M_isSet_10 rfl ?_
          refine Rj_ia (q := 12) (v := ν 11 0) aM_11 rfl (by decide) rfl d_M_isSet_11 rfl ?_
          refine Rj_ishl (q := 13) (z := 2 ^ (ν 11 0).toNat) d_M_isSet_12 rfl (z_shl_p ⟨by omega, by omega⟩) ?_
          refine Rj_icmp_ge (q := 16) (t := 20) d_M_isSet_13 rfl (by decide) (by first | exact ha | exact hb | exact p2k.1) (by first | exact ha | exact hb | exact p2k.1) (fun c3_11_13 => ?_) (fun c3_11_13 => ?_)
          · refine Rj_iconst (q := 21) d_M_isSet_20 rfl ?_
            refine Rj_bret0 d_M_isSet_21 rfl ?_
            refine Rj_if_eq (q := 17) (t := 29) d_M_canPlan_14 rfl (by decide) (by decide) (fun _ => ?_) (fun c => absurd c (by decide))
            refine Rj_iconst (q := 30) d_M_canPlan_29 rfl ?_
            refine Rj_bret0 d_M_canPlan_30 rfl ?_
            refine Rj_if_eq (q := 9) (t := 13) d_M_row_6 rfl (by decide) (by decide) (fun _ => ?_) (fun c => absurd c (by decide))
            refine Rj_iconst (q := 14) d_M_row_13 rfl ?_
            refine Rj_iret d_M_row_14 rfl ?_
            exact ⟨sm_I rfl, hC1, kp0 _, kq0 _⟩
          · refine Rj_iconst (q := 17) d_M_isSet_16 rfl ?_
            refine Rj_goto (t := 21) d_M_isSet_17 (by decide) ?_
            refine Rj_bret1 d_M_isSet_21 rfl ?_
            refine Rj_if_eq (q := 17) (t := 29) d_M_canPlan_14 rfl (by decide) (by decide) (fun c => absurd c (by decide)) (fun _ => ?_)
            refine Rj_aload_n (q := 18) d_M_canPlan_17 rfl rfl rfl ?_
            refine Rj_iload_n (q := 19) d_M_canPlan_18 rfl rfl rfl ?_
            refine Rj_vo (q := 22) (z := y_M_isSet) (as := [vI b]) (rest := []) (la := [vA 0, vI b]) oM_0_M_isSet ml_M_388 mw_M_isSet mv_M_isSet rfl d_M_canPlan_19 rfl rfl rfl rfl rfl ?_
            refine Rj_iload_n (q := 1) d_M_isSet_0 rfl rfl rfl ?_
            refine Rj_if_lt (q := 4) (t := 20) d_M_isSet_1 rfl (by decide) (by first | assumption | exact ⟨by omega, by omega⟩) (fun c3_19_1 => ?_) (fun c3_19_1 => ?_)
            · refine Rj_iconst (q := 21) d_M_isSet_20 rfl ?_
              refine Rj_bret0 d_M_isSet_21 rfl ?_
              refine Rj_if_eq (q := 25) (t := 29) d_M_canPlan_22 rfl (by decide) (by decide) (fun _ => ?_) (fun c => absurd c (by decide))
              refine Rj_iconst (q := 30) d_M_canPlan_29 rfl ?_
              refine Rj_bret0 d_M_canPlan_30 rfl ?_
              refine Rj_if_eq (q := 9) (t := 13) d_M_row_6 rfl (by decide) (by decide) (fun _ => ?_) (fun c => absurd c (by decide))
              refine Rj_iconst (q := 14) d_M_row_13 rfl ?_
              refine Rj_iret d_M_row_14 rfl ?_
              exact ⟨sm_I rfl, hC1, kp0 _, kq0 _⟩
            · refine Rj_iload_n (q := 5) d_M_isSet_4 rfl rfl rfl ?_
              refine Rj_iconst (q := 6) d_M_isSet_5 rfl ?_
              refine Rj_aload_n (q := 7) d_M_isSet_6 rfl rfl rfl ?_
              refine Rj_gr (q := 10) (zd := 11) gM_M_42_0 rfl rfl d_M_isSet_7 rfl ?_
              refine Rj_iconst (q := 11) d_M_isSet_10 rfl ?_
              refine Rj_ia (q := 12) (v := ν 11 0) aM_11 rfl (by decide) rfl d_M_isSet_11 rfl ?_
              refine Rj_ishl (q := 13) (z := 2 ^ (ν 11 0).toNat) d_M_isSet_12 rfl (z_shl_p ⟨by omega, by omega⟩) ?_
              refine Rj_icmp_ge (q := 16) (t := 20) d_M_isSet_13 rfl (by decide) (by first | exact ha | exact hb | exact p2k.1) (by first | exact ha | exact hb | exact p2k.1) (fun c3_19_13 => ?_) (fun c3_19_13 => ?_)
              · refine Rj_iconst (q := 21) d_M_isSet_20 rfl ?_
                refine Rj_bret0 d_M_isSet_21 rfl ?_
                refine Rj_if_eq (q := 25) (t := 29) d_M_canPlan_22 rfl (by decide) (by decide) (fun _ => ?_) (fun c => absurd c (by decide))
                refine Rj_iconst (q := 30) d_M_canPlan_29 rfl ?_
                refine Rj_bret0 d_M_canPlan_30 rfl ?_
                refine Rj_if_eq (q := 9) (t := 13) d_M_row_6 rfl (by decide) (by decide) (fun _ => ?_) (fun c => absurd c (by decide))
                refine Rj_iconst (q := 14) d_M_row_13 rfl ?_
                refine Rj_iret d_M_row_14 rfl ?_
                exact ⟨sm_I rfl, hC1, kp0 _, kq0 _⟩
              · refine Rj_iconst (q := 17) d_M_isSet_16 rfl ?_
                refine Rj_goto (t := 21) d_M_isSet_17 (by decide) ?_
                refine Rj_bret1 d_M_isSet_21 rfl ?_
                refine Rj_if_eq (q := 25) (t := 29) d_M_canPlan_22 rfl (by decide) (by decide) (fun c => absurd c (by decide)) (fun _ => ?_)
                refine Rj_iconst (q := 26) d_M_canPlan_25 rfl ?_
                refine Rj_goto (t := 30) d_M_canPlan_26 (by decide) ?_
                refine Rj_bret1 d_M_canPlan_30 rfl ?_
                refine Rj_if_eq (q := 9) (t := 13) d_M_row_6 rfl (by decide) (by decide) (fun c => absurd c (by decide)) (fun _ => ?_)
                refine Rj_iload_n (q := 10) d_M_row_9 rfl rfl rfl ?_
                refine Rj_if_ge (q := 13) (t := 15) d_M_row_10 rfl (by decide) (by first | assumption | exact ⟨by omega, by omega⟩) (fun c10 => ?_) (fun c10 => ?_)
                · refine Rj_aload_n (q := 16) d_M_row_15 rfl rfl rfl ?_
                  refine Rj_iload_n (q := 17) d_M_row_16 rfl rfl rfl ?_
                  refine Rj_iload_n (q := 18) d_M_row_17 rfl rfl rfl ?_
                  refine Rj_vo (q := 21) (z := y_M_plans) (as := [vI a, vI b]) (rest := []) (la := [vA 0, vI a, vI b]) oM_0_M_plans ml_M_436 mw_M_plans mv_M_plans rfl d_M_row_18 rfl rfl rfl rfl rfl ?_
                  refine s_M_plans (lk := ν 17) hM ⟨rfl, rfl, rfl, rfl, rfl⟩ rfl (by omega) (by omega) (by omega) (by omega) (fun m2 fm2 gm2 => ?_)
                  refine Rj_istore (q := 23) (ls' := [vA 0, vI a, vI b, vI c, vI (pln (ν 11 0) (acP (ν 11) (ν 14) (ν 15) (ν 16) (ν 12)) (resP (ν 11) (ν 14) (ν 15) (ν 16) (ν 12) (ν 17) a b) (dpP (ν 11) (ν 14) (ν 15) (ν 16) (ν 12) a b) 13 0 0 0)]) d_M_row_21 rfl (by decide) rfl ?_
                  refine Rj_iload (q := 25) d_M_row_23 rfl rfl ?_
                  refine Rj_if_ge (q := 28) (t := 33) d_M_row_25 rfl (by decide) (by first | assumption | exact ⟨by omega, by omega⟩) (fun c25 => ?_) (fun c25 => ?_)
                  · refine Rj_iload_n (q := 34) d_M_row_33 rfl rfl rfl ?_
                    refine Rj_iload (q := 36) d_M_row_34 rfl rfl ?_
                    refine Rj_icmp_ge (q := 39) (t := 48) d_M_row_36 rfl (by decide) (by first | assumption | exact ⟨by omega, by omega⟩) (by first | assumption | exact ⟨by omega, by omega⟩) (fun c36 => ?_) (fun c36 => ?_)
                    · refine Rj_bipush (q := 50) d_M_row_48 rfl (by decide +kernel) ?_
                      refine Rj_iret d_M_row_50 rfl ?_
                      exfalso; omega
                    · refine Rj_aload_n (q := 40) d_M_row_39 rfl rfl rfl ?_
                      refine Rj_gr (q := 43) (zd := 22) gM_M_80_0 rfl rfl d_M_row_40 rfl ?_
                      refine Rj_iload_n (q := 44) d_M_row_43 rfl rfl rfl ?_
                      refine Rj_ia (q := 45) (v := m2 22 c) aM_22 rfl (by omega) rfl d_M_row_44 rfl ?_
                      refine Rj_goto (t := 50) d_M_row_45 (by decide) ?_
                      refine Rj_iret d_M_row_50 rfl ?_
                      exfalso; omega
                  · refine Rj_iload (q := 30) d_M_row_28 rfl rfl ?_
                    refine Rj_goto (t := 50) d_M_row_30 (by decide) ?_
                    refine Rj_iret d_M_row_50 rfl ?_
                    exfalso; omega
                · refine Rj_iconst (q := 14) d_M_row_13 rfl ?_
                  refine Rj_iret d_M_row_14 rfl ?_
                  exact ⟨sm_I rfl, hC1, kp0 _, kq0 _⟩
    · refine Rj_iload_n (q := 5) d_Sc_isSet_4 rfl rfl rfl ?_
      refine Rj_aload_n (q := 6) d_Sc_isSet_5 rfl rfl rfl ?_
      refine Rj_gi (q := 9) (ki := 0) (v := ν 11 0) gD_Sc_37_3 rfl rfl z2 d_Sc_isSet_6 rfl ?_
      refine Rj_iushr (q := 10) (z := a / 2 ^ (ν 11 0).toNat) d_Sc_isSet_9 rfl (z_ush0 ⟨by omega, by omega⟩ (by omega) (by omega)) ?_
      refine Rj_if_ne (q := 13) (t := 17) d_Sc_isSet_10 rfl (by decide) (by first | exact dp_32 (by omega) ha | exact dp_32 (by omega) hb) (fun c3_15_10 => ?_) (fun c3_15_10 => ?_)
      · refine Rj_iconst (q := 18) d_Sc_isSet_17 rfl ?_
        refine Rj_bret0 d_Sc_isSet_18 rfl ?_
        refine Rj_if_eq (q := 21) (t := 36) d_D_isPlanOf_18 rfl (by decide) (by decide) (fun _ => ?_) (fun c => absurd c (by decide))
        refine Rj_iconst (q := 37) d_D_isPlanOf_36 rfl ?_
        refine Rj_bret0 d_D_isPlanOf_37 rfl ?_
        refine Rj_if_eq (q := 9) (t := 13) d_D_row_6 rfl (by decide) (by decide) (fun _ => ?_) (fun c => absurd c (by decide))
        refine Rj_iconst (q := 14) d_D_row_13 rfl ?_
        refine Rj_iret d_D_row_14 rfl ?_
        refine Rj_aload_n (q := 1) d_M_row_0 rfl rfl rfl ?_
        refine Rj_iload_n (q := 2) d_M_row_1 rfl rfl rfl ?_
        refine Rj_iload_n (q := 3) d_M_row_2 rfl rfl rfl ?_
        refine Rj_vo (q := 6) (z := y_M_canPlan) (as := [vI a, vI b]) (rest := []) (la := [vA 0, vI a, vI b]) oM_0_M_canPlan ml_M_433 mw_M_canPlan mv_M_canPlan rfl d_M_row_3 rfl rfl rfl rfl rfl ?_
        refine Rj_aload_n (q := 1) d_M_canPlan_0 rfl rfl rfl ?_
        refine Rj_gr (q := 4) (zd := 11) gM_M_42_0 rfl rfl d_M_canPlan_1 rfl ?_
        refine Rj_iconst (q := 5) d_M_canPlan_4 rfl ?_
        refine Rj_ia (q := 6) (v := ν 11 0) aM_11 rfl (by decide) rfl d_M_canPlan_5 rfl ?_
        refine Rj_if_le (q := 9) (t := 29) d_M_canPlan_6 rfl (by decide) (by first | assumption | exact ⟨by omega, by omega⟩) (fun c3_6 => ?_) (fun c3_6 => ?_)
        · refine Rj_iconst (q := 30) d_M_canPlan_29 rfl ?_
          refine Rj_bret0 d_M_canPlan_30 rfl ?_
          refine Rj_if_eq (q := 9) (t := 13) d_M_row_6 rfl (by decide) (by decide) (fun _ => ?_) (fun c => absurd c (by decide))
          refine Rj_iconst (q := 14) d_M_row_13 rfl ?_
          refine Rj_iret d_M_row_14 rfl ?_
          exact ⟨sm_I rfl, hC1, kp0 _, kq0 _⟩
        · refine Rj_aload_n (q := 10) d_M_canPlan_9 rfl rfl rfl ?_
          refine Rj_iload_n (q := 11) d_M_canPlan_10 rfl rfl rfl ?_
          refine Rj_vo (q := 14) (z := y_M_isSet) (as := [vI a]) (rest := []) (la := [vA 0, vI a]) oM_0_M_isSet ml_M_388 mw_M_isSet mv_M_isSet rfl d_M_canPlan_11 rfl rfl rfl rfl rfl ?_
          refine Rj_iload_n (q := 1) d_M_isSet_0 rfl rfl rfl ?_
          refine Rj_if_lt (q := 4) (t := 20) d_M_isSet_1 rfl (by decide) (by first | assumption | exact ⟨by omega, by omega⟩) (fun c3_11_1 => ?_) (fun c3_11_1 => ?_)
          · refine Rj_iconst (q := 21) d_M_isSet_20 rfl ?_
            refine Rj_bret0 d_M_isSet_21 rfl ?_
            refine Rj_if_eq (q := 17) (t := 29) d_M_canPlan_14 rfl (by decide) (by decide) (fun _ => ?_) (fun c => absurd c (by decide))
            refine Rj_iconst (q := 30) d_M_canPlan_29 rfl ?_
            refine Rj_bret0 d_M_canPlan_30 rfl ?_
            refine Rj_if_eq (q := 9) (t := 13) d_M_row_6 rfl (by decide) (by decide) (fun _ => ?_) (fun c => absurd c (by decide))
            refine Rj_iconst (q := 14) d_M_row_13 rfl ?_
            refine Rj_iret d_M_row_14 rfl ?_
            exact ⟨sm_I rfl, hC1, kp0 _, kq0 _⟩
          · refine Rj_iload_n (q := 5) d_M_isSet_4 rfl rfl rfl ?_
            refine Rj_iconst (q := 6) d_M_isSet_5 rfl ?_
            refine Rj_aload_n (q := 7) d_M_isSet_6 rfl rfl rfl ?_
            refine Rj_gr (q := 10) (zd := 11) gM_M_42_0 rfl rfl d_M_isSet_7 rfl ?_
            refine Rj_iconst (q := 11) d_M_isSet_10 rfl ?_
            refine Rj_ia (q := 12) (v := ν 11 0) aM_11 rfl (by decide) rfl d_M_isSet_11 rfl ?_
            refine Rj_ishl (q := 13) (z := 2 ^ (ν 11 0).toNat) d_M_isSet_12 rfl (z_shl_p ⟨by omega, by omega⟩) ?_
            refine Rj_icmp_ge (q := 16) (t := 20) d_M_isSet_13 rfl (by decide) (by first | exact ha | exact hb | exact p2k.1) (by first | exact ha | exact hb | exact p2k.1) (fun c3_11_13 => ?_) (fun c3_11_13 => ?_)
            · refine Rj_iconst (q := 21) d_M_isSet_20 rfl ?_
              refine Rj_bret0 d_M_isSet_21 rfl ?_
              refine Rj_if_eq (q := 17) (t := 29) d_M_canPlan_14 rfl (by decide) (by decide) (fun _ => ?_) (fun c => absurd c (by decide))
              refine Rj_iconst (q := 30) d_M_canPlan_29 rfl ?_
              refine Rj_bret0 d_M_canPlan_30 rfl ?_
              refine Rj_if_eq (q := 9) (t := 13) d_M_row_6 rfl (by decide) (by decide) (fun _ => ?_) (fun c => absurd c (by decide))
              refine Rj_iconst (q := 14) d_M_row_13 rfl ?_
              refine Rj_iret d_M_row_14 rfl ?_
              exact ⟨sm_I rfl, hC1, kp0 _, kq0 _⟩
            · refine Rj_iconst (q := 17) d_M_isSet_16 rfl ?_
              refine Rj_goto (t := 21) d_M_isSet_17 (by decide) ?_
              refine Rj_bret1 d_M_isSet_21 rfl ?_
              refine Rj_if_eq (q := 17) (t := 29) d_M_canPlan_14 rfl (by decide) (by decide) (fun c => absurd c (by decide)) (fun _ => ?_)
              refine Rj_aload_n (q := 18) d_M_canPlan_17 rfl rfl rfl ?_
              refine Rj_iload_n (q := 19) d_M_canPlan_18 rfl rfl rfl ?_
              refine Rj_vo (q := 22) (z := y_M_isSet) (as := [vI b]) (rest := []) (la := [vA 0, vI b]) oM_0_M_isSet ml_M_388 mw_M_isSet mv_M_isSet rfl d_M_canPlan_19 rfl rfl rfl rfl rfl ?_
              refine Rj_iload_n (q := 1) d_M_isSet_0 rfl rfl rfl ?_
              refine Rj_if_lt (q := 4) (t := 20) d_M_isSet_1 rfl (by decide) (by first | assumption | exact ⟨by omega, by omega⟩) (fun c3_19_1 => ?_) (fun c3_19_1 => ?_)
              · refine Rj_iconst (q := 21) d_M_isSet_20 rfl ?_
                refine Rj_bret0 d_M_isSet_21 rfl ?_
                refine Rj_if_eq (q := 25) (t := 29) d_M_canPlan_22 rfl (by decide) (by decide) (fun _ => ?_) (fun c => absurd c (by decide))
                refine Rj_iconst (q := 30) d_M_canPlan_29 rfl ?_
                refine Rj_bret0 d_M_canPlan_30 rfl ?_
                refine Rj_if_eq (q := 9) (t := 13) d_M_row_6 rfl (by decide) (by decide) (fun _ => ?_) (fun c => absurd c (by decide))
                refine Rj_iconst (q := 14) d_M_row_13 rfl ?_
                refine Rj_iret d_M_row_14 rfl ?_
                exact ⟨sm_I rfl, hC1, kp0 _, kq0 _⟩
              · refine Rj_iload_n (q := 5) d_M_isSet_4 rfl rfl rfl ?_
                refine Rj_iconst (q := 6) d_M_isSet_5 rfl ?_
                refine Rj_aload_n (q := 7) d_M_isSet_6 rfl rfl rfl ?_
                refine Rj_gr (q := 10) (zd := 11) gM_M_42_0 rfl rfl d_M_isSet_7 rfl ?_
                refine Rj_iconst (q := 11) d_M_isSet_10 rfl ?_
                refine Rj_ia (q := 12) (v := ν 11 0) aM_11 rfl (by decide) rfl d_M_isSet_11 rfl ?_
                refine Rj_ishl (q := 13) (z := 2 ^ (ν 11 0).toNat) d_M_isSet_12 rfl (z_shl_p ⟨by omega, by omega⟩) ?_
                refine Rj_icmp_ge (q := 16) (t := 20) d_M_isSet_13 rfl (by decide) (by first | exact ha | exact hb | exact p2k.1) (by first | exact ha | exact hb | exact p2k.1) (fun c3_19_13 => ?_) (fun c3_19_13 => ?_)
                · refine Rj_iconst (q := 21) d_M_isSet_20 rfl ?_
                  refine Rj_bret0 d_M_isSet_21 rfl ?_
                  refine Rj_if_eq (q := 25) (t := 29) d_M_canPlan_22 rfl (by decide) (by decide) (fun _ => ?_) (fun c => absurd c (by decide))
                  refine Rj_iconst (q := 30) d_M_canPlan_29 rfl ?_
                  refine Rj_bret0 d_M_canPlan_30 rfl ?_
                  refine Rj_if_eq (q := 9) (t := 13) d_M_row_6 rfl (by decide) (by decide) (fun _ => ?_) (fun c => absurd c (by decide))
                  refine Rj_iconst (q := 14) d_M_row_13 rfl ?_
                  refine Rj_iret d_M_row_14 rfl ?_
                  exact ⟨sm_I rfl, hC1, kp0 _, kq0 _⟩
                · refine Rj_iconst (q := 17) d_M_isSet_16 rfl ?_
                  refine Rj_goto (t := 21) d_M_isSet_17 (by decide) ?_
                  refine Rj_bret1 d_M_isSet_21 rfl ?_
                  refine Rj_if_eq (q := 25) (t := 29) d_M_canPlan_22 rfl (by decide) (by decide) (fun c => absurd c (by decide)) (fun _ => ?_)
                  refine Rj_iconst (q := 26) d_M_canPlan_25 rfl ?_
                  refine Rj_goto (t := 30) d_M_canPlan_26 (by decide) ?_
                  refine Rj_bret1 d_M_canPlan_30 rfl ?_
                  refine Rj_if_eq (q := 9) (t := 13) d_M_row_6 rfl (by decide) (by decide) (fun c => absurd c (by decide)) (fun _ => ?_)
                  refine Rj_iload_n (q := 10) d_M_row_9 rfl rfl rfl ?_
                  refine Rj_if_ge (q := 13) (t := 15) d_M_row_10 rfl (by decide) (by first | assumption | exact ⟨by omega, by omega⟩) (fun c10 => ?_) (fun c10 => ?_)
                  · refine Rj_aload_n (q := 16) d_M_row_15 rfl rfl rfl ?_
                    refine Rj_iload_n (q := 17) d_M_row_16 rfl rfl rfl ?_
                    refine Rj_iload_n (q := 18) d_M_row_17 rfl rfl rfl ?_
                    refine Rj_vo (q := 21) (z := y_M_plans) (as := [vI a, vI b]) (rest := []) (la := [vA 0, vI a, vI b]) oM_0_M_plans ml_M_436 mw_M_plans mv_M_plans rfl d_M_row_18 rfl rfl rfl rfl rfl ?_
                    refine s_M_plans (lk := ν 17) hM ⟨rfl, rfl, rfl, rfl, rfl⟩ rfl (by omega) (by omega) (by omega) (by omega) (fun m2 fm2 gm2 => ?_)
                    refine Rj_istore (q := 23) (ls' := [vA 0, vI a, vI b, vI c, vI (pln (ν 11 0) (acP (ν 11) (ν 14) (ν 15) (ν 16) (ν 12)) (resP (ν 11) (ν 14) (ν 15) (ν 16) (ν 12) (ν 17) a b) (dpP (ν 11) (ν 14) (ν 15) (ν 16) (ν 12) a b) 13 0 0 0)]) d_M_row_21 rfl (by decide) rfl ?_
                    refine Rj_iload (q := 25) d_M_row_23 rfl rfl ?_
                    refine Rj_if_ge (q := 28) (t := 33) d_M_row_25 rfl (by decide) (by first | assumption | exact ⟨by omega, by omega⟩) (fun c25 => ?_) (fun c25 => ?_)
                    · refine Rj_iload_n (q := 34) d_M_row_33 rfl rfl rfl ?_
                      refine Rj_iload (q := 36) d_M_row_34 rfl rfl ?_
                      refine Rj_icmp_ge (q := 39) (t := 48) d_M_row_36 rfl (by decide) (by first | assumption | exact ⟨by omega, by omega⟩) (by first | assumption | exact ⟨by omega, by omega⟩) (fun c36 => ?_) (fun c36 => ?_)
                      · refine Rj_bipush (q := 50) d_M_row_48 rfl (by decide +kernel) ?_
                        refine Rj_iret d_M_row_50 rfl ?_
                        exfalso; omega
                      · refine Rj_aload_n (q := 40) d_M_row_39 rfl rfl rfl ?_
                        refine Rj_gr (q := 43) (zd := 22) gM_M_80_0 rfl rfl d_M_row_40 rfl ?_
                        refine Rj_iload_n (q := 44) d_M_row_43 rfl rfl rfl ?_
                        refine Rj_ia (q := 45) (v := m2 22 c) aM_22 rfl (by omega) rfl d_M_row_44 rfl ?_
                        refine Rj_goto (t := 50) d_M_row_45 (by decide) ?_
                        refine Rj_iret d_M_row_50 rfl ?_
                        exfalso; omega
                    · refine Rj_iload (q := 30) d_M_row_28 rfl rfl ?_
                      refine Rj_goto (t := 50) d_M_row_30 (by decide) ?_
                      refine Rj_iret d_M_row_50 rfl ?_
                      exfalso; omega
                  · refine Rj_iconst (q := 14) d_M_row_13 rfl ?_
                    refine Rj_iret d_M_row_14 rfl ?_
                    exact ⟨sm_I rfl, hC1, kp0 _, kq0 _⟩
      · refine Rj_iconst (q := 14) d_Sc_isSet_13 rfl ?_
        refine Rj_goto (t := 18) d_Sc_isSet_14 (by decide) ?_
        refine Rj_bret1 d_Sc_isSet_18 rfl ?_
        refine Rj_if_eq (q := 21) (t := 36) d_D_isPlanOf_18 rfl (by decide) (by decide) (fun c => absurd c (by decide)) (fun _ => ?_)
        refine Rj_aload_n (q := 22) d_D_isPlanOf_21 rfl rfl rfl ?_
        refine Rj_gr (q := 25) (zd := 3) gD_D_25_0 rfl rfl d_D_isPlanOf_22 rfl ?_
        refine Rj_iload_n (q := 26) d_D_isPlanOf_25 rfl rfl rfl ?_
        refine Rj_vo (q := 29) (z := y_Sc_isSet) (as := [vI b]) (rest := []) (la := [vA 3, vI b]) oD_3_Sc_isSet ml_D_220 mw_Sc_isSet mv_Sc_isSet rfl d_D_isPlanOf_26 rfl rfl rfl rfl rfl ?_
        refine Rj_iload_n (q := 1) d_Sc_isSet_0 rfl rfl rfl ?_
        refine Rj_if_lt (q := 4) (t := 17) d_Sc_isSet_1 rfl (by decide) (by first | assumption | exact ⟨by omega, by omega⟩) (fun c3_26_1 => ?_) (fun c3_26_1 => ?_)
        · refine Rj_iconst (q := 18) d_Sc_isSet_17 rfl ?_
          refine Rj_bret0 d_Sc_isSet_18 rfl ?_
          refine Rj_if_eq (q := 32) (t := 36) d_D_isPlanOf_29 rfl (by decide) (by decide) (fun _ => ?_) (fun c => absurd c (by decide))
          refine Rj_iconst (q := 37) d_D_isPlanOf_36 rfl ?_
          refine Rj_bret0 d_D_isPlanOf_37 rfl ?_
          refine Rj_if_eq (q := 9) (t := 13) d_D_row_6 rfl (by decide) (by decide) (fun _ => ?_) (fun c => absurd c (by decide))
          refine Rj_iconst (q := 14) d_D_row_13 rfl ?_
          refine Rj_iret d_D_row_14 rfl ?_
          refine Rj_aload_n (q := 1) d_M_row_0 rfl rfl rfl ?_
          refine Rj_iload_n (q := 2) d_M_row_1 rfl rfl rfl ?_
          refine Rj_iload_n (q := 3) d_M_row_2 rfl rfl rfl ?_
          refine Rj_vo (q := 6) (z := y_M_canPlan) (as := [vI a, vI b]) (rest := []) (la := [vA 0, vI a, vI b]) oM_0_M_canPlan ml_M_433 mw_M_canPlan mv_M_canPlan rfl d_M_row_3 rfl rfl rfl rfl rfl ?_
          refine Rj_aload_n (q := 1) d_M_canPlan_0 rfl rfl rfl ?_
          refine Rj_gr (q := 4) (zd := 11) gM_M_42_0 rfl rfl d_M_canPlan_1 rfl ?_
          refine Rj_iconst (q := 5) d_M_canPlan_4 rfl ?_
          refine Rj_ia (q := 6) (v := ν 11 0) aM_11 rfl (by decide) rfl d_M_canPlan_5 rfl ?_
          refine Rj_if_le (q := 9) (t := 29) d_M_canPlan_6 rfl (by decide) (by first | assumption | exact ⟨by omega, by omega⟩) (fun c3_6 => ?_) (fun c3_6 => ?_)
          · refine Rj_iconst (q := 30) d_M_canPlan_29 rfl ?_
            refine Rj_bret0 d_M_canPlan_30 rfl ?_
            refine Rj_if_eq (q := 9) (t := 13) d_M_row_6 rfl (by decide) (by decide) (fun _ => ?_) (fun c => absurd c (by decide))
            refine Rj_iconst (q := 14) d_M_row_13 rfl ?_
            refine Rj_iret d_M_row_14 rfl ?_
            exact ⟨sm_I rfl, hC1, kp0 _, kq0 _⟩
          · refine Rj_aload_n (q := 10) d_M_canPlan_9 rfl rfl rfl ?_
            refine Rj_iload_n (q := 11) d_M_canPlan_10 rfl rfl rfl ?_
            refine Rj_vo (q := 14) (z := y_M_isSet) (as := [vI a]) (rest := []) (la := [vA 0, vI a]) oM_0_M_isSet ml_M_388 mw_M_isSet mv_M_isSet rfl d_M_canPlan_11 rfl rfl rfl rfl rfl ?_
            refine Rj_iload_n (q := 1) d_M_isSet_0 rfl rfl rfl ?_
            refine Rj_if_lt (q := 4) (t := 20) d_M_isSet_1 rfl (by decide) (by first | assumption | exact ⟨by omega, by omega⟩) (fun c3_11_1 => ?_) (fun c3_11_1 => ?_)
            · refine Rj_iconst (q := 21) d_M_isSet_20 rfl ?_
              refine Rj_bret0 d_M_isSet_21 rfl ?_
              refine Rj_if_eq (q := 17) (t := 29) d_M_canPlan_14 rfl (by decide) (by decide) (fun _ => ?_) (fun c => absurd c (by decide))
              refine Rj_iconst (q := 30) d_M_canPlan_29 rfl ?_
              refine Rj_bret0 d_M_canPlan_30 rfl ?_
              refine Rj_if_eq (q := 9) (t := 13) d_M_row_6 rfl (by decide) (by decide) (fun _ => ?_) (fun c => absurd c (by decide))
              refine Rj_iconst (q := 14) d_M_row_13 rfl ?_
              refine Rj_iret d_M_row_14 rfl ?_
              exact ⟨sm_I rfl, hC1, kp0 _, kq0 _⟩
            · refine Rj_iload_n (q := 5) d_M_isSet_4 rfl rfl rfl ?_
              refine Rj_iconst (q := 6) d_M_isSet_5 rfl ?_
              refine Rj_aload_n (q := 7) d_M_isSet_6 rfl rfl rfl ?_
              refine Rj_gr (q := 10) (zd := 11) gM_M_42_0 rfl rfl d_M_isSet_7 rfl ?_
              refine Rj_iconst (q := 11) d_M_isSet_10 rfl ?_
              refine Rj_ia (q := 12) (v := ν 11 0) aM_11 rfl (by decide) rfl d_M_isSet_11 rfl ?_
              refine Rj_ishl (q := 13) (z := 2 ^ (ν 11 0).toNat) d_M_isSet_12 rfl (z_shl_p ⟨by omega, by omega⟩) ?_
              refine Rj_icmp_ge (q := 16) (t := 20) d_M_isSet_13 rfl (by decide) (by first | exact ha | exact hb | exact p2k.1) (by first | exact ha | exact hb | exact p2k.1) (fun c3_11_13 => ?_) (fun c3_11_13 => ?_)
              · refine Rj_iconst (q := 21) d_M_isSet_20 rfl ?_
                refine Rj_bret0 d_M_isSet_21 rfl ?_
                refine Rj_if_eq (q := 17) (t := 29) d_M_canPlan_14 rfl (by decide) (by decide) (fun _ => ?_) (fun c => absurd c (by decide))
                refine Rj_iconst (q := 30) d_M_canPlan_29 rfl ?_
                refine Rj_bret0 d_M_canPlan_30 rfl ?_
                refine Rj_if_eq (q := 9) (t := 13) d_M_row_6 rfl (by decide) (by decide) (fun _ => ?_) (fun c => absurd c (by decide))
                refine Rj_iconst (q := 14) d_M_row_13 rfl ?_
                refine Rj_iret d_M_row_14 rfl ?_
                exact ⟨sm_I rfl, hC1, kp0 _, kq0 _⟩
              · refine Rj_iconst (q := 17) d_M_isSet_16 rfl ?_
                refine Rj_goto (t := 21) d_M_isSet_17 (by decide) ?_
                refine Rj_bret1 d_M_isSet_21 rfl ?_
                refine Rj_if_eq (q := 17) (t := 29) d_M_canPlan_14 rfl (by decide) (by decide) (fun c => absurd c (by decide)) (fun _ => ?_)
                refine Rj_aload_n (q := 18) d_M_canPlan_17 rfl rfl rfl ?_
                refine Rj_iload_n (q := 19) d_M_canPlan_18 rfl rfl rfl ?_
                refine Rj_vo (q := 22) (z := y_M_isSet) (as := [vI b]) (rest := []) (la := [vA 0, vI b]) oM_0_M_isSet ml_M_388 mw_M_isSet mv_M_isSet rfl d_M_canPlan_19 rfl rfl rfl rfl rfl ?_
                refine Rj_iload_n (q := 1) d_M_isSet_0 rfl rfl rfl ?_
                refine Rj_if_lt (q := 4) (t := 20) d_M_isSet_1 rfl (by decide) (by first | assumption | exact ⟨by omega, by omega⟩) (fun c3_19_1 => ?_) (fun c3_19_1 => ?_)
                · refine Rj_iconst (q := 21) d_M_isSet_20 rfl ?_
                  refine Rj_bret0 d_M_isSet_21 rfl ?_
                  refine Rj_if_eq (q := 25) (t := 29) d_M_canPlan_22 rfl (by decide) (by decide) (fun _ => ?_) (fun c => absurd c (by decide))
                  refine Rj_iconst (q := 30) d_M_canPlan_29 rfl ?_
                  refine Rj_bret0 d_M_canPlan_30 rfl ?_
                  refine Rj_if_eq (q := 9) (t := 13) d_M_row_6 rfl (by decide) (by decide) (fun _ => ?_) (fun c => absurd c (by decide))
                  refine Rj_iconst (q := 14) d_M_row_13 rfl ?_
                  refine Rj_iret d_M_row_14 rfl ?_
                  exact ⟨sm_I rfl, hC1, kp0 _, kq0 _⟩
                · refine Rj_iload_n (q := 5) d_M_isSet_4 rfl rfl rfl ?_
                  refine Rj_iconst (q := 6) d_M_isSet_5 rfl ?_
                  refine Rj_aload_n (q := 7) d_M_isSet_6 rfl rfl rfl ?_
                  refine Rj_gr (q := 10) (zd := 11) gM_M_42_0 rfl rfl d_M_isSet_7 rfl ?_
                  refine Rj_iconst (q := 11) d_M_isSet_10 rfl ?_
                  refine Rj_ia (q := 12) (v := ν 11 0) aM_11 rfl (by decide) rfl d_M_isSet_11 rfl ?_
                  refine Rj_ishl (q := 13) (z := 2 ^ (ν 11 0).toNat) d_M_isSet_12 rfl (z_shl_p ⟨by omega, by omega⟩) ?_
                  refine Rj_icmp_ge (q := 16) (t := 20) d_M_isSet_13 rfl (by decide) (by first | exact ha | exact hb | exact p2k.1) (by first | exact ha | exact hb | exact p2k.1) (fun c3_19_13 => ?_) (fun c3_19_13 => ?_)
                  · refine Rj_iconst (q := 21) d_M_isSet_20 rfl ?_
                    refine Rj_bret0 d_M_isSet_21 rfl ?_
                    refine Rj_if_eq (q := 25) (t := 29) d_M_canPlan_22 rfl (by decide) (by decide) (fun _ => ?_) (fun c => absurd c (by decide))
                    refine Rj_iconst (q := 30) d_M_canPlan_29 rfl ?_
                    refine Rj_bret0 d_M_canPlan_30 rfl ?_
                    refine Rj_if_eq (q := 9) (t := 13) d_M_row_6 rfl (by decide) (by decide) (fun _ => ?_) (fun c => absurd c (by decide))
                    refine Rj_iconst (q := 14) d_M_row_13 rfl ?_
                    refine Rj_iret d_M_row_14 rfl ?_
                    exact ⟨sm_I rfl, hC1, kp0 _, kq0 _⟩
                  · refine Rj_iconst (q := 17) d_M_isSet_16 rfl ?_
                    refine Rj_goto (t := 21) d_M_isSet_17 (by decide) ?_
                    refine Rj_bret1 d_M_isSet_21 rfl ?_
                    refine Rj_if_eq (q := 25) (t := 29) d_M_canPlan_22 rfl (by decide) (by decide) (fun c => absurd c (by decide)) (fun _ => ?_)
                    refine Rj_iconst (q := 26) d_M_canPlan_25 rfl ?_
                    refine Rj_goto (t := 30) d_M_canPlan_26 (by decide) ?_
                    refine Rj_bret1 d_M_canPlan_30 rfl ?_
                    refine Rj_if_eq (q := 9) (t := 13) d_M_row_6 rfl (by decide) (by decide) (fun c => absurd c (by decide)) (fun _ => ?_)
                    refine Rj_iload_n (q := 10) d_M_row_9 rfl rfl rfl ?_
                    refine Rj_if_ge (q := 13) (t := 15) d_M_row_10 rfl (by decide) (by first | assumption | exact ⟨by omega, by omega⟩) (fun c10 => ?_) (fun c10 => ?_)
                    · refine Rj_aload_n (q := 16) d_M_row_15 rfl rfl rfl ?_
                      refine Rj_iload_n (q := 17) d_M_row_16 rfl rfl rfl ?_
                      refine Rj_iload_n (q := 18) d_M_row_17 rfl rfl rfl ?_
                      refine Rj_vo (q := 21) (z := y_M_plans) (as := [vI a, vI b]) (rest := []) (la := [vA 0, vI a, vI b]) oM_0_M_plans ml_M_436 mw_M_plans mv_M_plans rfl d_M_row_18 rfl rfl rfl rfl rfl ?_
                      refine s_M_plans (lk := ν 17) hM ⟨rfl, rfl, rfl, rfl, rfl⟩ rfl (by omega) (by omega) (by omega) (by omega) (fun m2 fm2 gm2 => ?_)
                      refine Rj_istore (q := 23) (ls' := [vA 0, vI a, vI b, vI c, vI (pln (ν 11 0) (acP (ν 11) (ν 14) (ν 15) (ν 16) (ν 12)) (resP (ν 11) (ν 14) (ν 15) (ν 16) (ν 12) (ν 17) a b) (dpP (ν 11) (ν 14) (ν 15) (ν 16) (ν 12) a b) 13 0 0 0)]) d_M_row_21 rfl (by decide) rfl ?_
                      refine Rj_iload (q := 25) d_M_row_23 rfl rfl ?_
                      refine Rj_if_ge (q := 28) (t := 33) d_M_row_25 rfl (by decide) (by first | assumption | exact ⟨by omega, by omega⟩) (fun c25 => ?_) (fun c25 => ?_)
                      · refine Rj_iload_n (q := 34) d_M_row_33 rfl rfl rfl ?_
                        refine Rj_iload (q := 36) d_M_row_34 rfl rfl ?_
                        refine Rj_icmp_ge (q := 39) (t := 48) d_M_row_36 rfl (by decide) (by first | assumption | exact ⟨by omega, by omega⟩) (by first | assumption | exact ⟨by omega, by omega⟩) (fun c36 => ?_) (fun c36 => ?_)
                        · refine Rj_bipush (q := 50) d_M_row_48 rfl (by decide +kernel) ?_
                          refine Rj_iret d_M_row_50 rfl ?_
                          exfalso; omega
                        · refine Rj_aload_n (q := 40) d_M_row_39 rfl rfl rfl ?_
                          refine Rj_gr (q := 43) (zd := 22) gM_M_80_0 rfl rfl d_M_row_40 rfl ?_
                          refine Rj_iload_n (q := 44) d_M_row_43 rfl rfl rfl ?_
                          refine Rj_ia (q := 45) (v := m2 22 c) aM_22 rfl (by omega) rfl d_M_row_44 rfl ?_
                          refine Rj_goto (t := 50) d_M_row_45 (by decide) ?_
                          refine Rj_iret d_M_row_50 rfl ?_
                          exfalso; omega
                      · refine Rj_iload (q := 30) d_M_row_28 rfl rfl ?_
                        refine Rj_goto (t := 50) d_M_row_30 (by decide) ?_
                        refine Rj_iret d_M_row_50 rfl ?_
                        exfalso; omega
                    · refine Rj_iconst (q := 14) d_M_row_13 rfl ?_
                      refine Rj_iret d_M_row_14 rfl ?_
                      exact ⟨sm_I rfl, hC1, kp0 _, kq0 _⟩
        · refine Rj_iload_n (q := 5) d_Sc_isSet_4 rfl rfl rfl ?_
          refine Rj_aload_n (q := 6) d_Sc_isSet_5 rfl rfl rfl ?_
          refine Rj_gi (q := 9) (ki := 0) (v := ν 11 0) gD_Sc_37_3 rfl rfl z2 d_Sc_isSet_6 rfl ?_
          refine Rj_iushr (q := 10) (z := b / 2 ^ (ν 11 0).toNat) d_Sc_isSet_9 rfl (z_ush0 ⟨by omega, by omega⟩ (by omega) (by omega)) ?_
          refine Rj_if_ne (q := 13) (t := 17) d_Sc_isSet_10 rfl (by decide) (by first | exact dp_32 (by omega) ha | exact dp_32 (by omega) hb) (fun c3_26_10 => ?_) (fun c3_26_10 => ?_)
          · refine Rj_iconst (q := 18) d_Sc_isSet_17 rfl ?_
            refine Rj_bret0 d_Sc_isSet_18 rfl ?_
            refine Rj_if_eq (q := 32) (t := 36) d_D_isPlanOf_29 rfl (by decide) (by decide) (fun _ => ?_) (fun c => absurd c (by decide))
            refine Rj_iconst (q := 37) d_D_isPlanOf_36 rfl ?_
            refine Rj_bret0 d_D_isPlanOf_37 rfl ?_
            refine Rj_if_eq (q := 9) (t := 13) d_D_row_6 rfl (by decide) (by decide) (fun _ => ?_) (fun c => absurd c (by decide))
            refine Rj_iconst (q := 14) d_D_row_13 rfl ?_
            refine Rj_iret d_D_row_14 rfl ?_
            refine Rj_aload_n (q := 1) d_M_row_0 rfl rfl rfl ?_
            refine Rj_iload_n (q := 2) d_M_row_1 rfl rfl rfl ?_
            refine Rj_iload_n (q := 3) d_M_row_2 rfl rfl rfl ?_
            refine Rj_vo (q := 6) (z := y_M_canPlan) (as := [vI a, vI b]) (rest := []) (la := [vA 0, vI a, vI b]) oM_0_M_canPlan ml_M_433 mw_M_canPlan mv_M_canPlan rfl d_M_row_3 rfl rfl rfl rfl rfl ?_
            refine Rj_aload_n (q := 1) d_M_canPlan_0 rfl rfl rfl ?_
            refine Rj_gr (q := 4) (zd := 11) gM_M_42_0 rfl rfl d_M_canPlan_1 rfl ?_
            refine Rj_iconst (q := 5) d_M_canPlan_4 rfl ?_
            refine Rj_ia (q := 6) (v := ν 11 0) aM_11 rfl (by decide) rfl d_M_canPlan_5 rfl ?_
            refine Rj_if_le (q := 9) (t := 29) d_M_canPlan_6 rfl (by decide) (by first | assumption | exact ⟨by omega, by omega⟩) (fun c3_6 => ?_) (fun c3_6 => ?_)
            · refine Rj_iconst (q := 30) d_M_canPlan_29 rfl ?_
              refine Rj_bret0 d_M_canPlan_30 rfl ?_
              refine Rj_if_eq (q := 9) (t := 13) d_M_row_6 rfl (by decide) (by decide) (fun _ => ?_) (fun c => absurd c (by decide))
              refine Rj_iconst (q := 14) d_M_row_13 rfl ?_
              refine Rj_iret d_M_row_14 rfl ?_
              exact ⟨sm_I rfl, hC1, kp0 _, kq0 _⟩
            · refine Rj_aload_n (q := 10) d_M_canPlan_9 rfl rfl rfl ?_
              refine Rj_iload_n (q := 11) d_M_canPlan_10 rfl rfl rfl ?_
              refine Rj_vo (q := 14) (z := y_M_isSet) (as := [vI a]) (rest := []) (la := [vA 0, vI a]) oM_0_M_isSet ml_M_388 mw_M_isSet mv_M_isSet rfl d_M_canPlan_11 rfl rfl rfl rfl rfl ?_
              refine Rj_iload_n (q := 1) d_M_isSet_0 rfl rfl rfl ?_
              refine Rj_if_lt (q := 4) (t := 20) d_M_isSet_1 rfl (by decide) (by first | assumption | exact ⟨by omega, by omega⟩) (fun c3_11_1 => ?_) (fun c3_11_1 => ?_)
              · refine Rj_iconst (q := 21) d_M_isSet_20 rfl ?_
                refine Rj_bret0 d_M_isSet_21 rfl ?_
                refine Rj_if_eq (q := 17) (t := 29) d_M_canPlan_14 rfl (by decide) (by decide) (fun _ => ?_) (fun c => absurd c (by decide))
                refine Rj_iconst (q := 30) d_M_canPlan_29 rfl ?_
                refine Rj_bret0 d_M_canPlan_30 rfl ?_
                refine Rj_if_eq (q := 9) (t := 13) d_M_row_6 rfl (by decide) (by decide) (fun _ => ?_) (fun c => absurd c (by decide))
                refine Rj_iconst (q := 14) d_M_row_13 rfl ?_
                refine Rj_iret d_M_row_14 rfl ?_
                exact ⟨sm_I rfl, hC1, kp0 _, kq0 _⟩
              · refine Rj_iload_n (q := 5) d_M_isSet_4 rfl rfl rfl ?_
                refine Rj_iconst (q := 6) d_M_isSet_5 rfl ?_
                refine Rj_aload_n (q := 7) d_M_isSet_6 rfl rfl rfl ?_
                refine Rj_gr (q := 10) (zd := 11) gM_M_42_0 rfl rfl d_M_isSet_7 rfl ?_
                refine Rj_iconst (q := 11) d_M_isSet_10 rfl ?_
                refine Rj_ia (q := 12) (v := ν 11 0) aM_11 rfl (by decide) rfl d_M_isSet_11 rfl ?_
                refine Rj_ishl (q := 13) (z := 2 ^ (ν 11 0).toNat) d_M_isSet_12 rfl (z_shl_p ⟨by omega, by omega⟩) ?_
                refine Rj_icmp_ge (q := 16) (t := 20) d_M_isSet_13 rfl (by decide) (by first | exact ha | exact hb | exact p2k.1) (by first | exact ha | exact hb | exact p2k.1) (fun c3_11_13 => ?_) (fun c3_11_13 => ?_)
                · refine Rj_iconst (q := 21) d_M_isSet_20 rfl ?_
                  refine Rj_bret0 d_M_isSet_21 rfl ?_
                  refine Rj_if_eq (q := 17) (t := 29) d_M_canPlan_14 rfl (by decide) (by decide) (fun _ => ?_) (fun c => absurd c (by decide))
                  refine Rj_iconst (q := 30) d_M_canPlan_29 rfl ?_
                  refine Rj_bret0 d_M_canPlan_30 rfl ?_
                  refine Rj_if_eq (q := 9) (t := 13) d_M_row_6 rfl (by decide) (by decide) (fun _ => ?_) (fun c => absurd c (by decide))
                  refine Rj_iconst (q := 14) d_M_row_13 rfl ?_
                  refine Rj_iret d_M_row_14 rfl ?_
                  exact ⟨sm_I rfl, hC1, kp0 _, kq0 _⟩
                · refine Rj_iconst (q := 17) d_M_isSet_16 rfl ?_
                  refine Rj_goto (t := 21) d_M_isSet_17 (by decide) ?_
                  refine Rj_bret1 d_M_isSet_21 rfl ?_
                  refine Rj_if_eq (q := 17) (t := 29) d_M_canPlan_14 rfl (by decide) (by decide) (fun c => absurd c (by decide)) (fun _ => ?_)
                  refine Rj_aload_n (q := 18) d_M_canPlan_17 rfl rfl rfl ?_
                  refine Rj_iload_n (q := 19) d_M_canPlan_18 rfl rfl rfl ?_
                  refine Rj_vo (q := 22) (z := y_M_isSet) (as := [vI b]) (rest := []) (la := [vA 0, vI b]) oM_0_M_isSet ml_M_388 mw_M_isSet mv_M_isSet rfl d_M_canPlan_19 rfl rfl rfl rfl rfl ?_
                  refine Rj_iload_n (q := 1) d_M_isSet_0 rfl rfl rfl ?_
                  refine Rj_if_lt (q := 4) (t := 20) d_M_isSet_1 rfl (by decide) (by first | assumption | exact ⟨by omega, by omega⟩) (fun c3_19_1 => ?_) (fun c3_19_1 => ?_)
                  · refine Rj_iconst (q := 21) d_M_isSet_20 rfl ?_
                    refine Rj_bret0 d_M_isSet_21 rfl ?_
                    refine Rj_if_eq (q := 25) (t := 29) d_M_canPlan_22 rfl (by decide) (by decide) (fun _ => ?_) (fun c => absurd c (by decide))
                    refine Rj_iconst (q := 30) d_M_canPlan_29 rfl ?_
                    refine Rj_bret0 d_M_canPlan_30 rfl ?_
                    refine Rj_if_eq (q := 9) (t := 13) d_M_row_6 rfl (by decide) (by decide) (fun _ => ?_) (fun c => absurd c (by decide))
                    refine Rj_iconst (q := 14) d_M_row_13 rfl ?_
                    refine Rj_iret d_M_row_14 rfl ?_
                    exact ⟨sm_I rfl, hC1, kp0 _, kq0 _⟩
                  · refine Rj_iload_n (q := 5) d_M_isSet_4 rfl rfl rfl ?_
                    refine Rj_iconst (q := 6) d_M_isSet_5 rfl ?_
                    refine Rj_aload_n (q := 7) d_M_isSet_6 rfl rfl rfl ?_
                    refine Rj_gr (q := 10) (zd := 11) gM_M_42_0 rfl rfl d_M_isSet_7 rfl ?_
                    refine Rj_iconst (q := 11) d_M_isSet_10 rfl ?_
                    refine Rj_ia (q := 12) (v := ν 11 0) aM_11 rfl (by decide) rfl d_M_isSet_11 rfl ?_
                    refine Rj_ishl (q := 13) (z := 2 ^ (ν 11 0).toNat) d_M_isSet_12 rfl (z_shl_p ⟨by omega, by omega⟩) ?_
                    refine Rj_icmp_ge (q := 16) (t := 20) d_M_isSet_13 rfl (by decide) (by first | exact ha | exact hb | exact p2k.1) (by first | exact ha | exact hb | exact p2k.1) (fun c3_19_13 => ?_) (fun c3_19_13 => ?_)
                    · refine Rj_iconst (q := 21) d_M_isSet_20 rfl ?_
                      refine Rj_bret0 d_M_isSet_21 rfl ?_
                      refine Rj_if_eq (q := 25) (t := 29) d_M_canPlan_22 rfl (by decide) (by decide) (fun _ => ?_) (fun c => absurd c (by decide))
                      refine Rj_iconst (q := 30) d_M_canPlan_29 rfl ?_
                      refine Rj_bret0 d_M_canPlan_30 rfl ?_
                      refine Rj_if_eq (q := 9) (t := 13) d_M_row_6 rfl (by decide) (by decide) (fun _ => ?_) (fun c => absurd c (by decide))
                      refine Rj_iconst (q := 14) d_M_row_13 rfl ?_
                      refine Rj_iret d_M_row_14 rfl ?_
                      exact ⟨sm_I rfl, hC1, kp0 _, kq0 _⟩
                    · refine Rj_iconst (q := 17) d_M_isSet_16 rfl ?_
                      refine Rj_goto (t := 21) d_M_isSet_17 (by decide) ?_
                      refine Rj_bret1 d_M_isSet_21 rfl ?_
                      refine Rj_if_eq (q := 25) (t := 29) d_M_canPlan_22 rfl (by decide) (by decide) (fun c => absurd c (by decide)) (fun _ => ?_)
                      refine Rj_iconst (q := 26) d_M_canPlan_25 rfl ?_
                      refine Rj_goto (t := 30) d_M_canPlan_26 (by decide) ?_
                      refine Rj_bret1 d_M_canPlan_30 rfl ?_
                      refine Rj_if_eq (q := 9) (t := 13) d_M_row_6 rfl (by decide) (by decide) (fun c => absurd c (by decide)) (fun _ => ?_)
                      refine Rj_iload_n (q := 10) d_M_row_9 rfl rfl rfl ?_
                      refine Rj_if_ge (q := 13) (t := 15) d_M_row_10 rfl (by decide) (by first | assumption | exact ⟨by omega, by omega⟩) (fun c10 => ?_) (fun c10 => ?_)
                      · refine Rj_aload_n (q := 16) d_M_row_15 rfl rfl rfl ?_
                        refine Rj_iload_n (q := 17) d_M_row_16 rfl rfl rfl ?_
                        refine Rj_iload_n (q := 18) d_M_row_17 rfl rfl rfl ?_
                        refine Rj_vo (q := 21) (z := y_M_plans) (as := [vI a, vI b]) (rest := []) (la := [vA 0, vI a, vI b]) oM_0_M_plans ml_M_436 mw_M_plans mv_M_plans rfl d_M_row_18 rfl rfl rfl rfl rfl ?_
                        refine s_M_plans (lk := ν 17) hM ⟨rfl, rfl, rfl, rfl, rfl⟩ rfl (by omega) (by omega) (by omega) (by omega) (fun m2 fm2 gm2 => ?_)
                        refine Rj_istore (q := 23) (ls' := [vA 0, vI a, vI b, vI c, vI (pln (ν 11 0) (acP (ν 11) (ν 14) (ν 15) (ν 16) (ν 12)) (resP (ν 11) (ν 14) (ν 15) (ν 16) (ν 12) (ν 17) a b) (dpP (ν 11) (ν 14) (ν 15) (ν 16) (ν 12) a b) 13 0 0 0)]) d_M_row_21 rfl (by decide) rfl ?_
                        refine Rj_iload (q := 25) d_M_row_23 rfl rfl ?_
                        refine Rj_if_ge (q := 28) (t := 33) d_M_row_25 rfl (by decide) (by first | assumption | exact ⟨by omega, by omega⟩) (fun c25 => ?_) (fun c25 => ?_)
                        · refine Rj_iload_n (q := 34) d_M_row_33 rfl rfl rfl ?_
                          refine Rj_iload (q := 36) d_M_row_34 rfl rfl ?_
                          refine Rj_icmp_ge (q := 39) (t := 48) d_M_row_36 rfl (by decide) (by first | assumption | exact ⟨by omega, by omega⟩) (by first | assumption | exact ⟨by omega, by omega⟩) (fun c36 => ?_) (fun c36 => ?_)
                          · refine Rj_bipush (q := 50) d_M_row_48 rfl (by decide +kernel) ?_
                            refine Rj_iret d_M_row_50 rfl ?_
                            exfalso; omega
                          · refine Rj_aload_n (q := 40) d_M_row_39 rfl rfl rfl ?_
                            refine Rj_gr (q := 43) (zd := 22) gM_M_80_0 rfl rfl d_M_row_40 rfl ?_
                            refine Rj_iload_n (q := 44) d_M_row_43 rfl rfl rfl ?_
                            refine Rj_ia (q := 45) (v := m2 22 c) aM_22 rfl (by omega) rfl d_M_row_44 rfl ?_
                            refine Rj_goto (t := 50) d_M_row_45 (by decide) ?_
                            refine Rj_iret d_M_row_50 rfl ?_
                            exfalso; omega
                        · refine Rj_iload (q := 30) d_M_row_28 rfl rfl ?_
                          refine Rj_goto (t := 50) d_M_row_30 (by decide) ?_
                          refine Rj_iret d_M_row_50 rfl ?_
                          exfalso; omega
                      · refine Rj_iconst (q := 14) d_M_row_13 rfl ?_
                        refine Rj_iret d_M_row_14 rfl ?_
                        exact ⟨sm_I rfl, hC1, kp0 _, kq0 _⟩
          · refine Rj_iconst (q := 14) d_Sc_isSet_13 rfl ?_
            refine Rj_goto (t := 18) d_Sc_isSet_14 (by decide) ?_
            refine Rj_bret1 d_Sc_isSet_18 rfl ?_
            refine Rj_if_eq (q := 32) (t := 36) d_D_isPlanOf_29 rfl (by decide) (by decide) (fun c => absurd c (by decide)) (fun _ => ?_)
            refine Rj_iconst (q := 33) d_D_isPlanOf_32 rfl ?_
            refine Rj_goto (t := 37) d_D_isPlanOf_33 (by decide) ?_
            refine Rj_bret1 d_D_isPlanOf_37 rfl ?_
            refine Rj_if_eq (q := 9) (t := 13) d_D_row_6 rfl (by decide) (by decide) (fun c => absurd c (by decide)) (fun _ => ?_)
            refine Rj_iload_n (q := 10) d_D_row_9 rfl rfl rfl ?_
            refine Rj_if_ge (q := 13) (t := 15) d_D_row_10 rfl (by decide) (by first | assumption | exact ⟨by omega, by omega⟩) (fun c10 => ?_) (fun c10 => ?_)
            · refine Rj_aload_n (q := 16) d_D_row_15 rfl rfl rfl ?_
              refine Rj_gr (q := 19) (zd := 74) gD_D_61_0 rfl rfl d_D_row_16 rfl ?_
              refine Rj_iload_n (q := 20) d_D_row_19 rfl rfl rfl ?_
              refine Rj_iload_n (q := 21) d_D_row_20 rfl rfl rfl ?_
              refine Rj_iload_n (q := 22) d_D_row_21 rfl rfl rfl ?_
              refine Rj_vo (q := 25) (z := y_Pl_solve) (as := [vI a, vI b, vI c]) (rest := []) (la := [vA 74, vI a, vI b, vI c]) oD_74_Pl_solve ml_D_232 mw_Pl_solve mv_Pl_solve rfl d_D_row_22 rfl rfl rfl rfl rfl ?_
              obtain ⟨w3, w5, w6, w8⟩ := hC.w
              have p4 := p2k.2.2
              have w31 := w3.1
              have w33 := w3.2.2.1
              refine s_solve h hSB ⟨by omega, w3.2.1⟩ ⟨by omega, w3.2.2.2⟩ (by omega) (by omega) ⟨by omega, hc.2⟩ (fun m fm gm => ?_)
              have hz := True.intro
              refine Rj_istore (q := 27) (ls' := [vA 0, vI a, vI b, vI c, vI (pln (ν 11 0) (acP (ν 11) (ν 14) (ν 15) (ν 16) (ν 12)) (resP (ν 11) (ν 14) (ν 15) (ν 16) (ν 12) (ν 17) a b) (dpP (ν 11) (ν 14) (ν 15) (ν 16) (ν 12) a b) 13 0 0 0)]) d_D_row_25 rfl (by decide) rfl ?_
              refine Rj_iload (q := 29) d_D_row_27 rfl rfl ?_
              refine Rj_if_ge (q := 32) (t := 37) d_D_row_29 rfl (by decide) (by first | assumption | exact ⟨by omega, by omega⟩) (fun c29 => ?_) (fun c29 => ?_)
              · refine Rj_aload_n (q := 38) d_D_row_37 rfl rfl rfl ?_
                refine Rj_gr (q := 41) (zd := 74) gD_D_61_0 rfl rfl d_D_row_38 rfl ?_
                refine Rj_gi (q := 44) (ki := 8) (v := m 74 8) gD_D_236_74 rfl rfl rfl d_D_row_41 rfl ?_
                refine Rj_iret d_D_row_44 rfl ?_
                refine Rj_aload_n (q := 1) d_M_row_0 rfl rfl rfl ?_
                refine Rj_iload_n (q := 2) d_M_row_1 rfl rfl rfl ?_
                refine Rj_iload_n (q := 3) d_M_row_2 rfl rfl rfl ?_
                refine Rj_vo (q := 6) (z := y_M_canPlan) (as := [vI a, vI b]) (rest := []) (la := [vA 0, vI a, vI b]) oM_0_M_canPlan ml_M_433 mw_M_canPlan mv_M_canPlan rfl d_M_row_3 rfl rfl rfl rfl rfl ?_
                refine Rj_aload_n (q := 1) d_M_canPlan_0 rfl rfl rfl ?_
                refine Rj_gr (q := 4) (zd := 11) gM_M_42_0 rfl rfl d_M_canPlan_1 rfl ?_
                refine Rj_iconst (q := 5) d_M_canPlan_4 rfl ?_
                refine Rj_ia (q := 6) (v := ν 11 0) aM_11 rfl (by decide) rfl d_M_canPlan_5 rfl ?_
                refine Rj_if_le (q := 9) (t := 29) d_M_canPlan_6 rfl (by decide) (by first | assumption | exact ⟨by omega, by omega⟩) (fun c3_6 => ?_) (fun c3_6 => ?_)
                · refine Rj_iconst (q := 30) d_M_canPlan_29 rfl ?_
                  refine Rj_bret0 d_M_canPlan_30 rfl ?_
                  refine Rj_if_eq (q := 9) (t := 13) d_M_row_6 rfl (by decide) (by decide) (fun _ => ?_) (fun c => absurd c (by decide))
                  refine Rj_iconst (q := 14) d_M_row_13 rfl ?_
                  refine Rj_iret d_M_row_14 rfl ?_
                  exfalso; omega
                · refine Rj_aload_n (q := 10) d_M_canPlan_9 rfl rfl rfl ?_
                  refine Rj_iload_n (q := 11) d_M_canPlan_10 rfl rfl rfl ?_
                  refine Rj_vo (q := 14) (z := y_M_isSet) (as := [vI a]) (rest := []) (la := [vA 0, vI a]) oM_0_M_isSet ml_M_388 mw_M_isSet mv_M_isSet rfl d_M_canPlan_11 rfl rfl rfl rfl rfl ?_
                  refine Rj_iload_n (q := 1) d_M_isSet_0 rfl rfl rfl ?_
                  refine Rj_if_lt (q := 4) (t := 20) d_M_isSet_1 rfl (by decide) (by first | assumption | exact ⟨by omega, by omega⟩) (fun c3_11_1 => ?_) (fun c3_11_1 => ?_)
                  · refine Rj_iconst (q := 21) d_M_isSet_20 rfl ?_
                    refine Rj_bret0 d_M_isSet_21 rfl ?_
                    refine Rj_if_eq (q := 17) (t := 29) d_M_canPlan_14 rfl (by decide) (by decide) (fun _ => ?_) (fun c => absurd c (by decide))
                    refine Rj_iconst (q := 30) d_M_canPlan_29 rfl ?_
                    refine Rj_bret0 d_M_canPlan_30 rfl ?_
                    refine Rj_if_eq (q := 9) (t := 13) d_M_row_6 rfl (by decide) (by decide) (fun _ => ?_) (fun c => absurd c (by decide))
                    refine Rj_iconst (q := 14) d_M_row_13 rfl ?_
                    refine Rj_iret d_M_row_14 rfl ?_
                    exfalso; omega
                  · refine Rj_iload_n (q := 5) d_M_isSet_4 rfl rfl rfl ?_
                    refine Rj_iconst (q := 6) d_M_isSet_5 rfl ?_
                    refine Rj_aload_n (q := 7) d_M_isSet_6 rfl rfl rfl ?_
                    refine Rj_gr (q := 10) (zd := 11) gM_M_42_0 rfl rfl d_M_isSet_7 rfl ?_
                    refine Rj_iconst (q := 11) d_M_isSet_10 rfl ?_
                    refine Rj_ia (q := 12) (v := ν 11 0) aM_11 rfl (by decide) rfl d_M_isSet_11 rfl ?_
                    refine Rj_ishl (q := 13) (z := 2 ^ (ν 11 0).toNat) d_M_isSet_12 rfl (z_shl_p ⟨by omega, by omega⟩) ?_
                    refine Rj_icmp_ge (q := 16) (t := 20) d_M_isSet_13 rfl (by decide) (by first | exact ha | exact hb | exact p2k.1) (by first | exact ha | exact hb | exact p2k.1) (fun c3_11_13 => ?_) (fun c3_11_13 => ?_)
                    · refine Rj_iconst (q := 21) d_M_isSet_20 rfl ?_
                      refine Rj_bret0 d_M_isSet_21 rfl ?_
                      refine Rj_if_eq (q := 17) (t := 29) d_M_canPlan_14 rfl (by decide) (by decide) (fun _ => ?_) (fun c => absurd c (by decide))
                      refine Rj_iconst (q := 30) d_M_canPlan_29 rfl ?_
                      refine Rj_bret0 d_M_canPlan_30 rfl ?_
                      refine Rj_if_eq (q := 9) (t := 13) d_M_row_6 rfl (by decide) (by decide) (fun _ => ?_) (fun c => absurd c (by decide))
                      refine Rj_iconst (q := 14) d_M_row_13 rfl ?_
                      refine Rj_iret d_M_row_14 rfl ?_
                      exfalso; omega
                    · refine Rj_iconst (q := 17) d_M_isSet_16 rfl ?_
                      refine Rj_goto (t := 21) d_M_isSet_17 (by decide) ?_
                      refine Rj_bret1 d_M_isSet_21 rfl ?_
                      refine Rj_if_eq (q := 17) (t := 29) d_M_canPlan_14 rfl (by decide) (by decide) (fun c => absurd c (by decide)) (fun _ => ?_)
                      refine Rj_aload_n (q := 18) d_M_canPlan_17 rfl rfl rfl ?_
                      refine Rj_iload_n (q := 19) d_M_canPlan_18 rfl rfl rfl ?_
                      refine Rj_vo (q := 22) (z := y_M_isSet) (as := [vI b]) (rest := []) (la := [vA 0, vI b]) oM_0_M_isSet ml_M_388 mw_M_isSet mv_M_isSet rfl d_M_canPlan_19 rfl rfl rfl rfl rfl ?_
                      refine Rj_iload_n (q := 1) d_M_isSet_0 rfl rfl rfl ?_
                      refine Rj_if_lt (q := 4) (t := 20) d_M_isSet_1 rfl (by decide) (by first | assumption | exact ⟨by omega, by omega⟩) (fun c3_19_1 => ?_) (fun c3_19_1 => ?_)
                      · refine Rj_iconst (q := 21) d_M_isSet_20 rfl ?_
                        refine Rj_bret0 d_M_isSet_21 rfl ?_
                        refine Rj_if_eq (q := 25) (t := 29) d_M_canPlan_22 rfl (by decide) (by decide) (fun _ => ?_) (fun c => absurd c (by decide))
                        refine Rj_iconst (q := 30) d_M_canPlan_29 rfl ?_
                        refine Rj_bret0 d_M_canPlan_30 rfl ?_
                        refine Rj_if_eq (q := 9) (t := 13) d_M_row_6 rfl (by decide) (by decide) (fun _ => ?_) (fun c => absurd c (by decide))
                        refine Rj_iconst (q := 14) d_M_row_13 rfl ?_
                        refine Rj_iret d_M_row_14 rfl ?_
                        exfalso; omega
                      · refine Rj_iload_n (q := 5) d_M_isSet_4 rfl rfl rfl ?_
                        refine Rj_iconst (q := 6) d_M_isSet_5 rfl ?_
                        refine Rj_aload_n (q := 7) d_M_isSet_6 rfl rfl rfl ?_
                        refine Rj_gr (q := 10) (zd := 11) gM_M_42_0 rfl rfl d_M_isSet_7 rfl ?_
                        refine Rj_iconst (q := 11) d_M_isSet_10 rfl ?_
                        refine Rj_ia (q := 12) (v := ν 11 0) aM_11 rfl (by decide) rfl d_M_isSet_11 rfl ?_
                        refine Rj_ishl (q := 13) (z := 2 ^ (ν 11 0).toNat) d_M_isSet_12 rfl (z_shl_p ⟨by omega, by omega⟩) ?_
                        refine Rj_icmp_ge (q := 16) (t := 20) d_M_isSet_13 rfl (by decide) (by first | exact ha | exact hb | exact p2k.1) (by first | exact ha | exact hb | exact p2k.1) (fun c3_19_13 => ?_) (fun c3_19_13 => ?_)
                        · refine Rj_iconst (q := 21) d_M_isSet_20 rfl ?_
                          refine Rj_bret0 d_M_isSet_21 rfl ?_
                          refine Rj_if_eq (q := 25) (t := 29) d_M_canPlan_22 rfl (by decide) (by decide) (fun _ => ?_) (fun c => absurd c (by decide))
                          refine Rj_iconst (q := 30) d_M_canPlan_29 rfl ?_
                          refine Rj_bret0 d_M_canPlan_30 rfl ?_
                          refine Rj_if_eq (q := 9) (t := 13) d_M_row_6 rfl (by decide) (by decide) (fun _ => ?_) (fun c => absurd c (by decide))
                          refine Rj_iconst (q := 14) d_M_row_13 rfl ?_
                          refine Rj_iret d_M_row_14 rfl ?_
                          exfalso; omega
                        · refine Rj_iconst (q := 17) d_M_isSet_16 rfl ?_
                          refine Rj_goto (t := 21) d_M_isSet_17 (by decide) ?_
                          refine Rj_bret1 d_M_isSet_21 rfl ?_
                          refine Rj_if_eq (q := 25) (t := 29) d_M_canPlan_22 rfl (by decide) (by decide) (fun c => absurd c (by decide)) (fun _ => ?_)
                          refine Rj_iconst (q := 26) d_M_canPlan_25 rfl ?_
                          refine Rj_goto (t := 30) d_M_canPlan_26 (by decide) ?_
                          refine Rj_bret1 d_M_canPlan_30 rfl ?_
                          refine Rj_if_eq (q := 9) (t := 13) d_M_row_6 rfl (by decide) (by decide) (fun c => absurd c (by decide)) (fun _ => ?_)
                          refine Rj_iload_n (q := 10) d_M_row_9 rfl rfl rfl ?_
                          refine Rj_if_ge (q := 13) (t := 15) d_M_row_10 rfl (by decide) (by first | assumption | exact ⟨by omega, by omega⟩) (fun c10 => ?_) (fun c10 => ?_)
                          · refine Rj_aload_n (q := 16) d_M_row_15 rfl rfl rfl ?_
                            refine Rj_iload_n (q := 17) d_M_row_16 rfl rfl rfl ?_
                            refine Rj_iload_n (q := 18) d_M_row_17 rfl rfl rfl ?_
                            refine Rj_vo (q := 21) (z := y_M_plans) (as := [vI a, vI b]) (rest := []) (la := [vA 0, vI a, vI b]) oM_0_M_plans ml_M_436 mw_M_plans mv_M_plans rfl d_M_row_18 rfl rfl rfl rfl rfl ?_
                            refine s_M_plans (lk := ν 17) hM ⟨rfl, rfl, rfl, rfl, rfl⟩ rfl (by omega) (by omega) (by omega) (by omega) (fun m2 fm2 gm2 => ?_)
                            refine Rj_istore (q := 23) (ls' := [vA 0, vI a, vI b, vI c, vI (pln (ν 11 0) (acP (ν 11) (ν 14) (ν 15) (ν 16) (ν 12)) (resP (ν 11) (ν 14) (ν 15) (ν 16) (ν 12) (ν 17) a b) (dpP (ν 11) (ν 14) (ν 15) (ν 16) (ν 12) a b) 13 0 0 0)]) d_M_row_21 rfl (by decide) rfl ?_
                            refine Rj_iload (q := 25) d_M_row_23 rfl rfl ?_
                            refine Rj_if_ge (q := 28) (t := 33) d_M_row_25 rfl (by decide) (by first | assumption | exact ⟨by omega, by omega⟩) (fun c25 => ?_) (fun c25 => ?_)
                            · refine Rj_iload_n (q := 34) d_M_row_33 rfl rfl rfl ?_
                              refine Rj_iload (q := 36) d_M_row_34 rfl rfl ?_
                              refine Rj_icmp_ge (q := 39) (t := 48) d_M_row_36 rfl (by decide) (by first | assumption | exact ⟨by omega, by omega⟩) (by first | assumption | exact ⟨by omega, by omega⟩) (fun c36 => ?_) (fun c36 => ?_)
                              · refine Rj_bipush (q := 50) d_M_row_48 rfl (by decide +kernel) ?_
                                refine Rj_iret d_M_row_50 rfl ?_
                                exact ⟨sm_I (by rw [gm (by omega)]; exact (prw_past (by omega) (by omega)).symm), hC.idle (fun c i q => fm c i (by unfold Wso; omega)) (fun c i q => fm2 c i (by unfold cqm at q; unfold Wpl; omega)), fun c i q => fm c i (by unfold Wso; omega), fun c i q => fm2 c i (by unfold Wpl; omega)⟩
                              · refine Rj_aload_n (q := 40) d_M_row_39 rfl rfl rfl ?_
                                refine Rj_gr (q := 43) (zd := 22) gM_M_80_0 rfl rfl d_M_row_40 rfl ?_
                                refine Rj_iload_n (q := 44) d_M_row_43 rfl rfl rfl ?_
                                refine Rj_ia (q := 45) (v := m2 22 c) aM_22 rfl (by omega) rfl d_M_row_44 rfl ?_
                                refine Rj_goto (t := 50) d_M_row_45 (by decide) ?_
                                refine Rj_iret d_M_row_50 rfl ?_
                                exact ⟨sm_I (by rw [gm (by omega), gm2 c (by omega) (by omega)]), hC.idle (fun c i q => fm c i (by unfold Wso; omega)) (fun c i q => fm2 c i (by unfold cqm at q; unfold Wpl; omega)), fun c i q => fm c i (by unfold Wso; omega), fun c i q => fm2 c i (by unfold Wpl; omega)⟩
                            · refine Rj_iload (q := 30) d_M_row_28 rfl rfl ?_
                              refine Rj_goto (t := 50) d_M_row_30 (by decide) ?_
                              refine Rj_iret d_M_row_50 rfl ?_
                              exfalso; omega
                          · refine Rj_iconst (q := 14) d_M_row_13 rfl ?_
                            refine Rj_iret d_M_row_14 rfl ?_
                            exfalso; omega
              · refine Rj_iload (q := 34) d_D_row_32 rfl rfl ?_
                refine Rj_goto (t := 44) d_D_row_34 (by decide) ?_
                refine Rj_iret d_D_row_44 rfl ?_
                refine Rj_aload_n (q := 1) d_M_row_0 rfl rfl rfl ?_
                refine Rj_iload_n (q := 2) d_M_row_1 rfl rfl rfl ?_
                refine Rj_iload_n (q := 3) d_M_row_2 rfl rfl rfl ?_
                refine Rj_vo (q := 6) (z := y_M_canPlan) (as := [vI a, vI b]) (rest := []) (la := [vA 0, vI a, vI b]) oM_0_M_canPlan ml_M_433 mw_M_canPlan mv_M_canPlan rfl d_M_row_3 rfl rfl rfl rfl rfl ?_
                refine Rj_aload_n (q := 1) d_M_canPlan_0 rfl rfl rfl ?_
                refine Rj_gr (q := 4) (zd := 11) gM_M_42_0 rfl rfl d_M_canPlan_1 rfl ?_
                refine Rj_iconst (q := 5) d_M_canPlan_4 rfl ?_
                refine Rj_ia (q := 6) (v := ν 11 0) aM_11 rfl (by decide) rfl d_M_canPlan_5 rfl ?_
                refine Rj_if_le (q := 9) (t := 29) d_M_canPlan_6 rfl (by decide) (by first | assumption | exact ⟨by omega, by omega⟩) (fun c3_6 => ?_) (fun c3_6 => ?_)
                · refine Rj_iconst (q := 30) d_M_canPlan_29 rfl ?_
                  refine Rj_bret0 d_M_canPlan_30 rfl ?_
                  refine Rj_if_eq (q := 9) (t := 13) d_M_row_6 rfl (by decide) (by decide) (fun _ => ?_) (fun c => absurd c (by decide))
                  refine Rj_iconst (q := 14) d_M_row_13 rfl ?_
                  refine Rj_iret d_M_row_14 rfl ?_
                  exfalso; omega
                · refine Rj_aload_n (q := 10) d_M_canPlan_9 rfl rfl rfl ?_
                  refine Rj_iload_n (q := 11) d_M_canPlan_10 rfl rfl rfl ?_
                  refine Rj_vo (q := 14) (z := y_M_isSet) (as := [vI a]) (rest := []) (la := [vA 0, vI a]) oM_0_M_isSet ml_M_388 mw_M_isSet mv_M_isSet rfl d_M_canPlan_11 rfl rfl rfl rfl rfl ?_
                  refine Rj_iload_n (q := 1) d_M_isSet_0 rfl rfl rfl ?_
                  refine Rj_if_lt (q := 4) (t := 20) d_M_isSet_1 rfl (by decide) (by first | assumption | exact ⟨by omega, by omega⟩) (fun c3_11_1 => ?_) (fun c3_11_1 => ?_)
                  · refine Rj_iconst (q := 21) d_M_isSet_20 rfl ?_
                    refine Rj_bret0 d_M_isSet_21 rfl ?_
                    refine Rj_if_eq (q := 17) (t := 29) d_M_canPlan_14 rfl (by decide) (by decide) (fun _ => ?_) (fun c => absurd c (by decide))
                    refine Rj_iconst (q := 30) d_M_canPlan_29 rfl ?_
                    refine Rj_bret0 d_M_canPlan_30 rfl ?_
                    refine Rj_if_eq (q := 9) (t := 13) d_M_row_6 rfl (by decide) (by decide) (fun _ => ?_) (fun c => absurd c (by decide))
                    refine Rj_iconst (q := 14) d_M_row_13 rfl ?_
                    refine Rj_iret d_M_row_14 rfl ?_
                    exfalso; omega
                  · refine Rj_iload_n (q := 5) d_M_isSet_4 rfl rfl rfl ?_
                    refine Rj_iconst (q := 6) d_M_isSet_5 rfl ?_
                    refine Rj_aload_n (q := 7) d_M_isSet_6 rfl rfl rfl ?_
                    refine Rj_gr (q := 10) (zd := 11) gM_M_42_0 rfl rfl d_M_isSet_7 rfl ?_
                    refine Rj_iconst (q := 11) d_M_isSet_10 rfl ?_
                    refine Rj_ia (q := 12) (v := ν 11 0) aM_11 rfl (by decide) rfl d_M_isSet_11 rfl ?_
                    refine Rj_ishl (q := 13) (z := 2 ^ (ν 11 0).toNat) d_M_isSet_12 rfl (z_shl_p ⟨by omega, by omega⟩) ?_
                    refine Rj_icmp_ge (q := 16) (t := 20) d_M_isSet_13 rfl (by decide) (by first | exact ha | exact hb | exact p2k.1) (by first | exact ha | exact hb | exact p2k.1) (fun c3_11_13 => ?_) (fun c3_11_13 => ?_)
                    · refine Rj_iconst (q := 21) d_M_isSet_20 rfl ?_
                      refine Rj_bret0 d_M_isSet_21 rfl ?_
                      refine Rj_if_eq (q := 17) (t := 29) d_M_canPlan_14 rfl (by decide) (by decide) (fun _ => ?_) (fun c => absurd c (by decide))
                      refine Rj_iconst (q := 30) d_M_canPlan_29 rfl ?_
                      refine Rj_bret0 d_M_canPlan_30 rfl ?_
                      refine Rj_if_eq (q := 9) (t := 13) d_M_row_6 rfl (by decide) (by decide) (fun _ => ?_) (fun c => absurd c (by decide))
                      refine Rj_iconst (q := 14) d_M_row_13 rfl ?_
                      refine Rj_iret d_M_row_14 rfl ?_
                      exfalso; omega
                    · refine Rj_iconst (q := 17) d_M_isSet_16 rfl ?_
                      refine Rj_goto (t := 21) d_M_isSet_17 (by decide) ?_
                      refine Rj_bret1 d_M_isSet_21 rfl ?_
                      refine Rj_if_eq (q := 17) (t := 29) d_M_canPlan_14 rfl (by decide) (by decide) (fun c => absurd c (by decide)) (fun _ => ?_)
                      refine Rj_aload_n (q := 18) d_M_canPlan_17 rfl rfl rfl ?_
                      refine Rj_iload_n (q := 19) d_M_canPlan_18 rfl rfl rfl ?_
                      refine Rj_vo (q := 22) (z := y_M_isSet) (as := [vI b]) (rest := []) (la := [vA 0, vI b]) oM_0_M_isSet ml_M_388 mw_M_isSet mv_M_isSet rfl d_M_canPlan_19 rfl rfl rfl rfl rfl ?_
                      refine Rj_iload_n (q := 1) d_M_isSet_0 rfl rfl rfl ?_
                      refine Rj_if_lt (q := 4) (t := 20) d_M_isSet_1 rfl (by decide) (by first | assumption | exact ⟨by omega, by omega⟩) (fun c3_19_1 => ?_) (fun c3_19_1 => ?_)
                      · refine Rj_iconst (q := 21) d_M_isSet_20 rfl ?_
                        refine Rj_bret0 d_M_isSet_21 rfl ?_
                        refine Rj_if_eq (q := 25) (t := 29) d_M_canPlan_22 rfl (by decide) (by decide) (fun _ => ?_) (fun c => absurd c (by decide))
                        refine Rj_iconst (q := 30) d_M_canPlan_29 rfl ?_
                        refine Rj_bret0 d_M_canPlan_30 rfl ?_
                        refine Rj_if_eq (q := 9) (t := 13) d_M_row_6 rfl (by decide) (by decide) (fun _ => ?_) (fun c => absurd c (by decide))
                        refine Rj_iconst (q := 14) d_M_row_13 rfl ?_
                        refine Rj_iret d_M_row_14 rfl ?_
                        exfalso; omega
                      · refine Rj_iload_n (q := 5) d_M_isSet_4 rfl rfl rfl ?_
                        refine Rj_iconst (q := 6) d_M_isSet_5 rfl ?_
                        refine Rj_aload_n (q := 7) d_M_isSet_6 rfl rfl rfl ?_
                        refine Rj_gr (q := 10) (zd := 11) gM_M_42_0 rfl rfl d_M_isSet_7 rfl ?_
                        refine Rj_iconst (q := 11) d_M_isSet_10 rfl ?_
                        refine Rj_ia (q := 12) (v := ν 11 0) aM_11 rfl (by decide) rfl d_M_isSet_11 rfl ?_
                        refine Rj_ishl (q := 13) (z := 2 ^ (ν 11 0).toNat) d_M_isSet_12 rfl (z_shl_p ⟨by omega, by omega⟩) ?_
                        refine Rj_icmp_ge (q := 16) (t := 20) d_M_isSet_13 rfl (by decide) (by first | exact ha | exact hb | exact p2k.1) (by first | exact ha | exact hb | exact p2k.1) (fun c3_19_13 => ?_) (fun c3_19_13 => ?_)
                        · refine Rj_iconst (q := 21) d_M_isSet_20 rfl ?_
                          refine Rj_bret0 d_M_isSet_21 rfl ?_
                          refine Rj_if_eq (q := 25) (t := 29) d_M_canPlan_22 rfl (by decide) (by decide) (fun _ => ?_) (fun c => absurd c (by decide))
                          refine Rj_iconst (q := 30) d_M_canPlan_29 rfl ?_
                          refine Rj_bret0 d_M_canPlan_30 rfl ?_
                          refine Rj_if_eq (q := 9) (t := 13) d_M_row_6 rfl (by decide) (by decide) (fun _ => ?_) (fun c => absurd c (by decide))
                          refine Rj_iconst (q := 14) d_M_row_13 rfl ?_
                          refine Rj_iret d_M_row_14 rfl ?_
                          exfalso; omega
                        · refine Rj_iconst (q := 17) d_M_isSet_16 rfl ?_
                          refine Rj_goto (t := 21) d_M_isSet_17 (by decide) ?_
                          refine Rj_bret1 d_M_isSet_21 rfl ?_
                          refine Rj_if_eq (q := 25) (t := 29) d_M_canPlan_22 rfl (by decide) (by decide) (fun c => absurd c (by decide)) (fun _ => ?_)
                          refine Rj_iconst (q := 26) d_M_canPlan_25 rfl ?_
                          refine Rj_goto (t := 30) d_M_canPlan_26 (by decide) ?_
                          refine Rj_bret1 d_M_canPlan_30 rfl ?_
                          refine Rj_if_eq (q := 9) (t := 13) d_M_row_6 rfl (by decide) (by decide) (fun c => absurd c (by decide)) (fun _ => ?_)
                          refine Rj_iload_n (q := 10) d_M_row_9 rfl rfl rfl ?_
                          refine Rj_if_ge (q := 13) (t := 15) d_M_row_10 rfl (by decide) (by first | assumption | exact ⟨by omega, by omega⟩) (fun c10 => ?_) (fun c10 => ?_)
                          · refine Rj_aload_n (q := 16) d_M_row_15 rfl rfl rfl ?_
                            refine Rj_iload_n (q := 17) d_M_row_16 rfl rfl rfl ?_
                            refine Rj_iload_n (q := 18) d_M_row_17 rfl rfl rfl ?_
                            refine Rj_vo (q := 21) (z := y_M_plans) (as := [vI a, vI b]) (rest := []) (la := [vA 0, vI a, vI b]) oM_0_M_plans ml_M_436 mw_M_plans mv_M_plans rfl d_M_row_18 rfl rfl rfl rfl rfl ?_
                            refine s_M_plans (lk := ν 17) hM ⟨rfl, rfl, rfl, rfl, rfl⟩ rfl (by omega) (by omega) (by omega) (by omega) (fun m2 fm2 gm2 => ?_)
                            refine Rj_istore (q := 23) (ls' := [vA 0, vI a, vI b, vI c, vI (pln (ν 11 0) (acP (ν 11) (ν 14) (ν 15) (ν 16) (ν 12)) (resP (ν 11) (ν 14) (ν 15) (ν 16) (ν 12) (ν 17) a b) (dpP (ν 11) (ν 14) (ν 15) (ν 16) (ν 12) a b) 13 0 0 0)]) d_M_row_21 rfl (by decide) rfl ?_
                            refine Rj_iload (q := 25) d_M_row_23 rfl rfl ?_
                            refine Rj_if_ge (q := 28) (t := 33) d_M_row_25 rfl (by decide) (by first | assumption | exact ⟨by omega, by omega⟩) (fun c25 => ?_) (fun c25 => ?_)
                            · refine Rj_iload_n (q := 34) d_M_row_33 rfl rfl rfl ?_
                              refine Rj_iload (q := 36) d_M_row_34 rfl rfl ?_
                              refine Rj_icmp_ge (q := 39) (t := 48) d_M_row_36 rfl (by decide) (by first | assumption | exact ⟨by omega, by omega⟩) (by first | assumption | exact ⟨by omega, by omega⟩) (fun c36 => ?_) (fun c36 => ?_)
                              · refine Rj_bipush (q := 50) d_M_row_48 rfl (by decide +kernel) ?_
                                refine Rj_iret d_M_row_50 rfl ?_
                                exfalso; omega
                              · refine Rj_aload_n (q := 40) d_M_row_39 rfl rfl rfl ?_
                                refine Rj_gr (q := 43) (zd := 22) gM_M_80_0 rfl rfl d_M_row_40 rfl ?_
                                refine Rj_iload_n (q := 44) d_M_row_43 rfl rfl rfl ?_
                                refine Rj_ia (q := 45) (v := m2 22 c) aM_22 rfl (by omega) rfl d_M_row_44 rfl ?_
                                refine Rj_goto (t := 50) d_M_row_45 (by decide) ?_
                                refine Rj_iret d_M_row_50 rfl ?_
                                exfalso; omega
                            · refine Rj_iload (q := 30) d_M_row_28 rfl rfl ?_
                              refine Rj_goto (t := 50) d_M_row_30 (by decide) ?_
                              refine Rj_iret d_M_row_50 rfl ?_
                              exact ⟨sm_I rfl, hC.idle (fun c i q => fm c i (by unfold Wso; omega)) (fun c i q => fm2 c i (by unfold cqm at q; unfold Wpl; omega)), fun c i q => fm c i (by unfold Wso; omega), fun c i q => fm2 c i (by unfold Wpl; omega)⟩
                          · refine Rj_iconst (q := 14) d_M_row_13 rfl ?_
                            refine Rj_iret d_M_row_14 rfl ?_
                            exfalso; omega
            · refine Rj_iconst (q := 14) d_D_row_13 rfl ?_
              refine Rj_iret d_D_row_14 rfl ?_
              refine Rj_aload_n (q := 1) d_M_row_0 rfl rfl rfl ?_
              refine Rj_iload_n (q := 2) d_M_row_1 rfl rfl rfl ?_
              refine Rj_iload_n (q := 3) d_M_row_2 rfl rfl rfl ?_
              refine Rj_vo (q := 6) (z := y_M_canPlan) (as := [vI a, vI b]) (rest := []) (la := [vA 0, vI a, vI b]) oM_0_M_canPlan ml_M_433 mw_M_canPlan mv_M_canPlan rfl d_M_row_3 rfl rfl rfl rfl rfl ?_
              refine Rj_aload_n (q := 1) d_M_canPlan_0 rfl rfl rfl ?_
              refine Rj_gr (q := 4) (zd := 11) gM_M_42_0 rfl rfl d_M_canPlan_1 rfl ?_
              refine Rj_iconst (q := 5) d_M_canPlan_4 rfl ?_
              refine Rj_ia (q := 6) (v := ν 11 0) aM_11 rfl (by decide) rfl d_M_canPlan_5 rfl ?_
              refine Rj_if_le (q := 9) (t := 29) d_M_canPlan_6 rfl (by decide) (by first | assumption | exact ⟨by omega, by omega⟩) (fun c3_6 => ?_) (fun c3_6 => ?_)
              · refine Rj_iconst (q := 30) d_M_canPlan_29 rfl ?_
                refine Rj_bret0 d_M_canPlan_30 rfl ?_
                refine Rj_if_eq (q := 9) (t := 13) d_M_row_6 rfl (by decide) (by decide) (fun _ => ?_) (fun c => absurd c (by decide))
                refine Rj_iconst (q := 14) d_M_row_13 rfl ?_
                refine Rj_iret d_M_row_14 rfl ?_
                exact ⟨sm_I rfl, hC1, kp0 _, kq0 _⟩
              · refine Rj_aload_n (q := 10) d_M_canPlan_9 rfl rfl rfl ?_
                refine Rj_iload_n (q := 11) d_M_canPlan_10 rfl rfl rfl ?_
                refine Rj_vo (q := 14) (z := y_M_isSet) (as := [vI a]) (rest := []) (la := [vA 0, vI a]) oM_0_M_isSet ml_M_388 mw_M_isSet mv_M_isSet rfl d_M_canPlan_11 rfl rfl rfl rfl rfl ?_
                refine Rj_iload_n (q := 1) d_M_isSet_0 rfl rfl rfl ?_
                refine Rj_if_lt (q := 4) (t := 20) d_M_isSet_1 rfl (by decide) (by first | assumption | exact ⟨by omega, by omega⟩) (fun c3_11_1 => ?_) (fun c3_11_1 => ?_)
                · refine Rj_iconst (q := 21) d_M_isSet_20 rfl ?_
                  refine Rj_bret0 d_M_isSet_21 rfl ?_
                  refine Rj_if_eq (q := 17) (t := 29) d_M_canPlan_14 rfl (by decide) (by decide) (fun _ => ?_) (fun c => absurd c (by decide))
                  refine Rj_iconst (q := 30) d_M_canPlan_29 rfl ?_
                  refine Rj_bret0 d_M_canPlan_30 rfl ?_
                  refine Rj_if_eq (q := 9) (t := 13) d_M_row_6 rfl (by decide) (by decide) (fun _ => ?_) (fun c => absurd c (by decide))
                  refine Rj_iconst (q := 14) d_M_row_13 rfl ?_
                  refine Rj_iret d_M_row_14 rfl ?_
                  exact ⟨sm_I rfl, hC1, kp0 _, kq0 _⟩
                · refine Rj_iload_n (q := 5) d_M_isSet_4 rfl rfl rfl ?_
                  refine Rj_iconst (q := 6) d_M_isSet_5 rfl ?_
                  refine Rj_aload_n (q := 7) d_M_isSet_6 rfl rfl rfl ?_
                  refine Rj_gr (q := 10) (zd := 11) gM_M_42_0 rfl rfl d_M_isSet_7 rfl ?_
                  refine Rj_iconst (q := 11) d_M_isSet_10 rfl ?_
                  refine Rj_ia (q := 12) (v := ν 11 0) aM_11 rfl (by decide) rfl d_M_isSet_11 rfl ?_
                  refine Rj_ishl (q := 13) (z := 2 ^ (ν 11 0).toNat) d_M_isSet_12 rfl (z_shl_p ⟨by omega, by omega⟩) ?_
                  refine Rj_icmp_ge (q := 16) (t := 20) d_M_isSet_13 rfl (by decide) (by first | exact ha | exact hb | exact p2k.1) (by first | exact ha | exact hb | exact p2k.1) (fun c3_11_13 => ?_) (fun c3_11_13 => ?_)
                  · refine Rj_iconst (q := 21) d_M_isSet_20 rfl ?_
                    refine Rj_bret0 d_M_isSet_21 rfl ?_
                    refine Rj_if_eq (q := 17) (t := 29) d_M_canPlan_14 rfl (by decide) (by decide) (fun _ => ?_) (fun c => absurd c (by decide))
                    refine Rj_iconst (q := 30) d_M_canPlan_29 rfl ?_
                    refine Rj_bret0 d_M_canPlan_30 rfl ?_
                    refine Rj_if_eq (q := 9) (t := 13) d_M_row_6 rfl (by decide) (by decide) (fun _ => ?_) (fun c => absurd c (by decide))
                    refine Rj_iconst (q := 14) d_M_row_13 rfl ?_
                    refine Rj_iret d_M_row_14 rfl ?_
                    exact ⟨sm_I rfl, hC1, kp0 _, kq0 _⟩
                  · refine Rj_iconst (q := 17) d_M_isSet_16 rfl ?_
                    refine Rj_goto (t := 21) d_M_isSet_17 (by decide) ?_
                    refine Rj_bret1 d_M_isSet_21 rfl ?_
                    refine Rj_if_eq (q := 17) (t := 29) d_M_canPlan_14 rfl (by decide) (by decide) (fun c => absurd c (by decide)) (fun _ => ?_)
                    refine Rj_aload_n (q := 18) d_M_canPlan_17 rfl rfl rfl ?_
                    refine Rj_iload_n (q := 19) d_M_canPlan_18 rfl rfl rfl ?_
                    refine Rj_vo (q := 22) (z := y_M_isSet) (as := [vI b]) (rest := []) (la := [vA 0, vI b]) oM_0_M_isSet ml_M_388 mw_M_isSet mv_M_isSet rfl d_M_canPlan_19 rfl rfl rfl rfl rfl ?_
                    refine Rj_iload_n (q := 1) d_M_isSet_0 rfl rfl rfl ?_
                    refine Rj_if_lt (q := 4) (t := 20) d_M_isSet_1 rfl (by decide) (by first | assumption | exact ⟨by omega, by omega⟩) (fun c3_19_1 => ?_) (fun c3_19_1 => ?_)
                    · refine Rj_iconst (q := 21) d_M_isSet_20 rfl ?_
                      refine Rj_bret0 d_M_isSet_21 rfl ?_
                      refine Rj_if_eq (q := 25) (t := 29) d_M_canPlan_22 rfl (by decide) (by decide) (fun _ => ?_) (fun c => absurd c (by decide))
                      refine Rj_iconst (q := 30) d_M_canPlan_29 rfl ?_
                      refine Rj_bret0 d_M_canPlan_30 rfl ?_
                      refine Rj_if_eq (q := 9) (t := 13) d_M_row_6 rfl (by decide) (by decide) (fun _ => ?_) (fun c => absurd c (by decide))
                      refine Rj_iconst (q := 14) d_M_row_13 rfl ?_
                      refine Rj_iret d_M_row_14 rfl ?_
                      exact ⟨sm_I rfl, hC1, kp0 _, kq0 _⟩
                    · refine Rj_iload_n (q := 5) d_M_isSet_4 rfl rfl rfl ?_
                      refine Rj_iconst (q := 6) d_M_isSet_5 rfl ?_
                      refine Rj_aload_n (q := 7) d_M_isSet_6 rfl rfl rfl ?_
                      refine Rj_gr (q := 10) (zd := 11) gM_M_42_0 rfl rfl d_M_isSet_7 rfl ?_
                      refine Rj_iconst (q := 11) d_M_isSet_10 rfl ?_
                      refine Rj_ia (q := 12) (v := ν 11 0) aM_11 rfl (by decide) rfl d_M_isSet_11 rfl ?_
                      refine Rj_ishl (q := 13) (z := 2 ^ (ν 11 0).toNat) d_M_isSet_12 rfl (z_shl_p ⟨by omega, by omega⟩) ?_
                      refine Rj_icmp_ge (q := 16) (t := 20) d_M_isSet_13 rfl (by decide) (by first | exact ha | exact hb | exact p2k.1) (by first | exact ha | exact hb | exact p2k.1) (fun c3_19_13 => ?_) (fun c3_19_13 => ?_)
                      · refine Rj_iconst (q := 21) d_M_isSet_20 rfl ?_
                        refine Rj_bret0 d_M_isSet_21 rfl ?_
                        refine Rj_if_eq (q := 25) (t := 29) d_M_canPlan_22 rfl (by decide) (by decide) (fun _ => ?_) (fun c => absurd c (by decide))
                        refine Rj_iconst (q := 30) d_M_canPlan_29 rfl ?_
                        refine Rj_bret0 d_M_canPlan_30 rfl ?_
                        refine Rj_if_eq (q := 9) (t := 13) d_M_row_6 rfl (by decide) (by decide) (fun _ => ?_) (fun c => absurd c (by decide))
                        refine Rj_iconst (q := 14) d_M_row_13 rfl ?_
                        refine Rj_iret d_M_row_14 rfl ?_
                        exact ⟨sm_I rfl, hC1, kp0 _, kq0 _⟩
                      · refine Rj_iconst (q := 17) d_M_isSet_16 rfl ?_
                        refine Rj_goto (t := 21) d_M_isSet_17 (by decide) ?_
                        refine Rj_bret1 d_M_isSet_21 rfl ?_
                        refine Rj_if_eq (q := 25) (t := 29) d_M_canPlan_22 rfl (by decide) (by decide) (fun c => absurd c (by decide)) (fun _ => ?_)
                        refine Rj_iconst (q := 26) d_M_canPlan_25 rfl ?_
                        refine Rj_goto (t := 30) d_M_canPlan_26 (by decide) ?_
                        refine Rj_bret1 d_M_canPlan_30 rfl ?_
                        refine Rj_if_eq (q := 9) (t := 13) d_M_row_6 rfl (by decide) (by decide) (fun c => absurd c (by decide)) (fun _ => ?_)
                        refine Rj_iload_n (q := 10) d_M_row_9 rfl rfl rfl ?_
                        refine Rj_if_ge (q := 13) (t := 15) d_M_row_10 rfl (by decide) (by first | assumption | exact ⟨by omega, by omega⟩) (fun c10 => ?_) (fun c10 => ?_)
                        · refine Rj_aload_n (q := 16) d_M_row_15 rfl rfl rfl ?_
                          refine Rj_iload_n (q := 17) d_M_row_16 rfl rfl rfl ?_
                          refine Rj_iload_n (q := 18) d_M_row_17 rfl rfl rfl ?_
                          refine Rj_vo (q := 21) (z := y_M_plans) (as := [vI a, vI b]) (rest := []) (la := [vA 0, vI a, vI b]) oM_0_M_plans ml_M_436 mw_M_plans mv_M_plans rfl d_M_row_18 rfl rfl rfl rfl rfl ?_
                          refine s_M_plans (lk := ν 17) hM ⟨rfl, rfl, rfl, rfl, rfl⟩ rfl (by omega) (by omega) (by omega) (by omega) (fun m2 fm2 gm2 => ?_)
                          refine Rj_istore (q := 23) (ls' := [vA 0, vI a, vI b, vI c, vI (pln (ν 11 0) (acP (ν 11) (ν 14) (ν 15) (ν 16) (ν 12)) (resP (ν 11) (ν 14) (ν 15) (ν 16) (ν 12) (ν 17) a b) (dpP (ν 11) (ν 14) (ν 15) (ν 16) (ν 12) a b) 13 0 0 0)]) d_M_row_21 rfl (by decide) rfl ?_
                          refine Rj_iload (q := 25) d_M_row_23 rfl rfl ?_
                          refine Rj_if_ge (q := 28) (t := 33) d_M_row_25 rfl (by decide) (by first | assumption | exact ⟨by omega, by omega⟩) (fun c25 => ?_) (fun c25 => ?_)
                          · refine Rj_iload_n (q := 34) d_M_row_33 rfl rfl rfl ?_
                            refine Rj_iload (q := 36) d_M_row_34 rfl rfl ?_
                            refine Rj_icmp_ge (q := 39) (t := 48) d_M_row_36 rfl (by decide) (by first | assumption | exact ⟨by omega, by omega⟩) (by first | assumption | exact ⟨by omega, by omega⟩) (fun c36 => ?_) (fun c36 => ?_)
                            · refine Rj_bipush (q := 50) d_M_row_48 rfl (by decide +kernel) ?_
                              refine Rj_iret d_M_row_50 rfl ?_
                              exfalso; omega
                            · refine Rj_aload_n (q := 40) d_M_row_39 rfl rfl rfl ?_
                              refine Rj_gr (q := 43) (zd := 22) gM_M_80_0 rfl rfl d_M_row_40 rfl ?_
                              refine Rj_iload_n (q := 44) d_M_row_43 rfl rfl rfl ?_
                              refine Rj_ia (q := 45) (v := m2 22 c) aM_22 rfl (by omega) rfl d_M_row_44 rfl ?_
                              refine Rj_goto (t := 50) d_M_row_45 (by decide) ?_
                              refine Rj_iret d_M_row_50 rfl ?_
                              exfalso; omega
                          · refine Rj_iload (q := 30) d_M_row_28 rfl rfl ?_
                            refine Rj_goto (t := 50) d_M_row_30 (by decide) ?_
                            refine Rj_iret d_M_row_50 rfl ?_
                            exfalso; omega
                        · refine Rj_iconst (q := 14) d_M_row_13 rfl ?_
                          refine Rj_iret d_M_row_14 rfl ?_
                          exact ⟨sm_I rfl, hC1, kp0 _, kq0 _⟩
