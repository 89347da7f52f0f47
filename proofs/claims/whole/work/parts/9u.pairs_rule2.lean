theorem pM_M_273_0 : PI YM "DoorsOnCogsModel" 273 0 2 none .int := ⟨by decide, _, _, _, fl_M_273, fp_10_2, cM_0, by decide, rfl⟩
/-! the pair rule, closed -/
abbrev Wrr (r : Int) (c : Nat) (i : Int) : Prop := Wcl r c i ∨ (c = 0 ∧ (i = 1 ∨ i = 2 ∨ i = 16))
set_option maxHeartbeats 4000000 in
theorem s_M_rule {μ : Mem} {Q : PV → Mem → Prop} {r : Int} (hX : TX (μ 1) (μ 0 1)) (hr : 0 ≤ r ∧ r ≤ 6) (hr1 : μ 0 2 = r) (h6 : r = 6 → Q (vI (-1)) μ) (hE : ∀ e μ', ¬ r = 6 → RUNN (μ 1) (μ 0 1) 0 0 0 [] (.error e) → Fr (Wrr r) μ μ' → μ' 0 1 = 0 → μ' 0 2 = r → Q (vI (-2 - e)) μ') (hF : ∀ μ' D, ¬ r = 6 → RUNN (μ 1) (μ 0 1) 0 0 0 [] (.ok D) → Fr (Wrr r) μ μ' → μ' 0 1 = 0 → μ' 0 2 = r + 1 → LST (μ' 2) (400 * r) ((flM D).map enc) → TBL μ' r D → Q (vI r) μ') : Rj YM y_M_rule 0 [vA 0] [] μ Q := by
  have hX1 := hX.1
  refine Rj_aload_n (q := 1) d_M_rule_0 rfl rfl rfl ?_
  refine Rj_gi (q := 4) (ki := 2) (v := r) gM_M_273_0 rfl rfl hr1 d_M_rule_1 rfl ?_
  refine Rj_bipush (q := 6) d_M_rule_4 rfl (by decide +kernel) ?_
  refine Rj_icmp_ne (q := 9) (t := 11) d_M_rule_6 rfl (by decide) ⟨by omega, by omega⟩ (by decide) (fun c6 => ?_) (fun c6 => ?_)
  · refine Rj_aload_n (q := 12) d_M_rule_11 rfl rfl rfl ?_
    refine Rj_aload_n (q := 13) d_M_rule_12 rfl rfl rfl ?_
    refine Rj_gi (q := 16) (ki := 2) (v := r) gM_M_273_0 rfl rfl hr1 d_M_rule_13 rfl ?_
    refine Rj_pi (q := 19) (ki := 16) pM_M_158_0 rfl rfl d_M_rule_16 rfl ?_
    refine Rj_aload_n (q := 20) d_M_rule_19 rfl rfl rfl ?_
    refine Rj_gr (q := 23) (zd := 5) gM_M_23_0 rfl rfl d_M_rule_20 rfl ?_
    refine Rj_aload_n (q := 24) d_M_rule_23 rfl rfl rfl ?_
    refine Rj_gi (q := 27) (ki := 16) (v := r) gM_M_158_0 rfl rfl rfl d_M_rule_24 rfl ?_
    refine Rj_iconst (q := 28) d_M_rule_27 rfl ?_
    refine Rj_is (q := 29) aM_5 rfl (by omega) d_M_rule_28 rfl ?_
    refine Rj_aload_n (q := 30) d_M_rule_29 rfl rfl rfl ?_
    refine Rj_vo (q := 33) (z := y_M_readsAll) (as := []) (rest := []) (la := [vA 0]) oM_0_M_readsAll ml_M_276 mw_M_readsAll mv_M_readsAll rfl d_M_rule_30 rfl rfl rfl rfl rfl ?_
    have fr0 : Fr (Wrr r) μ ((mset (mset μ 0 16 r) 5 r 0)) := (Fr.put (Fr.put (Fr.refl _ _) (by unfold Wrr Wcl; omega)) (by unfold Wrr Wcl; omega))
    refine s_M_readsRu (μ := (mset (mset μ 0 16 r) 5 r 0)) (t := r) hX ⟨rfl, hr.1, by omega⟩ (mset_same _ _ _ _) (fun e m a1 a2 a3 a4 a5 => ?_) (fun m D a1 a2 a3 a4 a5 a6 a7 => ?_)
    · have fr1 : Fr (Wrr r) μ m := fr0.trans (Fr.wide a2 (fun c i q => by unfold Wrr; omega))
      refine Rj_if_ne (q := 36) (t := 44) d_M_rule_33 rfl (by decide) (by decide) (fun c => absurd c (by decide)) (fun _ => ?_)
      refine Rj_bipush (q := 38) d_M_rule_36 rfl (by decide +kernel) ?_
      refine Rj_aload_n (q := 39) d_M_rule_38 rfl rfl rfl ?_
      refine Rj_gi (q := 42) (ki := 14) (v := e) gM_M_107_0 rfl rfl a3 d_M_rule_39 rfl ?_
      refine Rj_isub (q := 43) d_M_rule_42 rfl ?_
      refine Rj_iret d_M_rule_43 rfl ?_
      exact hE e m (by omega) a1 fr1 a4 ((a2 0 2 (by unfold Wcl; omega)).trans hr1)
    · have fr1 : Fr (Wrr r) μ m := fr0.trans (Fr.wide a2 (fun c i q => by unfold Wrr; omega))
      have m2r : m 0 2 = r := (a2 0 2 (by unfold Wcl; omega)).trans hr1
      refine Rj_if_ne (q := 36) (t := 44) d_M_rule_33 rfl (by decide) (by decide) (fun _ => ?_) (fun c => absurd c (by decide))
      refine Rj_aload_n (q := 45) d_M_rule_44 rfl rfl rfl ?_
      refine Rj_dup (q := 46) d_M_rule_45 rfl (by intro h; cases h) ?_
      refine Rj_gi (q := 49) (ki := 2) (v := r) gM_M_273_0 rfl rfl m2r d_M_rule_46 rfl ?_
      refine Rj_iconst (q := 50) d_M_rule_49 rfl ?_
      refine Rj_iadd (q := 51) d_M_rule_50 rfl ?_
      refine Rj_pi (q := 54) (ki := 2) pM_M_273_0 rfl rfl d_M_rule_51 rfl ?_
      refine Rj_aload_n (q := 55) d_M_rule_54 rfl rfl rfl ?_
      refine Rj_gi (q := 58) (ki := 2) (v := r + 1) gM_M_273_0 rfl rfl rfl d_M_rule_55 rfl ?_
      refine Rj_iconst (q := 59) d_M_rule_58 rfl ?_
      refine Rj_isub (q := 60) d_M_rule_59 rfl ?_
      refine Rj_iret d_M_rule_60 rfl ?_
      exact fin_I (hF _ D (by omega) a1 (Fr.put fr1 (by unfold Wrr; omega)) a4 rfl a5 ⟨a7.1, a7.2⟩) (by omega)
  · refine Rj_iconst (q := 10) d_M_rule_9 rfl ?_
    refine Rj_iret d_M_rule_10 rfl ?_
    exact h6 (by omega)
theorem C_rule {n : Nat} {μ ν : Mem} (hC : Cor n μ ν) (hR : RULs μ ν) : Rj YD y_D_rule 0 [vA 0] [] μ (fun r μ' => Rj YM y_M_rule 0 [vA 0] [] ν (fun r' ν' => Sm 1 r' r ∧ Cor (n + 1) μ' ν' ∧ RULs μ' ν')) := by
  have hTP := hC.1
  have hX : TX (ν 1) (ν 0 1) := ⟨hTP.1, fun i i0 i1 => by have := hTP.2.2 i i0 i1; split at this <;> omega⟩
  obtain ⟨r0, r1, r2⟩ := id hR
  refine s_ruleD hTP r0 r1 (fun e6 => ?_) (fun e μ' n6 a1 a2 a3 a4 => ?_) (fun μ' m D n6 a1 a2 a3 a4 a5 a6 => ?_)
  · refine s_M_rule hX r0 rfl (fun _ => ⟨sm_I rfl, hC.next, hR⟩) (fun e ν' n6 => absurd e6 n6) (fun ν' D n6 => absurd e6 n6)
  · refine s_M_rule hX r0 rfl (fun e6 => absurd e6 n6) (fun e' ν' _ b1 b2 b3 b4 => ?_) (fun ν' D _ b1 => ?_)
    · have ee : e' = e := by have := RUNN_det b1 a1; cases this; rfl
      subst ee
      refine ⟨sm_I rfl, hC.tape2 (fun c i q1 q2 => a2 c i (by unfold Wru; omega)) (fun c i q1 q2 => b2 c i (by unfold cqm at q1; unfold Wrr Wcl; omega)) a3 b3, by rw [b4]; exact r0, by rw [b4, a2 79 1 (by unfold Wru; omega)]; exact r1, fun r q0 q1 => ?_⟩
      rw [b4] at q1
      obtain ⟨D, hD⟩ := r2 r q0 q1
      exact ⟨D, hD.keep (fun i i0 i1 => a2 80 i (by unfold Wru; omega)) (a2 81 r (by unfold Wru; omega)) (fun i i0 i1 => b2 2 i (by unfold Wrr Wcl; omega)) (fun i i0 i1 => b2 4 i (by unfold Wrr Wcl; omega)) (b2 5 r (by unfold Wrr Wcl; omega))⟩
    · have := RUNN_det b1 a1; cases this
  · refine s_M_rule hX r0 rfl (fun e6 => absurd e6 n6) (fun e' ν' _ b1 => ?_) (fun ν' D' _ b1 b2 b3 b4 b5 b6 => ?_)
    · have := RUNN_det b1 a1; cases this
    · have ee : D' = D := by have := RUNN_det b1 a1; cases this; rfl
      subst ee
      refine ⟨sm_I rfl, hC.tape2 (fun c i q1 q2 => (a4 c i (by omega)).trans (a2 c i (by unfold Wru; omega))) (fun c i q1 q2 => b2 c i (by unfold cqm at q1; unfold Wrr Wcl; omega)) a5 b3, by rw [b4]; omega, by rw [b4, a6], fun r q0 q1 => ?_⟩
      rw [b4] at q1
      by_cases er : r = ν 0 2
      · refine ⟨D', ⟨?_, ?_, a3.2.2.2.2.1⟩, ⟨?_, ?_, ?_, a3.2.2.2.2.2.2⟩, RUNN_wf a1⟩
        · rw [er]; exact LST_keep a3.2.2.1 (fun i i0 i1 => a4 80 i (by omega))
        · rw [er]; exact (a4 81 _ (by omega)).trans a3.2.2.2.1
        · rw [er]; exact b5
        · rw [er]; exact b6.1
        · rw [er]; exact b6.2
      · obtain ⟨D, hD⟩ := r2 r q0 (by omega)
        exact ⟨D, hD.keep (fun i i0 i1 => (a4 80 i (by omega)).trans (a2 80 i (by unfold Wru; omega))) ((a4 81 r (by omega)).trans (a2 81 r (by unfold Wru; omega))) (fun i i0 i1 => b2 2 i (by unfold Wrr Wcl; omega)) (fun i i0 i1 => b2 4 i (by unfold Wrr Wcl; omega)) (b2 5 r (by unfold Wrr Wcl; omega))⟩
