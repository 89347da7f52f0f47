theorem oD_79_Bo_startDraft : OI YD 79 y_Bo_startDraft := ⟨by decide, _, _, _, cD_79, rfl⟩
theorem gD_D_88_0 : GI YD "DoorsOnCogs" 88 0 12 (some (some 84)) := ⟨by decide, _, _, _, fl_D_88, cD_0, by decide, rfl⟩
theorem oD_84_Rr_read : OI YD 84 y_Rr_read := ⟨by decide, _, _, _, cD_84, rfl⟩
theorem oD_79_Bo_keepDraft : OI YD 79 y_Bo_keepDraft := ⟨by decide, _, _, _, cD_79, rfl⟩
theorem pD_Bo_26_79 : PI YD "DoorsOnCogs$RuleBook" 26 79 1 none .int := ⟨by decide, _, _, _, fl_Bo_26, fp_4_1, cD_79, by decide, rfl⟩
/-! the pair rule -/
/-- the rules of the two objects are the same -/
def RUL1 (μ ν : Mem) (r : Int) (D : List CLS) : Prop := (LST (μ 80) (401 * r) (flC D) ∧ μ 81 r = ((flC D).length : Int) ∧ ((flC D).length : Int) ≤ 400) ∧ (LST (ν 2) (400 * r) ((flM D).map enc) ∧ TB (ν 4) (48 * r) 0 D ∧ ν 5 r = (D.length : Int) ∧ (D.length : Int) ≤ 12) ∧ ∀ x ∈ D, WFc x
def RULs (μ ν : Mem) : Prop := (0 ≤ ν 0 2 ∧ ν 0 2 ≤ 6) ∧ μ 79 1 = ν 0 2 ∧ ∀ r, 0 ≤ r → r < ν 0 2 → ∃ D : List CLS, RUL1 μ ν r D
theorem RUL1.keep {μ ν μ' ν' : Mem} {r : Int} {D : List CLS} (h : RUL1 μ ν r D) (a : ∀ i, 401 * r ≤ i → i < 401 * r + 401 → μ' 80 i = μ 80 i) (b : μ' 81 r = μ 81 r) (c : ∀ i, 400 * r ≤ i → i < 400 * r + 400 → ν' 2 i = ν 2 i) (d : ∀ i, 48 * r ≤ i → i < 48 * r + 48 → ν' 4 i = ν 4 i) (e : ν' 5 r = ν 5 r) : RUL1 μ' ν' r D := by
  obtain ⟨⟨h1, h2, h3⟩, ⟨h4, h5, h6, h7⟩, h8⟩ := h
  have l := flM_le D
  refine ⟨⟨LST_keep h1 (fun i i0 i1 => a i i0 (by omega)), b.trans h2, h3⟩, ⟨LST_keep h4 (fun i i0 i1 => c i i0 (by simp at i1; omega)), TB_keep h5 (fun i i0 i1 => d i i0 (by omega)), e.trans h6, h7⟩, h8⟩
theorem RULs.keep {μ ν μ' ν' : Mem} (h : RULs μ ν) (kp : Kp μ μ') (kq : Kq ν ν') : RULs μ' ν' := by
  obtain ⟨h1, h2, h3⟩ := h
  have e := kq 0 2 (by omega)
  refine ⟨by rw [e]; exact h1, by rw [e, kp 79 1 (by omega)]; exact h2, fun r r0 r1 => ?_⟩
  rw [e] at r1
  obtain ⟨D, hD⟩ := h3 r r0 r1
  exact ⟨D, hD.keep (fun i _ _ => kp 80 i (by omega)) (kp 81 r (by omega)) (fun i _ _ => kq 2 i (by omega)) (fun i _ _ => kq 4 i (by omega)) (kq 5 r (by omega))⟩
theorem Cor.tape2 {n : Nat} {μ ν μ' ν' : Mem} (h : Cor n μ ν) (f : ∀ c i, ¬ ((c = 0 ∧ i = 1) ∨ c = 2) → c ≤ 64 → μ' c i = μ c i) (g : ∀ c i, cqm c i → ¬ (c = 0 ∧ i = 1) → ν' c i = ν c i) (e1 : μ' 0 1 = 0) (e2 : ν' 0 1 = 0) : Cor (n + 1) μ' ν' := by
  obtain ⟨a1, a2, a3, a4, a5, a6, a7, a8⟩ := h.next
  have rm : ∀ c, c ≠ 0 → (∀ i, cqm c i) → ν' c = ν c := fun c h1 h2 => funext (fun i => g c i (h2 i) (by omega))
  have e11 := rm 11 (by decide) (fun i => by unfold cqm; omega)
  have e12 := rm 12 (by decide) (fun i => by unfold cqm; omega)
  have e14 := rm 14 (by decide) (fun i => by unfold cqm; omega)
  have e15 := rm 15 (by decide) (fun i => by unfold cqm; omega)
  have e16 := rm 16 (by decide) (fun i => by unfold cqm; omega)
  have e17 := rm 17 (by decide) (fun i => by unfold cqm; omega)
  have e32 := g 0 32 (by unfold cqm; omega) (by omega)
  refine ⟨⟨by rw [e2]; decide, by rw [e1, e2], fun i i0 i1 => ?_⟩, by rw [e11]; exact a2, ?_, ?_, ?_, by rw [e11, e12]; exact a6, by rw [e12]; exact a7, a8.keep (fun c i h1 h2 => f c i (by omega) (by omega)) (rm 24 (by decide) (fun i => by unfold cqm; omega)) (rm 25 (by decide) (fun i => by unfold cqm; omega)) (rm 26 (by decide) (fun i => by unfold cqm; omega))⟩
  · rw [f 1 i (by omega) (by decide), g 1 i (by unfold cqm; omega) (by omega)]; exact a1.2.2 i i0 i1
  · rw [e11]; exact a3.keep (fun c i q1 q2 => f c i (by omega) (by omega))
  · rw [e11, e12, e14, e15, e16, e17]; exact a4.keep (fun c i q => f c i (by unfold gxc at q; omega) (by unfold gxc at q; omega))
  · unfold MX
    rw [e11, e12, e14, e15, e16, e17, e32]; exact a5
set_option maxHeartbeats 4000000 in
theorem s_M_readsRu {μ : Mem} {Q : PV → Mem → Prop} {t : Int} (hX : TX (μ 1) (μ 0 1)) (ht : μ 0 16 = t ∧ 0 ≤ t ∧ t < 6) (h5 : μ 5 t = 0) (hE : ∀ e μ', RUNN (μ 1) (μ 0 1) 0 0 0 [] (.error e) → Fr (fun c i => Wcl t c i ∨ (c = 0 ∧ i = 1)) μ μ' → μ' 0 14 = e → μ' 0 1 = 0 → (1 ≤ e ∧ e ≤ 5000) → Q (vI 0) μ') (hF : ∀ μ' D', RUNN (μ 1) (μ 0 1) 0 0 0 [] (.ok D') → Fr (fun c i => Wcl t c i ∨ (c = 0 ∧ i = 1)) μ μ' → μ' 0 14 = 0 → μ' 0 1 = 0 → LST (μ' 2) (400 * t) ((flM D').map enc) → μ' 3 t = ((flM D').length : Int) → TBL μ' t D' → Q (vI 1) μ') : Rj YM y_M_readsAll 0 [vA 0] [] μ Q := by
  have hX1 := hX.1
  refine Rj_aload_n (q := 1) d_M_readsAll_0 rfl rfl rfl ?_
  refine Rj_gr (q := 4) (zd := 3) gM_M_17_0 rfl rfl d_M_readsAll_1 rfl ?_
  refine Rj_aload_n (q := 5) d_M_readsAll_4 rfl rfl rfl ?_
  refine Rj_gi (q := 8) (ki := 16) (v := t) gM_M_158_0 rfl rfl ht.1 d_M_readsAll_5 rfl ?_
  refine Rj_iconst (q := 9) d_M_readsAll_8 rfl ?_
  refine Rj_is (q := 10) aM_3 rfl (by omega) d_M_readsAll_9 rfl ?_
  refine Rj_aload_n (q := 11) d_M_readsAll_10 rfl rfl rfl ?_
  refine Rj_iconst (q := 12) d_M_readsAll_11 rfl ?_
  refine Rj_pi (q := 15) (ki := 19) pM_M_255_0 rfl rfl d_M_readsAll_12 rfl ?_
  refine Rj_aload_n (q := 16) d_M_readsAll_15 rfl rfl rfl ?_
  refine Rj_iconst (q := 17) d_M_readsAll_16 rfl ?_
  refine Rj_pi (q := 20) (ki := 13) pM_M_110_0 rfl rfl d_M_readsAll_17 rfl ?_
  refine Rj_aload_n (q := 21) d_M_readsAll_20 rfl rfl rfl ?_
  refine Rj_iconst (q := 22) d_M_readsAll_21 rfl ?_
  refine Rj_pi (q := 25) (ki := 14) pM_M_107_0 rfl rfl d_M_readsAll_22 rfl ?_
  refine Rj_aload_n (q := 26) d_M_readsAll_25 rfl rfl rfl ?_
  refine Rj_iconst (q := 27) d_M_readsAll_26 rfl ?_
  refine Rj_pi (q := 30) (ki := 17) pM_M_161_0 rfl rfl d_M_readsAll_27 rfl ?_
  refine Rj_aload_n (q := 31) d_M_readsAll_30 rfl rfl rfl ?_
  refine Rj_vo (q := 34) (z := y_M_clauseHere) (as := []) (rest := []) (la := [vA 0]) oM_0_M_clauseHere ml_M_270 mw_M_clauseHere mv_M_clauseHere rfl d_M_readsAll_31 rfl rfl rfl rfl rfl ?_
  have fr0 : Fr (Wcl t) μ ((mset (mset (mset (mset (mset μ 3 t 0) 0 19 0) 0 13 0) 0 14 0) 0 17 0)) := (Fr.put (Fr.put (Fr.put (Fr.put (Fr.put (Fr.refl _ _) (by unfold Wcl; omega)) (by unfold Wcl; omega)) (by unfold Wcl; omega)) (by unfold Wcl; omega)) (by unfold Wcl; omega))
  have c0 : RM ((mset (mset (mset (mset (mset μ 3 t 0) 0 19 0) 0 13 0) 0 14 0) 0 17 0)) (μ 1) (μ 0 1) t 0 0 0 [] ([], none) := ⟨rfl, rfl, hX, rfl, rfl, ht, rfl, rfl, trivial, mset_same _ _ _ _⟩
  refine s_M_clauseRu c0 ⟨trivial, h5⟩ (by omega) (by decide) (by decide) (by decide) (fun e m a1 a2 a3 a4 => ?_) (fun m k2 nx2 vl2 c2 a1 a2 a3 a4 a5 a6 a7 a8 => ?_)
  · have zz := True.intro
    refine Rj_istore_n (q := 35) (ls' := [vA 0, vI 0]) d_M_readsAll_34 rfl rfl (by decide) rfl ?_
    exact s_M_readsRu_bad a3 a4 (hE e (mset m 0 1 0) a1 (Fr.put (Fr.trans (Fr.wide fr0 (fun c i q => Or.inl q)) (Fr.wide a2 (fun c i q => Or.inl q))) (Or.inr ⟨rfl, rfl⟩)) a3 rfl a4)
  · have fr2 : Fr (fun c i => Wcl t c i ∨ (c = 0 ∧ i = 1)) μ m := Fr.trans (Fr.wide fr0 (fun c i q => Or.inl q)) (Fr.wide a2 (fun c i q => Or.inl q))
    refine Rj_istore_n (q := 35) (ls' := [vA 0, vI 1]) d_M_readsAll_34 rfl rfl (by decide) rfl ?_
    exact s_M_readsRu_35 _ (Nat.lt_succ_self _) a3 a4 a5 a7 a8 (fun e m3 b1 b2 b3 b4 b5 => hE e m3 (a1 _ b1) (fr2.trans b2) b3 b4 b5) (fun m3 D3 b1 b2 b3 b4 b5 b6 b7 => hF m3 D3 (a1 _ b1) (fr2.trans b2) b3 b4 b5 b6 b7)
set_option maxHeartbeats 4000000 in
theorem s_ruleD {μ : Mem} {Q : PV → Mem → Prop} {ν : Mem} {r : Int} (hTP : TPR μ ν) (hr : 0 ≤ r ∧ r ≤ 6) (hr1 : μ 79 1 = r) (h6 : r = 6 → Q (vI (-1)) μ) (hE : ∀ e μ', ¬ r = 6 → RUNN (ν 1) (ν 0 1) 0 0 0 [] (.error e) → Fr (fun c i => (c = 0 ∧ i = 1) ∨ c = 2 ∨ Wru r c i) μ μ' → μ' 0 1 = 0 → (1 ≤ e ∧ e ≤ 5000) → Q (vI (-2 - e)) μ') (hF : ∀ μ' m D, ¬ r = 6 → RUNN (ν 1) (ν 0 1) 0 0 0 [] (.ok D) → Fr (fun c i => (c = 0 ∧ i = 1) ∨ c = 2 ∨ Wru r c i) μ m → FIN m r D → Fr (fun c i => (c = 0 ∧ i = 1) ∨ (c = 79 ∧ i = 1)) m μ' → μ' 0 1 = 0 → μ' 79 1 = r + 1 → Q (vI r) μ') : Rj YD y_D_rule 0 [vA 0] [] μ Q := by
  have t0 := hTP.1
  have t1 := hTP.2.1
  refine Rj_aload_n (q := 1) d_D_rule_0 rfl rfl rfl ?_
  refine Rj_gr (q := 4) (zd := 79) gD_D_70_0 rfl rfl d_D_rule_1 rfl ?_
  refine Rj_gi (q := 7) (ki := 1) (v := r) gD_D_133_79 rfl rfl hr1 d_D_rule_4 rfl ?_
  refine Rj_bipush (q := 9) d_D_rule_7 rfl (by decide +kernel) ?_
  refine Rj_icmp_lt (q := 12) (t := 14) d_D_rule_9 rfl (by decide) ⟨by omega, by omega⟩ (by decide) (fun c9 => ?_) (fun c9 => ?_)
  · refine Rj_aload_n (q := 15) d_D_rule_14 rfl rfl rfl ?_
    refine Rj_gr (q := 18) (zd := 2) gD_D_18_0 rfl rfl d_D_rule_15 rfl ?_
    refine Rj_aload_n (q := 19) d_D_rule_18 rfl rfl rfl ?_
    refine Rj_gi (q := 22) (ki := 1) (v := ν 0 1) gD_D_104_0 rfl rfl t1 d_D_rule_19 rfl ?_
    refine Rj_vov (q := 25) (z := y_Sp_open) (as := [vI (ν 0 1)]) (rest := []) (la := [vA 2, vI (ν 0 1)]) oD_2_Sp_open ml_D_112 mw_Sp_open mv_Sp_open rfl d_D_rule_22 rfl rfl rfl rfl rfl ?_
    refine Rj_aload_n (q := 1) d_Sp_open_0 rfl rfl rfl ?_
    refine Rj_iload_n (q := 2) d_Sp_open_1 rfl rfl rfl ?_
    refine Rj_aload_n (q := 3) d_Sp_open_2 rfl rfl rfl ?_
    refine Rj_gr (q := 6) (zd := 1) gD_Sp_9_2 rfl rfl d_Sp_open_3 rfl ?_
    refine Rj_al (q := 7) (zn := 400) aD_1 rfl rfl d_Sp_open_6 rfl ?_
    refine Rj_cs (q := 10) (z := y_Jmath_min_II) (as := [vI (ν 0 1), vI 400]) (rest := [vA 2]) (la := [vI (ν 0 1), vI 400]) ml_Sp_15 mw_Jmath_min_II ms_Jmath_min_II d_Sp_open_7 rfl rfl rfl rfl rfl ?_
    refine Rj_iload_n (q := 1) d_Jmath_min_II_0 rfl rfl rfl ?_
    refine Rj_iload_n (q := 2) d_Jmath_min_II_1 rfl rfl rfl ?_
    refine Rj_icmp_gt (q := 5) (t := 9) d_Jmath_min_II_2 rfl (by decide) ⟨by omega, by omega⟩ (by decide) (fun c22_7_2 => ?_) (fun c22_7_2 => ?_)
    · exact absurd c22_7_2 (by omega)
    · refine Rj_iload_n (q := 6) d_Jmath_min_II_5 rfl rfl rfl ?_
      refine Rj_goto (t := 10) d_Jmath_min_II_6 (by decide) ?_
      refine Rj_iret d_Jmath_min_II_10 rfl ?_
      refine Rj_pi (q := 13) (ki := 1) pD_Sp_21_2 rfl rfl d_Sp_open_10 rfl ?_
      refine Rj_aload_n (q := 14) d_Sp_open_13 rfl rfl rfl ?_
      refine Rj_iconst (q := 15) d_Sp_open_14 rfl ?_
      refine Rj_pi (q := 18) (ki := 2) pD_Sp_25_2 rfl rfl d_Sp_open_15 rfl ?_
      refine Rj_aload_n (q := 19) d_Sp_open_18 rfl rfl rfl ?_
      refine Rj_iconst (q := 20) d_Sp_open_19 rfl ?_
      refine Rj_pi (q := 23) (ki := 3) pD_Sp_28_2 rfl rfl d_Sp_open_20 rfl ?_
      refine Rj_vret d_Sp_open_23 rfl ?_
      refine Rj_aload_n (q := 26) d_D_rule_25 rfl rfl rfl ?_
      refine Rj_gr (q := 29) (zd := 79) gD_D_70_0 rfl rfl d_D_rule_26 rfl ?_
      refine Rj_vov (q := 32) (z := y_Bo_startDraft) (as := []) (rest := []) (la := [vA 79]) oD_79_Bo_startDraft ml_D_136 mw_Bo_startDraft mv_Bo_startDraft rfl d_D_rule_29 rfl rfl rfl rfl rfl ?_
      refine Rj_aload_n (q := 1) d_Bo_startDraft_0 rfl rfl rfl ?_
      refine Rj_gi (q := 4) (ki := 1) (v := r) gD_Bo_26_79 rfl rfl hr1 d_Bo_startDraft_1 rfl ?_
      refine Rj_bipush (q := 6) d_Bo_startDraft_4 rfl (by decide +kernel) ?_
      refine Rj_icmp_ge (q := 9) (t := 19) d_Bo_startDraft_6 rfl (by decide) ⟨by omega, by omega⟩ (by decide) (fun c29_6 => ?_) (fun c29_6 => ?_)
      · exact absurd c29_6 (by omega)
      · refine Rj_aload_n (q := 10) d_Bo_startDraft_9 rfl rfl rfl ?_
        refine Rj_gr (q := 13) (zd := 81) gD_Bo_15_79 rfl rfl d_Bo_startDraft_10 rfl ?_
        refine Rj_aload_n (q := 14) d_Bo_startDraft_13 rfl rfl rfl ?_
        refine Rj_gi (q := 17) (ki := 1) (v := r) gD_Bo_26_79 rfl rfl hr1 d_Bo_startDraft_14 rfl ?_
        refine Rj_iconst (q := 18) d_Bo_startDraft_17 rfl ?_
        refine Rj_is (q := 19) aD_81 rfl (by omega) d_Bo_startDraft_18 rfl ?_
        refine Rj_vret d_Bo_startDraft_19 rfl ?_
        refine Rj_aload_n (q := 33) d_D_rule_32 rfl rfl rfl ?_
        refine Rj_gr (q := 36) (zd := 84) gD_D_88_0 rfl rfl d_D_rule_33 rfl ?_
        refine Rj_vov (q := 39) (z := y_Rr_read) (as := []) (rest := []) (la := [vA 84]) oD_84_Rr_read ml_D_139 mw_Rr_read mv_Rr_read rfl d_D_rule_36 rfl rfl rfl rfl rfl ?_
        have fr0 : Fr (fun c i => (c = 0 ∧ i = 1) ∨ c = 2 ∨ Wru r c i) μ ((mset (mset (mset (mset μ 2 1 (ν 0 1)) 2 2 0) 2 3 0) 81 r 0)) := (Fr.put (Fr.put (Fr.put (Fr.put (Fr.refl _ _) (by first | exact Or.inr (Or.inl rfl) | exact Or.inr (Or.inr (by unfold Wru; omega)))) (by first | exact Or.inr (Or.inl rfl) | exact Or.inr (Or.inr (by unfold Wru; omega)))) (by first | exact Or.inr (Or.inl rfl) | exact Or.inr (Or.inr (by unfold Wru; omega)))) (by first | exact Or.inr (Or.inl rfl) | exact Or.inr (Or.inr (by unfold Wru; omega))))
        refine s_readRule (μ := (mset (mset (mset (mset μ 2 1 (ν 0 1)) 2 2 0) 2 3 0) 81 r 0)) (A := ν 1) (n := ν 0 1) (r := r) ⟨⟨hTP.1, fun i i0 i1 => ?_⟩, rfl, fun i i0 i1 => ?_⟩ rfl rfl ⟨hr1, hr.1, by omega⟩ (mset_same _ _ _ _) (fun e m a1 a2 a3 a4 => ?_) (fun m D a1 a2 a3 => ?_)
        · have := hTP.2.2 i i0 i1
          split at this <;> omega
        · have := hTP.2.2 i i0 i1
          show (μ 1 i = ν 1 i ∧ 0 ≤ ν 1 i) ∨ (μ 1 i = ν 1 i + 256 ∧ ν 1 i < 0)
          split at this <;> omega
        · have fr1 : Fr (fun c i => (c = 0 ∧ i = 1) ∨ c = 2 ∨ Wru r c i) μ m := fr0.trans (Fr.wide a2 (fun c i q => Or.inr (Or.inr q)))
          refine Rj_aload_n (q := 40) d_D_rule_39 rfl rfl rfl ?_
          refine Rj_iconst (q := 41) d_D_rule_40 rfl ?_
          refine Rj_pi (q := 44) (ki := 1) pD_D_104_0 rfl rfl d_D_rule_41 rfl ?_
          refine Rj_aload_n (q := 45) d_D_rule_44 rfl rfl rfl ?_
          refine Rj_gr (q := 48) (zd := 2) gD_D_18_0 rfl rfl d_D_rule_45 rfl ?_
          refine Rj_gi (q := 51) (ki := 3) (v := e) gD_D_118_2 rfl rfl a3 d_D_rule_48 rfl ?_
          refine Rj_if_eq (q := 54) (t := 65) d_D_rule_51 rfl (by decide) ⟨by omega, by omega⟩ (fun c51 => ?_) (fun c51 => ?_)
          · exact absurd c51 (by omega)
          · refine Rj_bipush (q := 56) d_D_rule_54 rfl (by decide +kernel) ?_
            refine Rj_aload_n (q := 57) d_D_rule_56 rfl rfl rfl ?_
            refine Rj_gr (q := 60) (zd := 2) gD_D_18_0 rfl rfl d_D_rule_57 rfl ?_
            refine Rj_gi (q := 63) (ki := 3) (v := e) gD_D_118_2 rfl rfl a3 d_D_rule_60 rfl ?_
            refine Rj_isub (q := 64) d_D_rule_63 rfl ?_
            refine Rj_iret d_D_rule_64 rfl ?_
            exact hE e _ (by omega) a1 (Fr.put fr1 (Or.inl ⟨rfl, rfl⟩)) rfl a4
        · have fr1 : Fr (fun c i => (c = 0 ∧ i = 1) ∨ c = 2 ∨ Wru r c i) μ m := fr0.trans (Fr.wide a2 (fun c i q => Or.inr (Or.inr q)))
          refine Rj_aload_n (q := 40) d_D_rule_39 rfl rfl rfl ?_
          refine Rj_iconst (q := 41) d_D_rule_40 rfl ?_
          refine Rj_pi (q := 44) (ki := 1) pD_D_104_0 rfl rfl d_D_rule_41 rfl ?_
          refine Rj_aload_n (q := 45) d_D_rule_44 rfl rfl rfl ?_
          refine Rj_gr (q := 48) (zd := 2) gD_D_18_0 rfl rfl d_D_rule_45 rfl ?_
          refine Rj_gi (q := 51) (ki := 3) (v := 0) gD_D_118_2 rfl rfl a3.1 d_D_rule_48 rfl ?_
          refine Rj_if_eq (q := 54) (t := 65) d_D_rule_51 rfl (by decide) (by decide) (fun _ => ?_) (fun c => absurd c (by decide))
          refine Rj_aload_n (q := 66) d_D_rule_65 rfl rfl rfl ?_
          refine Rj_gr (q := 69) (zd := 79) gD_D_70_0 rfl rfl d_D_rule_66 rfl ?_
          refine Rj_vo (q := 72) (z := y_Bo_keepDraft) (as := []) (rest := []) (la := [vA 79]) oD_79_Bo_keepDraft ml_D_140 mw_Bo_keepDraft mv_Bo_keepDraft rfl d_D_rule_69 rfl rfl rfl rfl rfl ?_
          refine Rj_aload_n (q := 1) d_Bo_keepDraft_0 rfl rfl rfl ?_
          refine Rj_dup (q := 2) d_Bo_keepDraft_1 rfl (by intro h; cases h) ?_
          refine Rj_gi (q := 5) (ki := 1) (v := r) gD_Bo_26_79 rfl rfl ((fr1 79 1 (by unfold Wru; omega)).trans hr1) d_Bo_keepDraft_2 rfl ?_
          refine Rj_iconst (q := 6) d_Bo_keepDraft_5 rfl ?_
          refine Rj_iadd (q := 7) d_Bo_keepDraft_6 rfl ?_
          refine Rj_pi (q := 10) (ki := 1) pD_Bo_26_79 rfl rfl d_Bo_keepDraft_7 rfl ?_
          refine Rj_aload_n (q := 11) d_Bo_keepDraft_10 rfl rfl rfl ?_
          refine Rj_gi (q := 14) (ki := 1) (v := r + 1) gD_Bo_26_79 rfl rfl rfl d_Bo_keepDraft_11 rfl ?_
          refine Rj_iconst (q := 15) d_Bo_keepDraft_14 rfl ?_
          refine Rj_isub (q := 16) d_Bo_keepDraft_15 rfl ?_
          refine Rj_iret d_Bo_keepDraft_16 rfl ?_
          refine Rj_iret d_D_rule_72 rfl ?_
          exact fin_I (hF _ m D (by omega) a1 fr1 a3 (Fr.put (Fr.put (Fr.refl _ _) (Or.inl ⟨rfl, rfl⟩)) (Or.inr ⟨rfl, rfl⟩)) rfl rfl) (by omega)
  · refine Rj_iconst (q := 13) d_D_rule_12 rfl ?_
    refine Rj_iret d_D_rule_13 rfl ?_
    exact h6 (by omega)
