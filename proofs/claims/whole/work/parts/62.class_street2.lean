theorem oD_83_Sr_clauseAtHand : OI YD 83 y_Sr_clauseAtHand := ⟨by decide, _, _, _, cD_83, rfl⟩
theorem oD_83_Sr_isFullFor : OI YD 83 y_Sr_isFullFor := ⟨by decide, _, _, _, cD_83, rfl⟩
theorem gD_Sr_82_12 : GI YD "DoorsOnCogs$StreetReader" 82 12 4 none := ⟨by decide, _, _, _, fl_Sr_82, cD_12, by decide, rfl⟩
theorem oD_83_Sr_readJoin : OI YD 83 y_Sr_readJoin := ⟨by decide, _, _, _, cD_83, rfl⟩
theorem gD_Sr_85_12 : GI YD "DoorsOnCogs$StreetReader" 85 12 5 none := ⟨by decide, _, _, _, fl_Sr_85, cD_12, by decide, rfl⟩
theorem oD_83_Sr_readDoor : OI YD 83 y_Sr_readDoor := ⟨by decide, _, _, _, cD_83, rfl⟩
theorem oD_83_Sr_readFixed : OI YD 83 y_Sr_readFixed := ⟨by decide, _, _, _, cD_83, rfl⟩
/-! the class reads a street's text to its end -/
theorem wat_uniq {A : Int → Int} {n k a b : Int} (h1 : wat A n k a = true) (h2 : wat A n k b = true) : a = b := by
  unfold wat at h1 h2
  have h1 := of_decide_eq_true h1
  have h2 := of_decide_eq_true h2
  exact h1.2.2.symm.trans h2.2.2
theorem wat_no {A : Int → Int} {n k a b : Int} (h1 : wat A n k a = true) (hab : a ≠ b) : wat A n k b = false := by
  cases h : wat A n k b
  · rfl
  · exact absurd (wat_uniq h1 h) hab
theorem clH_c (A : Int → Int) (n k : Int) : (clH A n k = -1 ∧ ¬ (wat A n k 1685024626 = true ∨ wat A n k 439856162148 = true ∨ 0 ≤ stSort A n k)) ∨
    (clH A n k = 0 ∧ stSort A n k = 0 ∧ wat A n k 1685024626 = false ∧ wat A n k 439856162148 = false ∧ lend A n k = k + 4) ∨ (clH A n k = 1 ∧ stSort A n k = 1 ∧ wat A n k 1685024626 = false ∧ wat A n k 439856162148 = false ∧ lend A n k = k + 4) ∨
    (clH A n k = 2 ∧ stSort A n k = 2 ∧ wat A n k 1685024626 = false ∧ wat A n k 439856162148 = false ∧ lend A n k = k + 4) ∨ (clH A n k = 3 ∧ wat A n k 1685024626 = true) ∨ (clH A n k = 4 ∧ wat A n k 439856162148 = true ∧ wat A n k 1685024626 = false) := by
  unfold clH stSort
  by_cases h0 : wat A n k 1835365224 = true
  · refine Or.inr (Or.inl ⟨by rw [if_pos h0], by rw [if_pos h0], wat_no h0 (by decide), wat_no h0 (by decide), ?_⟩)
    have := WAT_end (w := 0) (by decide) ((WAT_iff (by decide)).mp (by rw [wN_0]; exact h0))
    rw [sLn_0] at this; exact this
  · by_cases h1 : wat A n k 1650814068 = true
    · refine Or.inr (Or.inr (Or.inl ⟨by rw [if_neg h0, if_pos h1], by rw [if_neg h0, if_pos h1], wat_no h1 (by decide), wat_no h1 (by decide), ?_⟩))
      have := WAT_end (w := 1) (by decide) ((WAT_iff (by decide)).mp (by rw [wN_1]; exact h1))
      rw [sLn_1] at this; exact this
    · by_cases h2 : wat A n k 1635282021 = true
      · refine Or.inr (Or.inr (Or.inr (Or.inl ⟨by rw [if_neg h0, if_neg h1, if_pos h2], by rw [if_neg h0, if_neg h1, if_pos h2], wat_no h2 (by decide), wat_no h2 (by decide), ?_⟩)))
        have := WAT_end (w := 2) (by decide) ((WAT_iff (by decide)).mp (by rw [wN_2]; exact h2))
        rw [sLn_2] at this; exact this
      · by_cases h3 : wat A n k 1685024626 = true
        · exact Or.inr (Or.inr (Or.inr (Or.inr (Or.inl ⟨by rw [if_neg h0, if_neg h1, if_neg h2, if_pos h3], h3⟩))))
        · by_cases h4 : wat A n k 439856162148 = true
          · exact Or.inr (Or.inr (Or.inr (Or.inr (Or.inr ⟨by rw [if_neg h0, if_neg h1, if_neg h2, if_neg h3, if_pos h4], h4, by simpa using h3⟩))))
          · refine Or.inl ⟨by rw [if_neg h0, if_neg h1, if_neg h2, if_neg h3, if_neg h4], ?_⟩
            rw [if_neg h0, if_neg h1, if_neg h2]
            rintro (q | q | q)
            · exact h3 q
            · exact h4 q
            · omega
theorem stClause_ln {A : Int → Int} {n : Int} {σ σ' : StS} (h : stClause A n σ = .ok σ') : σ'.2.1 = σ.2.1 + 1 := by
  unfold stClause at h
  split at h
  · unfold stCl2 at h
    split at h
    · cases h
    · split at h
      · unfold stDoor at h
        split at h
        · cases h
        · split at h
          · cases h
          · split at h
            · cases h
            · cases h; rfl
      · split at h
        · unfold stFixed at h
          split at h
          · cases h
          · cases h; rfl
        · unfold stJoin at h
          split at h
          · cases h
          · split at h
            · cases h
            · split at h
              · cases h
              · split at h
                · cases h
                · cases h; rfl
  · cases h
set_option maxHeartbeats 4000000 in
theorem s_readClause {μ : Mem} {Q : PV → Mem → Prop} {A : Int → Int} {n k : Int} (hT : TD μ A n) (hk : μ 2 2 = k) (h0 : 0 ≤ k ∧ k ≤ n) {ln D J X FX : Int} {dr jr : Int → Int} (hf0 : μ 2 3 = 0) (hO : StOK n (k, ln, D, J, X, FX, dr, jr)) (hD : DRF μ (k, ln, D, J, X, FX, dr, jr)) (h1 : ∀ σ' μ', stClause A n (k, ln, D, J, X, FX, dr, jr) = .ok σ' → Fr Wrd μ μ' → DRF μ' σ' → μ' 2 2 = σ'.1 → μ' 2 3 = 0 → Q vU μ') (h2 : ∀ wr μ', stClause A n (k, ln, D, J, X, FX, dr, jr) = .error wr → Fr Wsc μ μ' → μ' 2 3 = wr → Q vU μ') : Rj YD y_Sr_readClause 0 [vA 83, vI ln] [] μ Q := by
  have hn := hT.2.1
  have hX := hT.1.1
  obtain ⟨hd0, hd4, hd5, hd3, hdd, hdj⟩ := id hD
  dsimp only at hd0 hd4 hd5 hd3 hdd hdj
  obtain ⟨o0, o1, o2, o3, o4, o5, o6⟩ := id hO
  dsimp only at o0 o1 o2 o3 o4
  refine Rj_aload_n (q := 1) d_Sr_readClause_0 rfl rfl rfl ?_
  refine Rj_vo (q := 4) (z := y_Sr_clauseAtHand) (as := []) (rest := []) (la := [vA 83]) oD_83_Sr_clauseAtHand ml_Sr_48 mw_Sr_clauseAtHand mv_Sr_clauseAtHand rfl d_Sr_readClause_1 rfl rfl rfl rfl rfl ?_
  refine s_clauseAtHand hT hk h0 ?_
  have rs := sk_bd A (n := n) (k := k) h0.2
  rcases clH_c A n (sk A n k) with hc | hc | hc | hc | hc | hc
  · rw [hc.1]
    refine Rj_istore_n (q := 5) (ls' := [vA 83, vI ln, vI (-1)]) d_Sr_readClause_4 rfl rfl (by decide) rfl ?_
    refine Rj_iload_n (q := 6) d_Sr_readClause_5 rfl rfl rfl ?_
    refine Rj_iconst (q := 7) d_Sr_readClause_6 rfl ?_
    refine Rj_icmp_ne (q := 10) (t := 28) d_Sr_readClause_7 rfl (by decide) (by decide) (by decide) (fun c => absurd c (by decide)) (fun _ => ?_)
    refine Rj_aload_n (q := 11) d_Sr_readClause_10 rfl rfl rfl ?_
    refine Rj_gr (q := 14) (zd := 2) gD_Sr_9_83 rfl rfl d_Sr_readClause_11 rfl ?_
    refine Rj_aload_n (q := 15) d_Sr_readClause_14 rfl rfl rfl ?_
    refine Rj_gr (q := 18) (zd := 2) gD_Sr_9_83 rfl rfl d_Sr_readClause_15 rfl ?_
    refine Rj_gi (q := 21) (ki := 2) (v := sk A n k) gD_Sr_52_2 rfl rfl rfl d_Sr_readClause_18 rfl ?_
    refine Rj_iconst (q := 22) d_Sr_readClause_21 rfl ?_
    refine Rj_vov (q := 25) (z := y_Sp_fail) (as := [vI (sk A n k), vI 0]) (rest := []) (la := [vA 2, vI (sk A n k), vI 0]) oD_2_Sp_fail ml_Sr_44 mw_Sp_fail mv_Sp_fail rfl d_Sr_readClause_22 rfl rfl rfl rfl rfl ?_
    refine Rj_aload_n (q := 1) d_Sp_fail_0 rfl rfl rfl ?_
    refine Rj_gi (q := 4) (ki := 3) (v := 0) gD_Sp_28_2 rfl rfl hf0 d_Sp_fail_1 rfl ?_
    refine Rj_if_ne (q := 7) (t := 19) d_Sp_fail_4 rfl (by decide) (by decide) (fun c => absurd c (by decide)) (fun _ => ?_)
    refine Rj_aload_n (q := 8) d_Sp_fail_7 rfl rfl rfl ?_
    refine Rj_iconst (q := 9) d_Sp_fail_8 rfl ?_
    refine Rj_bipush (q := 11) d_Sp_fail_9 rfl (by decide +kernel) ?_
    refine Rj_iload_n (q := 12) d_Sp_fail_11 rfl rfl rfl ?_
    refine Rj_imul (q := 13) d_Sp_fail_12 rfl ?_
    refine Rj_iadd (q := 14) d_Sp_fail_13 rfl ?_
    refine Rj_iload_n (q := 15) d_Sp_fail_14 rfl rfl rfl ?_
    refine Rj_iadd (q := 16) d_Sp_fail_15 rfl ?_
    refine Rj_pi (q := 19) (ki := 3) pD_Sp_28_2 rfl rfl d_Sp_fail_16 rfl ?_
    refine Rj_vret d_Sp_fail_19 rfl ?_
    refine Rj_goto (t := 89) d_Sr_readClause_25 (by decide) ?_
    refine Rj_vret d_Sr_readClause_89 rfl ?_
    refine h2 ((1 + (8 * (sk A n k))) + 0) _ ?_ (Fr.put (Fr.put (Fr.refl _ _) (by decide)) (by decide)) rfl
    unfold stClause
    dsimp only
    exact if_neg hc.2
  · rw [hc.1]
    refine Rj_istore_n (q := 5) (ls' := [vA 83, vI ln, vI 0]) d_Sr_readClause_4 rfl rfl (by decide) rfl ?_
    refine Rj_iload_n (q := 6) d_Sr_readClause_5 rfl rfl rfl ?_
    refine Rj_iconst (q := 7) d_Sr_readClause_6 rfl ?_
    refine Rj_icmp_ne (q := 10) (t := 28) d_Sr_readClause_7 rfl (by decide) (by decide) (by decide) (fun _ => ?_) (fun c => absurd c (by decide))
    refine Rj_iload_n (q := 29) d_Sr_readClause_28 rfl rfl rfl ?_
    refine Rj_bipush (q := 31) d_Sr_readClause_29 rfl (by decide +kernel) ?_
    refine Rj_icmp_ge (q := 34) (t := 42) d_Sr_readClause_31 rfl (by decide) ⟨by omega, by omega⟩ (by decide) (fun c31 => ?_) (fun c31 => ?_)
    · refine Rj_aload_n (q := 43) d_Sr_readClause_42 rfl rfl rfl ?_
      refine Rj_gr (q := 46) (zd := 2) gD_Sr_9_83 rfl rfl d_Sr_readClause_43 rfl ?_
      refine Rj_aload_n (q := 47) d_Sr_readClause_46 rfl rfl rfl ?_
      refine Rj_gr (q := 50) (zd := 2) gD_Sr_9_83 rfl rfl d_Sr_readClause_47 rfl ?_
      refine Rj_gi (q := 53) (ki := 2) (v := sk A n k) gD_Sr_52_2 rfl rfl rfl d_Sr_readClause_50 rfl ?_
      refine Rj_iconst (q := 54) d_Sr_readClause_53 rfl ?_
      refine Rj_vov (q := 57) (z := y_Sp_fail) (as := [vI (sk A n k), vI 4]) (rest := []) (la := [vA 2, vI (sk A n k), vI 4]) oD_2_Sp_fail ml_Sr_44 mw_Sp_fail mv_Sp_fail rfl d_Sr_readClause_54 rfl rfl rfl rfl rfl ?_
      refine Rj_aload_n (q := 1) d_Sp_fail_0 rfl rfl rfl ?_
      refine Rj_gi (q := 4) (ki := 3) (v := 0) gD_Sp_28_2 rfl rfl hf0 d_Sp_fail_1 rfl ?_
      refine Rj_if_ne (q := 7) (t := 19) d_Sp_fail_4 rfl (by decide) (by decide) (fun c => absurd c (by decide)) (fun _ => ?_)
      refine Rj_aload_n (q := 8) d_Sp_fail_7 rfl rfl rfl ?_
      refine Rj_iconst (q := 9) d_Sp_fail_8 rfl ?_
      refine Rj_bipush (q := 11) d_Sp_fail_9 rfl (by decide +kernel) ?_
      refine Rj_iload_n (q := 12) d_Sp_fail_11 rfl rfl rfl ?_
      refine Rj_imul (q := 13) d_Sp_fail_12 rfl ?_
      refine Rj_iadd (q := 14) d_Sp_fail_13 rfl ?_
      refine Rj_iload_n (q := 15) d_Sp_fail_14 rfl rfl rfl ?_
      refine Rj_iadd (q := 16) d_Sp_fail_15 rfl ?_
      refine Rj_pi (q := 19) (ki := 3) pD_Sp_28_2 rfl rfl d_Sp_fail_16 rfl ?_
      refine Rj_vret d_Sp_fail_19 rfl ?_
      refine Rj_goto (t := 89) d_Sr_readClause_57 (by decide) ?_
      refine Rj_vret d_Sr_readClause_89 rfl ?_
      refine h2 ((1 + (8 * (sk A n k))) + 4) _ ?_ (Fr.put (Fr.put (Fr.refl _ _) (by decide)) (by decide)) rfl
      unfold stClause stCl2
      dsimp only
      rw [if_pos (by first | exact Or.inl hc.2 | exact Or.inr (Or.inl hc.2.1) | exact Or.inr (Or.inr (by omega)))]
      by_cases e32 : ln = 32
      · rw [if_pos e32]
      · rw [if_neg e32]
        first
        | (rw [if_pos hc.2]; unfold stDoor; dsimp only; rw [if_pos (by omega)])
        | (rw [if_neg (by rw [hc.2.2.1]; decide), if_neg (by rw [hc.2.2.2.1]; decide)]; unfold stJoin; dsimp only; rw [if_pos (by omega)])
        | (exfalso; omega)
    · refine Rj_aload_n (q := 35) d_Sr_readClause_34 rfl rfl rfl ?_
      refine Rj_iload_n (q := 36) d_Sr_readClause_35 rfl rfl rfl ?_
      refine Rj_vo (q := 39) (z := y_Sr_isFullFor) (as := [vI 0]) (rest := []) (la := [vA 83, vI 0]) oD_83_Sr_isFullFor ml_Sr_55 mw_Sr_isFullFor mv_Sr_isFullFor rfl d_Sr_readClause_36 rfl rfl rfl rfl rfl ?_
      refine Rj_iload_n (q := 1) d_Sr_isFullFor_0 rfl rfl rfl ?_
      refine Rj_iconst (q := 2) d_Sr_isFullFor_1 rfl ?_
      refine Rj_icmp_ne (q := 5) (t := 7) d_Sr_isFullFor_2 rfl (by decide) (by decide) (by decide) (fun _ => ?_) (fun c => absurd c (by decide))
      refine Rj_iload_n (q := 8) d_Sr_isFullFor_7 rfl rfl rfl ?_
      refine Rj_iconst (q := 9) d_Sr_isFullFor_8 rfl ?_
      refine Rj_icmp_ne (q := 12) (t := 30) d_Sr_isFullFor_9 rfl (by decide) (by decide) (by decide) (fun _ => ?_) (fun c => absurd c (by decide))
      refine Rj_aload_n (q := 31) d_Sr_isFullFor_30 rfl rfl rfl ?_
      refine Rj_gr (q := 34) (zd := 12) gD_Sr_15_83 rfl rfl d_Sr_isFullFor_31 rfl ?_
      refine Rj_gi (q := 37) (ki := 4) (v := J) gD_Sr_82_12 rfl rfl hd4 d_Sr_isFullFor_34 rfl ?_
      refine Rj_bipush (q := 39) d_Sr_isFullFor_37 rfl (by decide +kernel) ?_
      refine Rj_icmp_ge (q := 42) (t := 58) d_Sr_isFullFor_39 rfl (by decide) ⟨by omega, by omega⟩ (by decide) (fun c36_39 => ?_) (fun c36_39 => ?_)
      · refine Rj_iconst (q := 59) d_Sr_isFullFor_58 rfl ?_
        refine Rj_goto (t := 63) d_Sr_isFullFor_59 (by decide) ?_
        refine Rj_bret1 d_Sr_isFullFor_63 rfl ?_
        refine Rj_if_eq (q := 42) (t := 60) d_Sr_readClause_39 rfl (by decide) (by decide) (fun c => absurd c (by decide)) (fun _ => ?_)
        refine Rj_aload_n (q := 43) d_Sr_readClause_42 rfl rfl rfl ?_
        refine Rj_gr (q := 46) (zd := 2) gD_Sr_9_83 rfl rfl d_Sr_readClause_43 rfl ?_
        refine Rj_aload_n (q := 47) d_Sr_readClause_46 rfl rfl rfl ?_
        refine Rj_gr (q := 50) (zd := 2) gD_Sr_9_83 rfl rfl d_Sr_readClause_47 rfl ?_
        refine Rj_gi (q := 53) (ki := 2) (v := sk A n k) gD_Sr_52_2 rfl rfl rfl d_Sr_readClause_50 rfl ?_
        refine Rj_iconst (q := 54) d_Sr_readClause_53 rfl ?_
        refine Rj_vov (q := 57) (z := y_Sp_fail) (as := [vI (sk A n k), vI 4]) (rest := []) (la := [vA 2, vI (sk A n k), vI 4]) oD_2_Sp_fail ml_Sr_44 mw_Sp_fail mv_Sp_fail rfl d_Sr_readClause_54 rfl rfl rfl rfl rfl ?_
        refine Rj_aload_n (q := 1) d_Sp_fail_0 rfl rfl rfl ?_
        refine Rj_gi (q := 4) (ki := 3) (v := 0) gD_Sp_28_2 rfl rfl hf0 d_Sp_fail_1 rfl ?_
        refine Rj_if_ne (q := 7) (t := 19) d_Sp_fail_4 rfl (by decide) (by decide) (fun c => absurd c (by decide)) (fun _ => ?_)
        refine Rj_aload_n (q := 8) d_Sp_fail_7 rfl rfl rfl ?_
        refine Rj_iconst (q := 9) d_Sp_fail_8 rfl ?_
        refine Rj_bipush (q := 11) d_Sp_fail_9 rfl (by decide +kernel) ?_
        refine Rj_iload_n (q := 12) d_Sp_fail_11 rfl rfl rfl ?_
        refine Rj_imul (q := 13) d_Sp_fail_12 rfl ?_
        refine Rj_iadd (q := 14) d_Sp_fail_13 rfl ?_
        refine Rj_iload_n (q := 15) d_Sp_fail_14 rfl rfl rfl ?_
        refine Rj_iadd (q := 16) d_Sp_fail_15 rfl ?_
        refine Rj_pi (q := 19) (ki := 3) pD_Sp_28_2 rfl rfl d_Sp_fail_16 rfl ?_
        refine Rj_vret d_Sp_fail_19 rfl ?_
        refine Rj_goto (t := 89) d_Sr_readClause_57 (by decide) ?_
        refine Rj_vret d_Sr_readClause_89 rfl ?_
        refine h2 ((1 + (8 * (sk A n k))) + 4) _ ?_ (Fr.put (Fr.put (Fr.refl _ _) (by decide)) (by decide)) rfl
        unfold stClause stCl2
        dsimp only
        rw [if_pos (by first | exact Or.inl hc.2 | exact Or.inr (Or.inl hc.2.1) | exact Or.inr (Or.inr (by omega)))]
        by_cases e32 : ln = 32
        · rw [if_pos e32]
        · rw [if_neg e32]
          first
          | (rw [if_pos hc.2]; unfold stDoor; dsimp only; rw [if_pos (by omega)])
          | (rw [if_neg (by rw [hc.2.2.1]; decide), if_neg (by rw [hc.2.2.2.1]; decide)]; unfold stJoin; dsimp only; rw [if_pos (by omega)])
          | (exfalso; omega)
      · refine Rj_iload_n (q := 43) d_Sr_isFullFor_42 rfl rfl rfl ?_
        refine Rj_iconst (q := 44) d_Sr_isFullFor_43 rfl ?_
        refine Rj_icmp_ne (q := 47) (t := 62) d_Sr_isFullFor_44 rfl (by decide) (by decide) (by decide) (fun _ => ?_) (fun c => absurd c (by decide))
        refine Rj_iconst (q := 63) d_Sr_isFullFor_62 rfl ?_
        refine Rj_bret0 d_Sr_isFullFor_63 rfl ?_
        refine Rj_if_eq (q := 42) (t := 60) d_Sr_readClause_39 rfl (by decide) (by decide) (fun _ => ?_) (fun c => absurd c (by decide))
        refine Rj_iload_n (q := 61) d_Sr_readClause_60 rfl rfl rfl ?_
        refine Rj_iconst (q := 62) d_Sr_readClause_61 rfl ?_
        refine Rj_icmp_ne (q := 65) (t := 72) d_Sr_readClause_62 rfl (by decide) (by decide) (by decide) (fun _ => ?_) (fun c => absurd c (by decide))
        refine Rj_iload_n (q := 73) d_Sr_readClause_72 rfl rfl rfl ?_
        refine Rj_iconst (q := 74) d_Sr_readClause_73 rfl ?_
        refine Rj_icmp_ne (q := 77) (t := 84) d_Sr_readClause_74 rfl (by decide) (by decide) (by decide) (fun _ => ?_) (fun c => absurd c (by decide))
        refine Rj_aload_n (q := 85) d_Sr_readClause_84 rfl rfl rfl ?_
        refine Rj_iload_n (q := 86) d_Sr_readClause_85 rfl rfl rfl ?_
        refine Rj_vov (q := 89) (z := y_Sr_readJoin) (as := [vI 0]) (rest := []) (la := [vA 83, vI 0]) oD_83_Sr_readJoin ml_Sr_65 mw_Sr_readJoin mv_Sr_readJoin rfl d_Sr_readClause_86 rfl rfl rfl rfl rfl ?_
        refine s_readJoin (μ := mset μ 2 2 (sk A n k)) (A := A) (n := n) (k := sk A n k) (ln := ln + 1) (D := D) (J := J) (X := X) (FX := FX) (dr := dr) (jr := jr) (hT.keep rfl rfl) rfl (by omega) hf0 (sk_idem _ _ _) ⟨⟨by dsimp only; omega, by dsimp only; omega⟩, ⟨by dsimp only; omega, by dsimp only; omega⟩, hO.2.2⟩ hD (by decide) hc.2.2.2.2 (by omega) (fun σ' m q f d e g => ?_) (fun wr m q f g => ?_)
        · have okk := True.intro
          refine Rj_vret d_Sr_readClause_89 rfl ?_
          refine h1 _ m ?_ (Fr.trans (Fr.put (Fr.refl _ _) (by decide)) f) d e g
          unfold stClause stCl2
          dsimp only
          rw [if_pos (by first | exact Or.inl hc.2 | exact Or.inr (Or.inl hc.2.1) | exact Or.inr (Or.inr (by omega))), if_neg (by omega)]
          first
          | (rw [if_pos hc.2]; exact q)
          | (rw [if_neg (by rw [hc.2.2]; decide), if_pos hc.2.1]; exact q)
          | (rw [if_neg (by rw [hc.2.2.1]; decide), if_neg (by rw [hc.2.2.2.1]; decide), hc.2.1]; exact q)
        · have bad := True.intro
          refine Rj_vret d_Sr_readClause_89 rfl ?_
          refine h2 _ m ?_ (Fr.trans (Fr.put (Fr.refl _ _) (by decide)) f) g
          unfold stClause stCl2
          dsimp only
          rw [if_pos (by first | exact Or.inl hc.2 | exact Or.inr (Or.inl hc.2.1) | exact Or.inr (Or.inr (by omega))), if_neg (by omega)]
          first
          | (rw [if_pos hc.2]; exact q)
          | (rw [if_neg (by rw [hc.2.2]; decide), if_pos hc.2.1]; exact q)
          | (rw [if_neg (by rw [hc.2.2.1]; decide), if_neg (by rw [hc.2.2.2.1]; decide), hc.2.1]; exact q)
  · rw [hc.1]
    refine Rj_istore_n (q := 5) (ls' := [vA 83, vI ln, vI 1]) d_Sr_readClause_4 rfl rfl (by decide) rfl ?_
    refine Rj_iload_n (q := 6) d_Sr_readClause_5 rfl rfl rfl ?_
    refine Rj_iconst (q := 7) d_Sr_readClause_6 rfl ?_
    refine Rj_icmp_ne (q := 10) (t := 28) d_Sr_readClause_7 rfl (by decide) (by decide) (by decide) (fun _ => ?_) (fun c => absurd c (by decide))
    refine Rj_iload_n (q := 29) d_Sr_readClause_28 rfl rfl rfl ?_
    refine Rj_bipush (q := 31) d_Sr_readClause_29 rfl (by decide +kernel) ?_
    refine Rj_icmp_ge (q := 34) (t := 42) d_Sr_readClause_31 rfl (by decide) ⟨by omega, by omega⟩ (by decide) (fun c31 => ?_) (fun c31 => ?_)
    · refine Rj_aload_n (q := 43) d_Sr_readClause_42 rfl rfl rfl ?_
      refine Rj_gr (q := 46) (zd := 2) gD_Sr_9_83 rfl rfl d_Sr_readClause_43 rfl ?_
      refine Rj_aload_n (q := 47) d_Sr_readClause_46 rfl rfl rfl ?_
      refine Rj_gr (q := 50) (zd := 2) gD_Sr_9_83 rfl rfl d_Sr_readClause_47 rfl ?_
      refine Rj_gi (q := 53) (ki := 2) (v := sk A n k) gD_Sr_52_2 rfl rfl rfl d_Sr_readClause_50 rfl ?_
      refine Rj_iconst (q := 54) d_Sr_readClause_53 rfl ?_
      refine Rj_vov (q := 57) (z := y_Sp_fail) (as := [vI (sk A n k), vI 4]) (rest := []) (la := [vA 2, vI (sk A n k), vI 4]) oD_2_Sp_fail ml_Sr_44 mw_Sp_fail mv_Sp_fail rfl d_Sr_readClause_54 rfl rfl rfl rfl rfl ?_
      refine Rj_aload_n (q := 1) d_Sp_fail_0 rfl rfl rfl ?_
      refine Rj_gi (q := 4) (ki := 3) (v := 0) gD_Sp_28_2 rfl rfl hf0 d_Sp_fail_1 rfl ?_
      refine Rj_if_ne (q := 7) (t := 19) d_Sp_fail_4 rfl (by decide) (by decide) (fun c => absurd c (by decide)) (fun _ => ?_)
      refine Rj_aload_n (q := 8) d_Sp_fail_7 rfl rfl rfl ?_
      refine Rj_iconst (q := 9) d_Sp_fail_8 rfl ?_
      refine Rj_bipush (q := 11) d_Sp_fail_9 rfl (by decide +kernel) ?_
      refine Rj_iload_n (q := 12) d_Sp_fail_11 rfl rfl rfl ?_
      refine Rj_imul (q := 13) d_Sp_fail_12 rfl ?_
      refine Rj_iadd (q := 14) d_Sp_fail_13 rfl ?_
      refine Rj_iload_n (q := 15) d_Sp_fail_14 rfl rfl rfl ?_
      refine Rj_iadd (q := 16) d_Sp_fail_15 rfl ?_
      refine Rj_pi (q := 19) (ki := 3) pD_Sp_28_2 rfl rfl d_Sp_fail_16 rfl ?_
      refine Rj_vret d_Sp_fail_19 rfl ?_
      refine Rj_goto (t := 89) d_Sr_readClause_57 (by decide) ?_
      refine Rj_vret d_Sr_readClause_89 rfl ?_
      refine h2 ((1 + (8 * (sk A n k))) + 4) _ ?_ (Fr.put (Fr.put (Fr.refl _ _) (by decide)) (by decide)) rfl
      unfold stClause stCl2
      dsimp only
      rw [if_pos (by first | exact Or.inl hc.2 | exact Or.inr (Or.inl hc.2.1) | exact Or.inr (Or.inr (by omega)))]
      by_cases e32 : ln = 32
      · rw [if_pos e32]
      · rw [if_neg e32]
        first
        | (rw [if_pos hc.2]; unfold stDoor; dsimp only; rw [if_pos (by omega)])
        | (rw [if_neg (by rw [hc.2.2.1]; decide), if_neg (by rw [hc.2.2.2.1]; decide)]; unfold stJoin; dsimp only; rw [if_pos (by omega)])
        | (exfalso; omega)
    · refine Rj_aload_n (q := 35) d_Sr_readClause_34 rfl rfl rfl ?_
      refine Rj_iload_n (q := 36) d_Sr_readClause_35 rfl rfl rfl ?_
      refine Rj_vo (q := 39) (z := y_Sr_isFullFor) (as := [vI 1]) (rest := []) (la := [vA 83, vI 1]) oD_83_Sr_isFullFor ml_Sr_55 mw_Sr_isFullFor mv_Sr_isFullFor rfl d_Sr_readClause_36 rfl rfl rfl rfl rfl ?_
      refine Rj_iload_n (q := 1) d_Sr_isFullFor_0 rfl rfl rfl ?_
      refine Rj_iconst (q := 2) d_Sr_isFullFor_1 rfl ?_
      refine Rj_icmp_ne (q := 5) (t := 7) d_Sr_isFullFor_2 rfl (by decide) (by decide) (by decide) (fun _ => ?_) (fun c => absurd c (by decide))
      refine Rj_iload_n (q := 8) d_Sr_isFullFor_7 rfl rfl rfl ?_
      refine Rj_iconst (q := 9) d_Sr_isFullFor_8 rfl ?_
      refine Rj_icmp_ne (q := 12) (t := 30) d_Sr_isFullFor_9 rfl (by decide) (by decide) (by decide) (fun _ => ?_) (fun c => absurd c (by decide))
      refine Rj_aload_n (q := 31) d_Sr_isFullFor_30 rfl rfl rfl ?_
      refine Rj_gr (q := 34) (zd := 12) gD_Sr_15_83 rfl rfl d_Sr_isFullFor_31 rfl ?_
      refine Rj_gi (q := 37) (ki := 4) (v := J) gD_Sr_82_12 rfl rfl hd4 d_Sr_isFullFor_34 rfl ?_
      refine Rj_bipush (q := 39) d_Sr_isFullFor_37 rfl (by decide +kernel) ?_
      refine Rj_icmp_ge (q := 42) (t := 58) d_Sr_isFullFor_39 rfl (by decide) ⟨by omega, by omega⟩ (by decide) (fun c36_39 => ?_) (fun c36_39 => ?_)
      · refine Rj_iconst (q := 59) d_Sr_isFullFor_58 rfl ?_
        refine Rj_goto (t := 63) d_Sr_isFullFor_59 (by decide) ?_
        refine Rj_bret1 d_Sr_isFullFor_63 rfl ?_
        refine Rj_if_eq (q := 42) (t := 60) d_Sr_readClause_39 rfl (by decide) (by decide) (fun c => absurd c (by decide)) (fun _ => ?_)
        refine Rj_aload_n (q := 43) d_Sr_readClause_42 rfl rfl rfl ?_
        refine Rj_gr (q := 46) (zd := 2) gD_Sr_9_83 rfl rfl d_Sr_readClause_43 rfl ?_
        refine Rj_aload_n (q := 47) d_Sr_readClause_46 rfl rfl rfl ?_
        refine Rj_gr (q := 50) (zd := 2) gD_Sr_9_83 rfl rfl d_Sr_readClause_47 rfl ?_
        refine Rj_gi (q := 53) (ki := 2) (v := sk A n k) gD_Sr_52_2 rfl rfl rfl d_Sr_readClause_50 rfl ?_
        refine Rj_iconst (q := 54) d_Sr_readClause_53 rfl ?_
        refine Rj_vov (q := 57) (z := y_Sp_fail) (as := [vI (sk A n k), vI 4]) (rest := []) (la := [vA 2, vI (sk A n k), vI 4]) oD_2_Sp_fail ml_Sr_44 mw_Sp_fail mv_Sp_fail rfl d_Sr_readClause_54 rfl rfl rfl rfl rfl ?_
        refine Rj_aload_n (q := 1) d_Sp_fail_0 rfl rfl rfl ?_
        refine Rj_gi (q := 4) (ki := 3) (v := 0) gD_Sp_28_2 rfl rfl hf0 d_Sp_fail_1 rfl ?_
        refine Rj_if_ne (q := 7) (t := 19) d_Sp_fail_4 rfl (by decide) (by decide) (fun c => absurd c (by decide)) (fun _ => ?_)
        refine Rj_aload_n (q := 8) d_Sp_fail_7 rfl rfl rfl ?_
        refine Rj_iconst (q := 9) d_Sp_fail_8 rfl ?_
        refine Rj_bipush (q := 11) d_Sp_fail_9 rfl (by decide +kernel) ?_
        refine Rj_iload_n (q := 12) d_Sp_fail_11 rfl rfl rfl ?_
        refine Rj_imul (q := 13) d_Sp_fail_12 rfl ?_
        refine Rj_iadd (q := 14) d_Sp_fail_13 rfl ?_
        refine Rj_iload_n (q := 15) d_Sp_fail_14 rfl rfl rfl ?_
        refine Rj_iadd (q := 16) d_Sp_fail_15 rfl ?_
        refine Rj_pi (q := 19) (ki := 3) pD_Sp_28_2 rfl rfl d_Sp_fail_16 rfl ?_
        refine Rj_vret d_Sp_fail_19 rfl ?_
        refine Rj_goto (t := 89) d_Sr_readClause_57 (by decide) ?_
        refine Rj_vret d_Sr_readClause_89 rfl ?_
        refine h2 ((1 + (8 * (sk A n k))) + 4) _ ?_ (Fr.put (Fr.put (Fr.refl _ _) (by decide)) (by decide)) rfl
        unfold stClause stCl2
        dsimp only
        rw [if_pos (by first | exact Or.inl hc.2 | exact Or.inr (Or.inl hc.2.1) | exact Or.inr (Or.inr (by omega)))]
        by_cases e32 : ln = 32
        · rw [if_pos e32]
        · rw [if_neg e32]
          first
          | (rw [if_pos hc.2]; unfold stDoor; dsimp only; rw [if_pos (by omega)])
          | (rw [if_neg (by rw [hc.2.2.1]; decide), if_neg (by rw [hc.2.2.2.1]; decide)]; unfold stJoin; dsimp only; rw [if_pos (by omega)])
          | (exfalso; omega)
      · refine Rj_iload_n (q := 43) d_Sr_isFullFor_42 rfl rfl rfl ?_
        refine Rj_iconst (q := 44) d_Sr_isFullFor_43 rfl ?_
        refine Rj_icmp_ne (q := 47) (t := 62) d_Sr_isFullFor_44 rfl (by decide) (by decide) (by decide) (fun _ => ?_) (fun c => absurd c (by decide))
        refine Rj_iconst (q := 63) d_Sr_isFullFor_62 rfl ?_
        refine Rj_bret0 d_Sr_isFullFor_63 rfl ?_
        refine Rj_if_eq (q := 42) (t := 60) d_Sr_readClause_39 rfl (by decide) (by decide) (fun _ => ?_) (fun c => absurd c (by decide))
        refine Rj_iload_n (q := 61) d_Sr_readClause_60 rfl rfl rfl ?_
        refine Rj_iconst (q := 62) d_Sr_readClause_61 rfl ?_
        refine Rj_icmp_ne (q := 65) (t := 72) d_Sr_readClause_62 rfl (by decide) (by decide) (by decide) (fun _ => ?_) (fun c => absurd c (by decide))
        refine Rj_iload_n (q := 73) d_Sr_readClause_72 rfl rfl rfl ?_
        refine Rj_iconst (q := 74) d_Sr_readClause_73 rfl ?_
        refine Rj_icmp_ne (q := 77) (t := 84) d_Sr_readClause_74 rfl (by decide) (by decide) (by decide) (fun _ => ?_) (fun c => absurd c (by decide))
        refine Rj_aload_n (q := 85) d_Sr_readClause_84 rfl rfl rfl ?_
        refine Rj_iload_n (q := 86) d_Sr_readClause_85 rfl rfl rfl ?_
        refine Rj_vov (q := 89) (z := y_Sr_readJoin) (as := [vI 1]) (rest := []) (la := [vA 83, vI 1]) oD_83_Sr_readJoin ml_Sr_65 mw_Sr_readJoin mv_Sr_readJoin rfl d_Sr_readClause_86 rfl rfl rfl rfl rfl ?_
        refine s_readJoin (μ := mset μ 2 2 (sk A n k)) (A := A) (n := n) (k := sk A n k) (ln := ln + 1) (D := D) (J := J) (X := X) (FX := FX) (dr := dr) (jr := jr) (hT.keep rfl rfl) rfl (by omega) hf0 (sk_idem _ _ _) ⟨⟨by dsimp only; omega, by dsimp only; omega⟩, ⟨by dsimp only; omega, by dsimp only; omega⟩, hO.2.2⟩ hD (by decide) hc.2.2.2.2 (by omega) (fun σ' m q f d e g => ?_) (fun wr m q f g => ?_)
        · have okk := True.intro
          refine Rj_vret d_Sr_readClause_89 rfl ?_
          refine h1 _ m ?_ (Fr.trans (Fr.put (Fr.refl _ _) (by decide)) f) d e g
          unfold stClause stCl2
          dsimp only
          rw [if_pos (by first | exact Or.inl hc.2 | exact Or.inr (Or.inl hc.2.1) | exact Or.inr (Or.inr (by omega))), if_neg (by omega)]
          first
          | (rw [if_pos hc.2]; exact q)
          | (rw [if_neg (by rw [hc.2.2]; decide), if_pos hc.2.1]; exact q)
          | (rw [if_neg (by rw [hc.2.2.1]; decide), if_neg (by rw [hc.2.2.2.1]; decide), hc.2.1]; exact q)
        · have bad := True.intro
          refine Rj_vret d_Sr_readClause_89 rfl ?_
          refine h2 _ m ?_ (Fr.trans (Fr.put (Fr.refl _ _) (by decide)) f) g
          unfold stClause stCl2
          dsimp only
          rw [if_pos (by first | exact Or.inl hc.2 | exact Or.inr (Or.inl hc.2.1) | exact Or.inr (Or.inr (by omega))), if_neg (by omega)]
          first
          | (rw [if_pos hc.2]; exact q)
          | (rw [if_neg (by rw [hc.2.2]; decide), if_pos hc.2.1]; exact q)
          | (rw [if_neg (by rw [hc.2.2.1]; decide), if_neg (by rw [hc.2.2.2.1]; decide), hc.2.1]; exact q)
  · rw [hc.1]
    refine Rj_istore_n (q := 5) (ls' := [vA 83, vI ln, vI 2]) d_Sr_readClause_4 rfl rfl (by decide) rfl ?_
    refine Rj_iload_n (q := 6) d_Sr_readClause_5 rfl rfl rfl ?_
    refine Rj_iconst (q := 7) d_Sr_readClause_6 rfl ?_
    refine Rj_icmp_ne (q := 10) (t := 28) d_Sr_readClause_7 rfl (by decide) (by decide) (by decide) (fun _ => ?_) (fun c => absurd c (by decide))
    refine Rj_iload_n (q := 29) d_Sr_readClause_28 rfl rfl rfl ?_
    refine Rj_bipush (q := 31) d_Sr_readClause_29 rfl (by decide +kernel) ?_
    refine Rj_icmp_ge (q := 34) (t := 42) d_Sr_readClause_31 rfl (by decide) ⟨by omega, by omega⟩ (by decide) (fun c31 => ?_) (fun c31 => ?_)
    · refine Rj_aload_n (q := 43) d_Sr_readClause_42 rfl rfl rfl ?_
      refine Rj_gr (q := 46) (zd := 2) gD_Sr_9_83 rfl rfl d_Sr_readClause_43 rfl ?_
      refine Rj_aload_n (q := 47) d_Sr_readClause_46 rfl rfl rfl ?_
      refine Rj_gr (q := 50) (zd := 2) gD_Sr_9_83 rfl rfl d_Sr_readClause_47 rfl ?_
      refine Rj_gi (q := 53) (ki := 2) (v := sk A n k) gD_Sr_52_2 rfl rfl rfl d_Sr_readClause_50 rfl ?_
      refine Rj_iconst (q := 54) d_Sr_readClause_53 rfl ?_
      refine Rj_vov (q := 57) (z := y_Sp_fail) (as := [vI (sk A n k), vI 4]) (rest := []) (la := [vA 2, vI (sk A n k), vI 4]) oD_2_Sp_fail ml_Sr_44 mw_Sp_fail mv_Sp_fail rfl d_Sr_readClause_54 rfl rfl rfl rfl rfl ?_
      refine Rj_aload_n (q := 1) d_Sp_fail_0 rfl rfl rfl ?_
      refine Rj_gi (q := 4) (ki := 3) (v := 0) gD_Sp_28_2 rfl rfl hf0 d_Sp_fail_1 rfl ?_
      refine Rj_if_ne (q := 7) (t := 19) d_Sp_fail_4 rfl (by decide) (by decide) (fun c => absurd c (by decide)) (fun _ => ?_)
      refine Rj_aload_n (q := 8) d_Sp_fail_7 rfl rfl rfl ?_
      refine Rj_iconst (q := 9) d_Sp_fail_8 rfl ?_
      refine Rj_bipush (q := 11) d_Sp_fail_9 rfl (by decide +kernel) ?_
      refine Rj_iload_n (q := 12) d_Sp_fail_11 rfl rfl rfl ?_
      refine Rj_imul (q := 13) d_Sp_fail_12 rfl ?_
      refine Rj_iadd (q := 14) d_Sp_fail_13 rfl ?_
      refine Rj_iload_n (q := 15) d_Sp_fail_14 rfl rfl rfl ?_
      refine Rj_iadd (q := 16) d_Sp_fail_15 rfl ?_
      refine Rj_pi (q := 19) (ki := 3) pD_Sp_28_2 rfl rfl d_Sp_fail_16 rfl ?_
      refine Rj_vret d_Sp_fail_19 rfl ?_
      refine Rj_goto (t := 89) d_Sr_readClause_57 (by decide) ?_
      refine Rj_vret d_Sr_readClause_89 rfl ?_
      refine h2 ((1 + (8 * (sk A n k))) + 4) _ ?_ (Fr.put (Fr.put (Fr.refl _ _) (by decide)) (by decide)) rfl
      unfold stClause stCl2
      dsimp only
      rw [if_pos (by first | exact Or.inl hc.2 | exact Or.inr (Or.inl hc.2.1) | exact Or.inr (Or.inr (by omega)))]
      by_cases e32 : ln = 32
      · rw [if_pos e32]
      · rw [if_neg e32]
        first
        | (rw [if_pos hc.2]; unfold stDoor; dsimp only; rw [if_pos (by omega)])
        | (rw [if_neg (by rw [hc.2.2.1]; decide), if_neg (by rw [hc.2.2.2.1]; decide)]; unfold stJoin; dsimp only; rw [if_pos (by omega)])
        | (exfalso; omega)
    · refine Rj_aload_n (q := 35) d_Sr_readClause_34 rfl rfl rfl ?_
      refine Rj_iload_n (q := 36) d_Sr_readClause_35 rfl rfl rfl ?_
      refine Rj_vo (q := 39) (z := y_Sr_isFullFor) (as := [vI 2]) (rest := []) (la := [vA 83, vI 2]) oD_83_Sr_isFullFor ml_Sr_55 mw_Sr_isFullFor mv_Sr_isFullFor rfl d_Sr_readClause_36 rfl rfl rfl rfl rfl ?_
      refine Rj_iload_n (q := 1) d_Sr_isFullFor_0 rfl rfl rfl ?_
      refine Rj_iconst (q := 2) d_Sr_isFullFor_1 rfl ?_
      refine Rj_icmp_ne (q := 5) (t := 7) d_Sr_isFullFor_2 rfl (by decide) (by decide) (by decide) (fun _ => ?_) (fun c => absurd c (by decide))
      refine Rj_iload_n (q := 8) d_Sr_isFullFor_7 rfl rfl rfl ?_
      refine Rj_iconst (q := 9) d_Sr_isFullFor_8 rfl ?_
      refine Rj_icmp_ne (q := 12) (t := 30) d_Sr_isFullFor_9 rfl (by decide) (by decide) (by decide) (fun _ => ?_) (fun c => absurd c (by decide))
      refine Rj_aload_n (q := 31) d_Sr_isFullFor_30 rfl rfl rfl ?_
      refine Rj_gr (q := 34) (zd := 12) gD_Sr_15_83 rfl rfl d_Sr_isFullFor_31 rfl ?_
      refine Rj_gi (q := 37) (ki := 4) (v := J) gD_Sr_82_12 rfl rfl hd4 d_Sr_isFullFor_34 rfl ?_
      refine Rj_bipush (q := 39) d_Sr_isFullFor_37 rfl (by decide +kernel) ?_
      refine Rj_icmp_ge (q := 42) (t := 58) d_Sr_isFullFor_39 rfl (by decide) ⟨by omega, by omega⟩ (by decide) (fun c36_39 => ?_) (fun c36_39 => ?_)
      · refine Rj_iconst (q := 59) d_Sr_isFullFor_58 rfl ?_
        refine Rj_goto (t := 63) d_Sr_isFullFor_59 (by decide) ?_
        refine Rj_bret1 d_Sr_isFullFor_63 rfl ?_
        refine Rj_if_eq (q := 42) (t := 60) d_Sr_readClause_39 rfl (by decide) (by decide) (fun c => absurd c (by decide)) (fun _ => ?_)
        refine Rj_aload_n (q := 43) d_Sr_readClause_42 rfl rfl rfl ?_
        refine Rj_gr (q := 46) (zd := 2) gD_Sr_9_83 rfl rfl d_Sr_readClause_43 rfl ?_
        refine Rj_aload_n (q := 47) d_Sr_readClause_46 rfl rfl rfl ?_
        refine Rj_gr (q := 50) (zd := 2) gD_Sr_9_83 rfl rfl d_Sr_readClause_47 rfl ?_
        refine Rj_gi (q := 53) (ki := 2) (v := sk A n k) gD_Sr_52_2 rfl rfl rfl d_Sr_readClause_50 rfl ?_
        refine Rj_iconst (q := 54) d_Sr_readClause_53 rfl ?_
        refine Rj_vov (q := 57) (z := y_Sp_fail) (as := [vI (sk A n k), vI 4]) (rest := []) (la := [vA 2, vI (sk A n k), vI 4]) oD_2_Sp_fail ml_Sr_44 mw_Sp_fail mv_Sp_fail rfl d_Sr_readClause_54 rfl rfl rfl rfl rfl ?_
        refine Rj_aload_n (q := 1) d_Sp_fail_0 rfl rfl rfl ?_
        refine Rj_gi (q := 4) (ki := 3) (v := 0) gD_Sp_28_2 rfl rfl hf0 d_Sp_fail_1 rfl ?_
        refine Rj_if_ne (q := 7) (t := 19) d_Sp_fail_4 rfl (by decide) (by decide) (fun c => absurd c (by decide)) (fun _ => ?_)
        refine Rj_aload_n (q := 8) d_Sp_fail_7 rfl rfl rfl ?_
        refine Rj_iconst (q := 9) d_Sp_fail_8 rfl ?_
        refine Rj_bipush (q := 11) d_Sp_fail_9 rfl (by decide +kernel) ?_
        refine Rj_iload_n (q := 12) d_Sp_fail_11 rfl rfl rfl ?_
        refine Rj_imul (q := 13) d_Sp_fail_12 rfl ?_
        refine Rj_iadd (q := 14) d_Sp_fail_13 rfl ?_
        refine Rj_iload_n (q := 15) d_Sp_fail_14 rfl rfl rfl ?_
        refine Rj_iadd (q := 16) d_Sp_fail_15 rfl ?_
        refine Rj_pi (q := 19) (ki := 3) pD_Sp_28_2 rfl rfl d_Sp_fail_16 rfl ?_
        refine Rj_vret d_Sp_fail_19 rfl ?_
        refine Rj_goto (t := 89) d_Sr_readClause_57 (by decide) ?_
        refine Rj_vret d_Sr_readClause_89 rfl ?_
        refine h2 ((1 + (8 * (sk A n k))) + 4) _ ?_ (Fr.put (Fr.put (Fr.refl _ _) (by decide)) (by decide)) rfl
        unfold stClause stCl2
        dsimp only
        rw [if_pos (by first | exact Or.inl hc.2 | exact Or.inr (Or.inl hc.2.1) | exact Or.inr (Or.inr (by omega)))]
        by_cases e32 : ln = 32
        · rw [if_pos e32]
        · rw [if_neg e32]
          first
          | (rw [if_pos hc.2]; unfold stDoor; dsimp only; rw [if_pos (by omega)])
          | (rw [if_neg (by rw [hc.2.2.1]; decide), if_neg (by rw [hc.2.2.2.1]; decide)]; unfold stJoin; dsimp only; rw [if_pos (by omega)])
          | (exfalso; omega)
      · refine Rj_iload_n (q := 43) d_Sr_isFullFor_42 rfl rfl rfl ?_
        refine Rj_iconst (q := 44) d_Sr_isFullFor_43 rfl ?_
        refine Rj_icmp_ne (q := 47) (t := 62) d_Sr_isFullFor_44 rfl (by decide) (by decide) (by decide) (fun c => absurd c (by decide)) (fun _ => ?_)
        refine Rj_aload_n (q := 48) d_Sr_isFullFor_47 rfl rfl rfl ?_
        refine Rj_gr (q := 51) (zd := 12) gD_Sr_15_83 rfl rfl d_Sr_isFullFor_48 rfl ?_
        refine Rj_gi (q := 54) (ki := 5) (v := X) gD_Sr_85_12 rfl rfl hd5 d_Sr_isFullFor_51 rfl ?_
        refine Rj_iconst (q := 55) d_Sr_isFullFor_54 rfl ?_
        refine Rj_icmp_lt (q := 58) (t := 62) d_Sr_isFullFor_55 rfl (by decide) ⟨by omega, by omega⟩ (by decide) (fun c36_55 => ?_) (fun c36_55 => ?_)
        · refine Rj_iconst (q := 63) d_Sr_isFullFor_62 rfl ?_
          refine Rj_bret0 d_Sr_isFullFor_63 rfl ?_
          refine Rj_if_eq (q := 42) (t := 60) d_Sr_readClause_39 rfl (by decide) (by decide) (fun _ => ?_) (fun c => absurd c (by decide))
          refine Rj_iload_n (q := 61) d_Sr_readClause_60 rfl rfl rfl ?_
          refine Rj_iconst (q := 62) d_Sr_readClause_61 rfl ?_
          refine Rj_icmp_ne (q := 65) (t := 72) d_Sr_readClause_62 rfl (by decide) (by decide) (by decide) (fun _ => ?_) (fun c => absurd c (by decide))
          refine Rj_iload_n (q := 73) d_Sr_readClause_72 rfl rfl rfl ?_
          refine Rj_iconst (q := 74) d_Sr_readClause_73 rfl ?_
          refine Rj_icmp_ne (q := 77) (t := 84) d_Sr_readClause_74 rfl (by decide) (by decide) (by decide) (fun _ => ?_) (fun c => absurd c (by decide))
          refine Rj_aload_n (q := 85) d_Sr_readClause_84 rfl rfl rfl ?_
          refine Rj_iload_n (q := 86) d_Sr_readClause_85 rfl rfl rfl ?_
          refine Rj_vov (q := 89) (z := y_Sr_readJoin) (as := [vI 2]) (rest := []) (la := [vA 83, vI 2]) oD_83_Sr_readJoin ml_Sr_65 mw_Sr_readJoin mv_Sr_readJoin rfl d_Sr_readClause_86 rfl rfl rfl rfl rfl ?_
          refine s_readJoin (μ := mset μ 2 2 (sk A n k)) (A := A) (n := n) (k := sk A n k) (ln := ln + 1) (D := D) (J := J) (X := X) (FX := FX) (dr := dr) (jr := jr) (hT.keep rfl rfl) rfl (by omega) hf0 (sk_idem _ _ _) ⟨⟨by dsimp only; omega, by dsimp only; omega⟩, ⟨by dsimp only; omega, by dsimp only; omega⟩, hO.2.2⟩ hD (by decide) hc.2.2.2.2 (by omega) (fun σ' m q f d e g => ?_) (fun wr m q f g => ?_)
          · have okk := True.intro
            refine Rj_vret d_Sr_readClause_89 rfl ?_
            refine h1 _ m ?_ (Fr.trans (Fr.put (Fr.refl _ _) (by decide)) f) d e g
            unfold stClause stCl2
            dsimp only
            rw [if_pos (by first | exact Or.inl hc.2 | exact Or.inr (Or.inl hc.2.1) | exact Or.inr (Or.inr (by omega))), if_neg (by omega)]
            first
            | (rw [if_pos hc.2]; exact q)
            | (rw [if_neg (by rw [hc.2.2]; decide), if_pos hc.2.1]; exact q)
            | (rw [if_neg (by rw [hc.2.2.1]; decide), if_neg (by rw [hc.2.2.2.1]; decide), hc.2.1]; exact q)
          · have bad := True.intro
            refine Rj_vret d_Sr_readClause_89 rfl ?_
            refine h2 _ m ?_ (Fr.trans (Fr.put (Fr.refl _ _) (by decide)) f) g
            unfold stClause stCl2
            dsimp only
            rw [if_pos (by first | exact Or.inl hc.2 | exact Or.inr (Or.inl hc.2.1) | exact Or.inr (Or.inr (by omega))), if_neg (by omega)]
            first
            | (rw [if_pos hc.2]; exact q)
            | (rw [if_neg (by rw [hc.2.2]; decide), if_pos hc.2.1]; exact q)
            | (rw [if_neg (by rw [hc.2.2.1]; decide), if_neg (by rw [hc.2.2.2.1]; decide), hc.2.1]; exact q)
        · refine Rj_iconst (q := 59) d_Sr_isFullFor_58 rfl ?_
          refine Rj_goto (t := 63) d_Sr_isFullFor_59 (by decide) ?_
          refine Rj_bret1 d_Sr_isFullFor_63 rfl ?_
          refine Rj_if_eq (q := 42) (t := 60) d_Sr_readClause_39 rfl (by decide) (by decide) (fun c => absurd c (by decide)) (fun _ => ?_)
          refine Rj_aload_n (q := 43) d_Sr_readClause_42 rfl rfl rfl ?_
          refine Rj_gr (q := 46) (zd := 2) gD_Sr_9_83 rfl rfl d_Sr_readClause_43 rfl ?_
          refine Rj_aload_n (q := 47) d_Sr_readClause_46 rfl rfl rfl ?_
          refine Rj_gr (q := 50) (zd := 2) gD_Sr_9_83 rfl rfl d_Sr_readClause_47 rfl ?_
          refine Rj_gi (q := 53) (ki := 2) (v := sk A n k) gD_Sr_52_2 rfl rfl rfl d_Sr_readClause_50 rfl ?_
          refine Rj_iconst (q := 54) d_Sr_readClause_53 rfl ?_
          refine Rj_vov (q := 57) (z := y_Sp_fail) (as := [vI (sk A n k), vI 4]) (rest := []) (la := [vA 2, vI (sk A n k), vI 4]) oD_2_Sp_fail ml_Sr_44 mw_Sp_fail mv_Sp_fail rfl d_Sr_readClause_54 rfl rfl rfl rfl rfl ?_
          refine Rj_aload_n (q := 1) d_Sp_fail_0 rfl rfl rfl ?_
          refine Rj_gi (q := 4) (ki := 3) (v := 0) gD_Sp_28_2 rfl rfl hf0 d_Sp_fail_1 rfl ?_
          refine Rj_if_ne (q := 7) (t := 19) d_Sp_fail_4 rfl (by decide) (by decide) (fun c => absurd c (by decide)) (fun _ => ?_)
          refine Rj_aload_n (q := 8) d_Sp_fail_7 rfl rfl rfl ?_
          refine Rj_iconst (q := 9) d_Sp_fail_8 rfl ?_
          refine Rj_bipush (q := 11) d_Sp_fail_9 rfl (by decide +kernel) ?_
          refine Rj_iload_n (q := 12) d_Sp_fail_11 rfl rfl rfl ?_
          refine Rj_imul (q := 13) d_Sp_fail_12 rfl ?_
          refine Rj_iadd (q := 14) d_Sp_fail_13 rfl ?_
          refine Rj_iload_n (q := 15) d_Sp_fail_14 rfl rfl rfl ?_
          refine Rj_iadd (q := 16) d_Sp_fail_15 rfl ?_
          refine Rj_pi (q := 19) (ki := 3) pD_Sp_28_2 rfl rfl d_Sp_fail_16 rfl ?_
          refine Rj_vret d_Sp_fail_19 rfl ?_
          refine Rj_goto (t := 89) d_Sr_readClause_57 (by decide) ?_
          refine Rj_vret d_Sr_readClause_89 rfl ?_
          refine h2 ((1 + (8 * (sk A n k))) + 4) _ ?_ (Fr.put (Fr.put (Fr.refl _ _) (by decide)) (by decide)) rfl
          unfold stClause stCl2
          dsimp only
          rw [if_pos (by first | exact Or.inl hc.2 | exact Or.inr (Or.inl hc.2.1) | exact Or.inr (Or.inr (by omega)))]
          by_cases e32 : ln = 32
          · rw [if_pos e32]
          · rw [if_neg e32]
            first
            | (rw [if_pos hc.2]; unfold stDoor; dsimp only; rw [if_pos (by omega)])
            | (rw [if_neg (by rw [hc.2.2.1]; decide), if_neg (by rw [hc.2.2.2.1]; decide)]; unfold stJoin; dsimp only; rw [if_pos (by omega)])
            | (exfalso; omega)
  · rw [hc.1]
    refine Rj_istore_n (q := 5) (ls' := [vA 83, vI ln, vI 3]) d_Sr_readClause_4 rfl rfl (by decide) rfl ?_
    refine Rj_iload_n (q := 6) d_Sr_readClause_5 rfl rfl rfl ?_
    refine Rj_iconst (q := 7) d_Sr_readClause_6 rfl ?_
    refine Rj_icmp_ne (q := 10) (t := 28) d_Sr_readClause_7 rfl (by decide) (by decide) (by decide) (fun _ => ?_) (fun c => absurd c (by decide))
    refine Rj_iload_n (q := 29) d_Sr_readClause_28 rfl rfl rfl ?_
    refine Rj_bipush (q := 31) d_Sr_readClause_29 rfl (by decide +kernel) ?_
    refine Rj_icmp_ge (q := 34) (t := 42) d_Sr_readClause_31 rfl (by decide) ⟨by omega, by omega⟩ (by decide) (fun c31 => ?_) (fun c31 => ?_)
    · refine Rj_aload_n (q := 43) d_Sr_readClause_42 rfl rfl rfl ?_
      refine Rj_gr (q := 46) (zd := 2) gD_Sr_9_83 rfl rfl d_Sr_readClause_43 rfl ?_
      refine Rj_aload_n (q := 47) d_Sr_readClause_46 rfl rfl rfl ?_
      refine Rj_gr (q := 50) (zd := 2) gD_Sr_9_83 rfl rfl d_Sr_readClause_47 rfl ?_
      refine Rj_gi (q := 53) (ki := 2) (v := sk A n k) gD_Sr_52_2 rfl rfl rfl d_Sr_readClause_50 rfl ?_
      refine Rj_iconst (q := 54) d_Sr_readClause_53 rfl ?_
      refine Rj_vov (q := 57) (z := y_Sp_fail) (as := [vI (sk A n k), vI 4]) (rest := []) (la := [vA 2, vI (sk A n k), vI 4]) oD_2_Sp_fail ml_Sr_44 mw_Sp_fail mv_Sp_fail rfl d_Sr_readClause_54 rfl rfl rfl rfl rfl ?_
      refine Rj_aload_n (q := 1) d_Sp_fail_0 rfl rfl rfl ?_
      refine Rj_gi (q := 4) (ki := 3) (v := 0) gD_Sp_28_2 rfl rfl hf0 d_Sp_fail_1 rfl ?_
      refine Rj_if_ne (q := 7) (t := 19) d_Sp_fail_4 rfl (by decide) (by decide) (fun c => absurd c (by decide)) (fun _ => ?_)
      refine Rj_aload_n (q := 8) d_Sp_fail_7 rfl rfl rfl ?_
      refine Rj_iconst (q := 9) d_Sp_fail_8 rfl ?_
      refine Rj_bipush (q := 11) d_Sp_fail_9 rfl (by decide +kernel) ?_
      refine Rj_iload_n (q := 12) d_Sp_fail_11 rfl rfl rfl ?_
      refine Rj_imul (q := 13) d_Sp_fail_12 rfl ?_
      refine Rj_iadd (q := 14) d_Sp_fail_13 rfl ?_
      refine Rj_iload_n (q := 15) d_Sp_fail_14 rfl rfl rfl ?_
      refine Rj_iadd (q := 16) d_Sp_fail_15 rfl ?_
      refine Rj_pi (q := 19) (ki := 3) pD_Sp_28_2 rfl rfl d_Sp_fail_16 rfl ?_
      refine Rj_vret d_Sp_fail_19 rfl ?_
      refine Rj_goto (t := 89) d_Sr_readClause_57 (by decide) ?_
      refine Rj_vret d_Sr_readClause_89 rfl ?_
      refine h2 ((1 + (8 * (sk A n k))) + 4) _ ?_ (Fr.put (Fr.put (Fr.refl _ _) (by decide)) (by decide)) rfl
      unfold stClause stCl2
      dsimp only
      rw [if_pos (by first | exact Or.inl hc.2 | exact Or.inr (Or.inl hc.2.1) | exact Or.inr (Or.inr (by omega)))]
      by_cases e32 : ln = 32
      · rw [if_pos e32]
      · rw [if_neg e32]
        first
        | (rw [if_pos hc.2]; unfold stDoor; dsimp only; rw [if_pos (by omega)])
        | (rw [if_neg (by rw [hc.2.2.1]; decide), if_neg (by rw [hc.2.2.2.1]; decide)]; unfold stJoin; dsimp only; rw [if_pos (by omega)])
        | (exfalso; omega)
    · refine Rj_aload_n (q := 35) d_Sr_readClause_34 rfl rfl rfl ?_
      refine Rj_iload_n (q := 36) d_Sr_readClause_35 rfl rfl rfl ?_
      refine Rj_vo (q := 39) (z := y_Sr_isFullFor) (as := [vI 3]) (rest := []) (la := [vA 83, vI 3]) oD_83_Sr_isFullFor ml_Sr_55 mw_Sr_isFullFor mv_Sr_isFullFor rfl d_Sr_readClause_36 rfl rfl rfl rfl rfl ?_
      refine Rj_iload_n (q := 1) d_Sr_isFullFor_0 rfl rfl rfl ?_
      refine Rj_iconst (q := 2) d_Sr_isFullFor_1 rfl ?_
      refine Rj_icmp_ne (q := 5) (t := 7) d_Sr_isFullFor_2 rfl (by decide) (by decide) (by decide) (fun _ => ?_) (fun c => absurd c (by decide))
      refine Rj_iload_n (q := 8) d_Sr_isFullFor_7 rfl rfl rfl ?_
      refine Rj_iconst (q := 9) d_Sr_isFullFor_8 rfl ?_
      refine Rj_icmp_ne (q := 12) (t := 30) d_Sr_isFullFor_9 rfl (by decide) (by decide) (by decide) (fun c => absurd c (by decide)) (fun _ => ?_)
      refine Rj_aload_n (q := 13) d_Sr_isFullFor_12 rfl rfl rfl ?_
      refine Rj_gr (q := 16) (zd := 12) gD_Sr_15_83 rfl rfl d_Sr_isFullFor_13 rfl ?_
      refine Rj_gi (q := 19) (ki := 0) (v := D) gD_Sr_37_12 rfl rfl hd0 d_Sr_isFullFor_16 rfl ?_
      refine Rj_bipush (q := 21) d_Sr_isFullFor_19 rfl (by decide +kernel) ?_
      refine Rj_icmp_lt (q := 24) (t := 28) d_Sr_isFullFor_21 rfl (by decide) ⟨by omega, by omega⟩ (by decide) (fun c36_21 => ?_) (fun c36_21 => ?_)
      · refine Rj_iconst (q := 29) d_Sr_isFullFor_28 rfl ?_
        refine Rj_bret0 d_Sr_isFullFor_29 rfl ?_
        refine Rj_if_eq (q := 42) (t := 60) d_Sr_readClause_39 rfl (by decide) (by decide) (fun _ => ?_) (fun c => absurd c (by decide))
        refine Rj_iload_n (q := 61) d_Sr_readClause_60 rfl rfl rfl ?_
        refine Rj_iconst (q := 62) d_Sr_readClause_61 rfl ?_
        refine Rj_icmp_ne (q := 65) (t := 72) d_Sr_readClause_62 rfl (by decide) (by decide) (by decide) (fun c => absurd c (by decide)) (fun _ => ?_)
        refine Rj_aload_n (q := 66) d_Sr_readClause_65 rfl rfl rfl ?_
        refine Rj_vov (q := 69) (z := y_Sr_readDoor) (as := []) (rest := []) (la := [vA 83]) oD_83_Sr_readDoor ml_Sr_59 mw_Sr_readDoor mv_Sr_readDoor rfl d_Sr_readClause_66 rfl rfl rfl rfl rfl ?_
        refine s_readDoor (μ := mset μ 2 2 (sk A n k)) (A := A) (n := n) (k := sk A n k) (ln := ln + 1) (D := D) (J := J) (X := X) (FX := FX) (dr := dr) (jr := jr) (hT.keep rfl rfl) rfl (by omega) hf0 (sk_idem _ _ _) ⟨⟨by dsimp only; omega, by dsimp only; omega⟩, ⟨by dsimp only; omega, by dsimp only; omega⟩, hO.2.2⟩ hD hc.2 (by omega) (fun σ' m q f d e g => ?_) (fun wr m q f g => ?_)
        · have okk := True.intro
          refine Rj_goto (t := 89) d_Sr_readClause_69 (by decide) ?_
          refine Rj_vret d_Sr_readClause_89 rfl ?_
          refine h1 _ m ?_ (Fr.trans (Fr.put (Fr.refl _ _) (by decide)) f) d e g
          unfold stClause stCl2
          dsimp only
          rw [if_pos (by first | exact Or.inl hc.2 | exact Or.inr (Or.inl hc.2.1) | exact Or.inr (Or.inr (by omega))), if_neg (by omega)]
          first
          | (rw [if_pos hc.2]; exact q)
          | (rw [if_neg (by rw [hc.2.2]; decide), if_pos hc.2.1]; exact q)
          | (rw [if_neg (by rw [hc.2.2.1]; decide), if_neg (by rw [hc.2.2.2.1]; decide), hc.2.1]; exact q)
        · have bad := True.intro
          refine Rj_goto (t := 89) d_Sr_readClause_69 (by decide) ?_
          refine Rj_vret d_Sr_readClause_89 rfl ?_
          refine h2 _ m ?_ (Fr.trans (Fr.put (Fr.refl _ _) (by decide)) f) g
          unfold stClause stCl2
          dsimp only
          rw [if_pos (by first | exact Or.inl hc.2 | exact Or.inr (Or.inl hc.2.1) | exact Or.inr (Or.inr (by omega))), if_neg (by omega)]
          first
          | (rw [if_pos hc.2]; exact q)
          | (rw [if_neg (by rw [hc.2.2]; decide), if_pos hc.2.1]; exact q)
          | (rw [if_neg (by rw [hc.2.2.1]; decide), if_neg (by rw [hc.2.2.2.1]; decide), hc.2.1]; exact q)
      · refine Rj_iconst (q := 25) d_Sr_isFullFor_24 rfl ?_
        refine Rj_goto (t := 29) d_Sr_isFullFor_25 (by decide) ?_
        refine Rj_bret1 d_Sr_isFullFor_29 rfl ?_
        refine Rj_if_eq (q := 42) (t := 60) d_Sr_readClause_39 rfl (by decide) (by decide) (fun c => absurd c (by decide)) (fun _ => ?_)
        refine Rj_aload_n (q := 43) d_Sr_readClause_42 rfl rfl rfl ?_
        refine Rj_gr (q := 46) (zd := 2) gD_Sr_9_83 rfl rfl d_Sr_readClause_43 rfl ?_
        refine Rj_aload_n (q := 47) d_Sr_readClause_46 rfl rfl rfl ?_
        refine Rj_gr (q := 50) (zd := 2) gD_Sr_9_83 rfl rfl d_Sr_readClause_47 rfl ?_
        refine Rj_gi (q := 53) (ki := 2) (v := sk A n k) gD_Sr_52_2 rfl rfl rfl d_Sr_readClause_50 rfl ?_
        refine Rj_iconst (q := 54) d_Sr_readClause_53 rfl ?_
        refine Rj_vov (q := 57) (z := y_Sp_fail) (as := [vI (sk A n k), vI 4]) (rest := []) (la := [vA 2, vI (sk A n k), vI 4]) oD_2_Sp_fail ml_Sr_44 mw_Sp_fail mv_Sp_fail rfl d_Sr_readClause_54 rfl rfl rfl rfl rfl ?_
        refine Rj_aload_n (q := 1) d_Sp_fail_0 rfl rfl rfl ?_
        refine Rj_gi (q := 4) (ki := 3) (v := 0) gD_Sp_28_2 rfl rfl hf0 d_Sp_fail_1 rfl ?_
        refine Rj_if_ne (q := 7) (t := 19) d_Sp_fail_4 rfl (by decide) (by decide) (fun c => absurd c (by decide)) (fun _ => ?_)
        refine Rj_aload_n (q := 8) d_Sp_fail_7 rfl rfl rfl ?_
        refine Rj_iconst (q := 9) d_Sp_fail_8 rfl ?_
        refine Rj_bipush (q := 11) d_Sp_fail_9 rfl (by decide +kernel) ?_
        refine Rj_iload_n (q := 12) d_Sp_fail_11 rfl rfl rfl ?_
        refine Rj_imul (q := 13) d_Sp_fail_12 rfl ?_
        refine Rj_iadd (q := 14) d_Sp_fail_13 rfl ?_
        refine Rj_iload_n (q := 15) d_Sp_fail_14 rfl rfl rfl ?_
        refine Rj_iadd (q := 16) d_Sp_fail_15 rfl ?_
        refine Rj_pi (q := 19) (ki := 3) pD_Sp_28_2 rfl rfl d_Sp_fail_16 rfl ?_
        refine Rj_vret d_Sp_fail_19 rfl ?_
        refine Rj_goto (t := 89) d_Sr_readClause_57 (by decide) ?_
        refine Rj_vret d_Sr_readClause_89 rfl ?_
        refine h2 ((1 + (8 * (sk A n k))) + 4) _ ?_ (Fr.put (Fr.put (Fr.refl _ _) (by decide)) (by decide)) rfl
        unfold stClause stCl2
        dsimp only
        rw [if_pos (by first | exact Or.inl hc.2 | exact Or.inr (Or.inl hc.2.1) | exact Or.inr (Or.inr (by omega)))]
        by_cases e32 : ln = 32
        · rw [if_pos e32]
        · rw [if_neg e32]
          first
          | (rw [if_pos hc.2]; unfold stDoor; dsimp only; rw [if_pos (by omega)])
          | (rw [if_neg (by rw [hc.2.2.1]; decide), if_neg (by rw [hc.2.2.2.1]; decide)]; unfold stJoin; dsimp only; rw [if_pos (by omega)])
          | (exfalso; omega)
  · rw [hc.1]
    refine Rj_istore_n (q := 5) (ls' := [vA 83, vI ln, vI 4]) d_Sr_readClause_4 rfl rfl (by decide) rfl ?_
    refine Rj_iload_n (q := 6) d_Sr_readClause_5 rfl rfl rfl ?_
    refine Rj_iconst (q := 7) d_Sr_readClause_6 rfl ?_
    refine Rj_icmp_ne (q := 10) (t := 28) d_Sr_readClause_7 rfl (by decide) (by decide) (by decide) (fun _ => ?_) (fun c => absurd c (by decide))
    refine Rj_iload_n (q := 29) d_Sr_readClause_28 rfl rfl rfl ?_
    refine Rj_bipush (q := 31) d_Sr_readClause_29 rfl (by decide +kernel) ?_
    refine Rj_icmp_ge (q := 34) (t := 42) d_Sr_readClause_31 rfl (by decide) ⟨by omega, by omega⟩ (by decide) (fun c31 => ?_) (fun c31 => ?_)
    · refine Rj_aload_n (q := 43) d_Sr_readClause_42 rfl rfl rfl ?_
      refine Rj_gr (q := 46) (zd := 2) gD_Sr_9_83 rfl rfl d_Sr_readClause_43 rfl ?_
      refine Rj_aload_n (q := 47) d_Sr_readClause_46 rfl rfl rfl ?_
      refine Rj_gr (q := 50) (zd := 2) gD_Sr_9_83 rfl rfl d_Sr_readClause_47 rfl ?_
      refine Rj_gi (q := 53) (ki := 2) (v := sk A n k) gD_Sr_52_2 rfl rfl rfl d_Sr_readClause_50 rfl ?_
      refine Rj_iconst (q := 54) d_Sr_readClause_53 rfl ?_
      refine Rj_vov (q := 57) (z := y_Sp_fail) (as := [vI (sk A n k), vI 4]) (rest := []) (la := [vA 2, vI (sk A n k), vI 4]) oD_2_Sp_fail ml_Sr_44 mw_Sp_fail mv_Sp_fail rfl d_Sr_readClause_54 rfl rfl rfl rfl rfl ?_
      refine Rj_aload_n (q := 1) d_Sp_fail_0 rfl rfl rfl ?_
      refine Rj_gi (q := 4) (ki := 3) (v := 0) gD_Sp_28_2 rfl rfl hf0 d_Sp_fail_1 rfl ?_
      refine Rj_if_ne (q := 7) (t := 19) d_Sp_fail_4 rfl (by decide) (by decide) (fun c => absurd c (by decide)) (fun _ => ?_)
      refine Rj_aload_n (q := 8) d_Sp_fail_7 rfl rfl rfl ?_
      refine Rj_iconst (q := 9) d_Sp_fail_8 rfl ?_
      refine Rj_bipush (q := 11) d_Sp_fail_9 rfl (by decide +kernel) ?_
      refine Rj_iload_n (q := 12) d_Sp_fail_11 rfl rfl rfl ?_
      refine Rj_imul (q := 13) d_Sp_fail_12 rfl ?_
      refine Rj_iadd (q := 14) d_Sp_fail_13 rfl ?_
      refine Rj_iload_n (q := 15) d_Sp_fail_14 rfl rfl rfl ?_
      refine Rj_iadd (q := 16) d_Sp_fail_15 rfl ?_
      refine Rj_pi (q := 19) (ki := 3) pD_Sp_28_2 rfl rfl d_Sp_fail_16 rfl ?_
      refine Rj_vret d_Sp_fail_19 rfl ?_
      refine Rj_goto (t := 89) d_Sr_readClause_57 (by decide) ?_
      refine Rj_vret d_Sr_readClause_89 rfl ?_
      refine h2 ((1 + (8 * (sk A n k))) + 4) _ ?_ (Fr.put (Fr.put (Fr.refl _ _) (by decide)) (by decide)) rfl
      unfold stClause stCl2
      dsimp only
      rw [if_pos (by first | exact Or.inl hc.2 | exact Or.inr (Or.inl hc.2.1) | exact Or.inr (Or.inr (by omega)))]
      by_cases e32 : ln = 32
      · rw [if_pos e32]
      · rw [if_neg e32]
        first
        | (rw [if_pos hc.2]; unfold stDoor; dsimp only; rw [if_pos (by omega)])
        | (rw [if_neg (by rw [hc.2.2.1]; decide), if_neg (by rw [hc.2.2.2.1]; decide)]; unfold stJoin; dsimp only; rw [if_pos (by omega)])
        | (exfalso; omega)
    · refine Rj_aload_n (q := 35) d_Sr_readClause_34 rfl rfl rfl ?_
      refine Rj_iload_n (q := 36) d_Sr_readClause_35 rfl rfl rfl ?_
      refine Rj_vo (q := 39) (z := y_Sr_isFullFor) (as := [vI 4]) (rest := []) (la := [vA 83, vI 4]) oD_83_Sr_isFullFor ml_Sr_55 mw_Sr_isFullFor mv_Sr_isFullFor rfl d_Sr_readClause_36 rfl rfl rfl rfl rfl ?_
      refine Rj_iload_n (q := 1) d_Sr_isFullFor_0 rfl rfl rfl ?_
      refine Rj_iconst (q := 2) d_Sr_isFullFor_1 rfl ?_
      refine Rj_icmp_ne (q := 5) (t := 7) d_Sr_isFullFor_2 rfl (by decide) (by decide) (by decide) (fun c => absurd c (by decide)) (fun _ => ?_)
      refine Rj_iconst (q := 6) d_Sr_isFullFor_5 rfl ?_
      refine Rj_bret0 d_Sr_isFullFor_6 rfl ?_
      refine Rj_if_eq (q := 42) (t := 60) d_Sr_readClause_39 rfl (by decide) (by decide) (fun _ => ?_) (fun c => absurd c (by decide))
      refine Rj_iload_n (q := 61) d_Sr_readClause_60 rfl rfl rfl ?_
      refine Rj_iconst (q := 62) d_Sr_readClause_61 rfl ?_
      refine Rj_icmp_ne (q := 65) (t := 72) d_Sr_readClause_62 rfl (by decide) (by decide) (by decide) (fun _ => ?_) (fun c => absurd c (by decide))
      refine Rj_iload_n (q := 73) d_Sr_readClause_72 rfl rfl rfl ?_
      refine Rj_iconst (q := 74) d_Sr_readClause_73 rfl ?_
      refine Rj_icmp_ne (q := 77) (t := 84) d_Sr_readClause_74 rfl (by decide) (by decide) (by decide) (fun c => absurd c (by decide)) (fun _ => ?_)
      refine Rj_aload_n (q := 78) d_Sr_readClause_77 rfl rfl rfl ?_
      refine Rj_vov (q := 81) (z := y_Sr_readFixed) (as := []) (rest := []) (la := [vA 83]) oD_83_Sr_readFixed ml_Sr_62 mw_Sr_readFixed mv_Sr_readFixed rfl d_Sr_readClause_78 rfl rfl rfl rfl rfl ?_
      refine s_readFixed (μ := mset μ 2 2 (sk A n k)) (A := A) (n := n) (k := sk A n k) (ln := ln + 1) (D := D) (J := J) (X := X) (FX := FX) (dr := dr) (jr := jr) (hT.keep rfl rfl) rfl (by omega) hf0 (sk_idem _ _ _) ⟨⟨by dsimp only; omega, by dsimp only; omega⟩, ⟨by dsimp only; omega, by dsimp only; omega⟩, hO.2.2⟩ hD hc.2.1 (fun σ' m q f d e g => ?_) (fun wr m q f g => ?_)
      · have okk := True.intro
        refine Rj_goto (t := 89) d_Sr_readClause_81 (by decide) ?_
        refine Rj_vret d_Sr_readClause_89 rfl ?_
        refine h1 _ m ?_ (Fr.trans (Fr.put (Fr.refl _ _) (by decide)) f) d e g
        unfold stClause stCl2
        dsimp only
        rw [if_pos (by first | exact Or.inl hc.2 | exact Or.inr (Or.inl hc.2.1) | exact Or.inr (Or.inr (by omega))), if_neg (by omega)]
        first
        | (rw [if_pos hc.2]; exact q)
        | (rw [if_neg (by rw [hc.2.2]; decide), if_pos hc.2.1]; exact q)
        | (rw [if_neg (by rw [hc.2.2.1]; decide), if_neg (by rw [hc.2.2.2.1]; decide), hc.2.1]; exact q)
      · have bad := True.intro
        refine Rj_goto (t := 89) d_Sr_readClause_81 (by decide) ?_
        refine Rj_vret d_Sr_readClause_89 rfl ?_
        refine h2 _ m ?_ (Fr.trans (Fr.put (Fr.refl _ _) (by decide)) f) g
        unfold stClause stCl2
        dsimp only
        rw [if_pos (by first | exact Or.inl hc.2 | exact Or.inr (Or.inl hc.2.1) | exact Or.inr (Or.inr (by omega))), if_neg (by omega)]
        first
        | (rw [if_pos hc.2]; exact q)
        | (rw [if_neg (by rw [hc.2.2]; decide), if_pos hc.2.1]; exact q)
        | (rw [if_neg (by rw [hc.2.2.1]; decide), if_neg (by rw [hc.2.2.2.1]; decide), hc.2.1]; exact q)
