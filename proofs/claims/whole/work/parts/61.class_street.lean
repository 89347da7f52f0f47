theorem gD_Sr_9_83 : GI YD "DoorsOnCogs$StreetReader" 9 83 0 (some (some 2)) := ⟨by decide, _, _, _, fl_Sr_9, cD_83, by decide, rfl⟩
theorem gD_Sr_52_2 : GI YD "DoorsOnCogs$StreetReader" 52 2 2 none := ⟨by decide, _, _, _, fl_Sr_52, cD_2, by decide, rfl⟩
theorem oD_2_Sp_takeNumber : OI YD 2 y_Sp_takeNumber := ⟨by decide, _, _, _, cD_2, rfl⟩
theorem oD_2_Sp_takeWord : OI YD 2 y_Sp_takeWord := ⟨by decide, _, _, _, cD_2, rfl⟩
theorem oD_83_Sr_numberWithin : OI YD 83 y_Sr_numberWithin := ⟨by decide, _, _, _, cD_83, rfl⟩
theorem oD_2_Sp_isSound : OI YD 2 y_Sp_isSound := ⟨by decide, _, _, _, cD_2, rfl⟩
theorem gD_Sr_15_83 : GI YD "DoorsOnCogs$StreetReader" 15 83 1 (some (some 12)) := ⟨by decide, _, _, _, fl_Sr_15, cD_83, by decide, rfl⟩
theorem oD_12_Sc_addDoor : OI YD 12 y_Sc_addDoor := ⟨by decide, _, _, _, cD_12, rfl⟩
theorem pD_Sc_37_12 : PI YD "DoorsOnCogs$Scene" 37 12 0 none .int := ⟨by decide, _, _, _, fl_Sc_37, fp_6_0, cD_12, by decide, rfl⟩
theorem gD_Sr_37_12 : GI YD "DoorsOnCogs$StreetReader" 37 12 0 none := ⟨by decide, _, _, _, fl_Sr_37, cD_12, by decide, rfl⟩
theorem gD_Sr_98_12 : GI YD "DoorsOnCogs$StreetReader" 98 12 3 none := ⟨by decide, _, _, _, fl_Sr_98, cD_12, by decide, rfl⟩
theorem pD_Sr_98_12 : PI YD "DoorsOnCogs$StreetReader" 98 12 3 none .int := ⟨by decide, _, _, _, fl_Sr_98, fp_6_3, cD_12, by decide, rfl⟩
theorem pD_Sr_52_2 : PI YD "DoorsOnCogs$StreetReader" 52 2 2 none .int := ⟨by decide, _, _, _, fl_Sr_52, fp_7_2, cD_2, by decide, rfl⟩
theorem oD_12_Sc_addJoin : OI YD 12 y_Sc_addJoin := ⟨by decide, _, _, _, cD_12, rfl⟩
theorem pD_Sc_44_12 : PI YD "DoorsOnCogs$Scene" 44 12 4 none .int := ⟨by decide, _, _, _, fl_Sc_44, fp_6_4, cD_12, by decide, rfl⟩
theorem pD_Sc_47_12 : PI YD "DoorsOnCogs$Scene" 47 12 5 none .int := ⟨by decide, _, _, _, fl_Sc_47, fp_6_5, cD_12, by decide, rfl⟩
/-! the class reads a street's clauses -/
abbrev Wsc (c : Nat) (i : Int) : Prop := c = 2 ∧ (i = 2 ∨ i = 3)
abbrev Wrd (c : Nat) (i : Int) : Prop := (c = 2 ∧ (i = 2 ∨ i = 3)) ∨ (c = 12 ∧ (i = 0 ∨ i = 3 ∨ i = 4 ∨ i = 5)) ∨ (13 ≤ c ∧ c ≤ 17)
theorem wd_sc_rd : ∀ c i, Wsc c i → Wrd c i := fun c i h => by unfold Wsc at h; unfold Wrd; omega
theorem s_takeNumber2 {μ : Mem} {Q : PV → Mem → Prop} {A : Int → Int} {n k : Int} (hT : TD μ A n) (hk : μ 2 2 = k) (h0 : 0 ≤ k ∧ k ≤ n) (hf0 : μ 2 3 = 0) (hkk : sk A n k = k) (h1 : (k < n ∧ isDg A k = true) → dend A n k - k ≤ 5 → Q (vI (dval A k (dend A n k))) (mset μ 2 2 (dend A n k))) (h2 : ¬ (k < n ∧ isDg A k = true) → Q (vI (-1)) (mset μ 2 3 (1 + 8 * k + 0))) (h3 : (k < n ∧ isDg A k = true) → ¬ (dend A n k - k ≤ 5) → Q (vI (-1)) (mset (mset μ 2 2 (dend A n k)) 2 3 (1 + 8 * k + 1))) : Rj YD y_Sp_takeNumber 0 [vA 2] [] μ Q := by
  refine s_takeNumber hT hk h0 hf0 ?_ ?_ ?_
  · rw [hkk]; exact h1
  · rw [hkk]; intro q; rw [mset_idv hk]; exact h2 q
  · rw [hkk]; exact h3
set_option maxHeartbeats 4000000 in
theorem s_numW {μ : Mem} {Q : PV → Mem → Prop} {A : Int → Int} {n k : Int} (hT : TD μ A n) (hk : μ 2 2 = k) (h0 : 0 ≤ k ∧ k ≤ n) (hf0 : μ 2 3 = 0) {lo hi u : Int} (hlo : 0 ≤ lo ∧ lo ≤ 100) (hhi : -1 ≤ hi ∧ hi ≤ 100) (hu : -1 ≤ u ∧ u ≤ 100) (h1 : ∀ e v, pNum A n k lo hi = .ok (e, v) → v ≠ u → Q (vI v) (mset μ 2 2 e)) (h2 : ∀ wr v μ', (pNum A n k lo hi = .error wr ∨ ∃ e, pNum A n k lo hi = .ok (e, u) ∧ wr = 1 + 8 * sk A n k + 1) → i32 v → Fr Wsc μ μ' → μ' 2 3 = wr → Q (vI v) μ') : Rj YD y_Sr_numberWithin 0 [vA 83, vI lo, vI hi, vI u] [] μ Q := by
  have hn := hT.2.1
  have hX := hT.1.1
  refine Rj_aload_n (q := 1) d_Sr_numberWithin_0 rfl rfl rfl ?_
  refine Rj_gr (q := 4) (zd := 2) gD_Sr_9_83 rfl rfl d_Sr_numberWithin_1 rfl ?_
  refine Rj_vo (q := 7) (z := y_Sp_nextSign) (as := []) (rest := []) (la := [vA 2]) oD_2_Sp_nextSign ml_Sr_108 mw_Sp_nextSign mv_Sp_nextSign rfl d_Sr_numberWithin_4 rfl rfl rfl rfl rfl ?_
  refine s_next (μ := μ) (A := A) (n := n) (k := k) (hT.keep rfl rfl) hk (by omega) ?_
  have r4 := sk_bd A (n := n) (k := k) (by omega)
  have v4 := nsV_rng hT (k := sk A n k) (by omega)
  refine Rj_pop (q := 8) d_Sr_numberWithin_7 rfl (by intro h; cases h) ?_
  refine Rj_aload_n (q := 9) d_Sr_numberWithin_8 rfl rfl rfl ?_
  refine Rj_gr (q := 12) (zd := 2) gD_Sr_9_83 rfl rfl d_Sr_numberWithin_9 rfl ?_
  refine Rj_gi (q := 15) (ki := 2) (v := sk A n k) gD_Sr_52_2 rfl rfl rfl d_Sr_numberWithin_12 rfl ?_
  refine Rj_istore (q := 17) (ls' := [vA 83, vI lo, vI hi, vI u, vI (sk A n k)]) d_Sr_numberWithin_15 rfl (by decide) rfl ?_
  refine Rj_aload_n (q := 18) d_Sr_numberWithin_17 rfl rfl rfl ?_
  refine Rj_gr (q := 21) (zd := 2) gD_Sr_9_83 rfl rfl d_Sr_numberWithin_18 rfl ?_
  refine Rj_vo (q := 24) (z := y_Sp_takeNumber) (as := []) (rest := []) (la := [vA 2]) oD_2_Sp_takeNumber ml_Sr_111 mw_Sp_takeNumber mv_Sp_takeNumber rfl d_Sr_numberWithin_21 rfl rfl rfl rfl rfl ?_
  refine s_takeNumber2 (μ := (mset μ 2 2 (sk A n k))) (A := A) (n := n) (k := sk A n k) (hT.keep rfl rfl) rfl (by omega) hf0 (sk_idem _ _ _) (fun q21 l21 => ?_) (fun q21 => ?_) (fun q21 l21 => ?_)
  · have db21 := dval_bd (A := A) (n := n) (k := sk A n k)
    have de21 := dend_bd A (n := n) (k := sk A n k) (by omega)
    rw [mset_mset]
    refine Rj_istore (q := 26) (ls' := [vA 83, vI lo, vI hi, vI u, vI (sk A n k), vI (dval A (sk A n k) (dend A n (sk A n k)))]) d_Sr_numberWithin_24 rfl (by decide) rfl ?_
    refine Rj_iload (q := 28) d_Sr_numberWithin_26 rfl rfl ?_
    refine Rj_iload_n (q := 29) d_Sr_numberWithin_28 rfl rfl rfl ?_
    refine Rj_icmp_lt (q := 32) (t := 44) d_Sr_numberWithin_29 rfl (by decide) ⟨by omega, by omega⟩ ⟨by omega, by omega⟩ (fun c29 => ?_) (fun c29 => ?_)
    · refine Rj_aload_n (q := 45) d_Sr_numberWithin_44 rfl rfl rfl ?_
      refine Rj_gr (q := 48) (zd := 2) gD_Sr_9_83 rfl rfl d_Sr_numberWithin_45 rfl ?_
      refine Rj_iload (q := 50) d_Sr_numberWithin_48 rfl rfl ?_
      refine Rj_iconst (q := 51) d_Sr_numberWithin_50 rfl ?_
      refine Rj_vov (q := 54) (z := y_Sp_fail) (as := [vI (sk A n k), vI 1]) (rest := []) (la := [vA 2, vI (sk A n k), vI 1]) oD_2_Sp_fail ml_Sr_44 mw_Sp_fail mv_Sp_fail rfl d_Sr_numberWithin_51 rfl rfl rfl rfl rfl ?_
      refine Rj_aload_n (q := 1) d_Sp_fail_0 rfl rfl rfl ?_
      refine Rj_gi (q := 4) (ki := 3) (v := 0) gD_Sp_28_2 rfl rfl hf0 d_Sp_fail_1 rfl ?_
      refine Rj_if_ne (q := 7) (t := 19) d_Sp_fail_4 rfl (by decide) (by decide) (fun c => absurd c (by decide)) (fun _ => ?_)
      refine Rj_aload_n (q := 8) d_Sp_fail_7 rfl rfl rfl ?_
      refine Rj_iconst (q := 9) d_Sp_fail_8 rfl ?_
      refine Rj_bipush (q := 11) d_Sp_fail_9 rfl (by decide +kernel) ?_
      refine Rj_iload_n (q := 12) d_Sp_fail_11 rfl rfl rfl ?_
      refine Rj_imul (q := 13) d_Sp_fail_12 rfl ?_
      refine Rj_iadd (q := 14) d_Sp_fail_13 rfl ?_
      refine Rj_iload_n (q := 15) d_Sp_fail_14 rfl rfl rfl ?_
      refine Rj_iadd (q := 16) d_Sp_fail_15 rfl ?_
      refine Rj_pi (q := 19) (ki := 3) pD_Sp_28_2 rfl rfl d_Sp_fail_16 rfl ?_
      refine Rj_vret d_Sp_fail_19 rfl ?_
      refine Rj_iload (q := 56) d_Sr_numberWithin_54 rfl rfl ?_
      refine Rj_iret d_Sr_numberWithin_56 rfl ?_
      refine h2 ((1 + (8 * (sk A n k))) + 1) _ _ ?_ ⟨by omega, by omega⟩ (Fr.put (Fr.put (Fr.refl _ _) (by decide)) (by decide)) rfl
      first
      | exact Or.inl (by unfold pNum; rw [if_pos q21, if_neg (fun h => by omega)])
      | exact Or.inr ⟨_, by unfold pNum; rw [if_pos q21, if_pos ⟨l21, by omega, by omega⟩, c41], rfl⟩
    · refine Rj_iload (q := 34) d_Sr_numberWithin_32 rfl rfl ?_
      refine Rj_iload_n (q := 35) d_Sr_numberWithin_34 rfl rfl rfl ?_
      refine Rj_icmp_gt (q := 38) (t := 44) d_Sr_numberWithin_35 rfl (by decide) ⟨by omega, by omega⟩ ⟨by omega, by omega⟩ (fun c35 => ?_) (fun c35 => ?_)
      · refine Rj_aload_n (q := 45) d_Sr_numberWithin_44 rfl rfl rfl ?_
        refine Rj_gr (q := 48) (zd := 2) gD_Sr_9_83 rfl rfl d_Sr_numberWithin_45 rfl ?_
        refine Rj_iload (q := 50) d_Sr_numberWithin_48 rfl rfl ?_
        refine Rj_iconst (q := 51) d_Sr_numberWithin_50 rfl ?_
        refine Rj_vov (q := 54) (z := y_Sp_fail) (as := [vI (sk A n k), vI 1]) (rest := []) (la := [vA 2, vI (sk A n k), vI 1]) oD_2_Sp_fail ml_Sr_44 mw_Sp_fail mv_Sp_fail rfl d_Sr_numberWithin_51 rfl rfl rfl rfl rfl ?_
        refine Rj_aload_n (q := 1) d_Sp_fail_0 rfl rfl rfl ?_
        refine Rj_gi (q := 4) (ki := 3) (v := 0) gD_Sp_28_2 rfl rfl hf0 d_Sp_fail_1 rfl ?_
        refine Rj_if_ne (q := 7) (t := 19) d_Sp_fail_4 rfl (by decide) (by decide) (fun c => absurd c (by decide)) (fun _ => ?_)
        refine Rj_aload_n (q := 8) d_Sp_fail_7 rfl rfl rfl ?_
        refine Rj_iconst (q := 9) d_Sp_fail_8 rfl ?_
        refine Rj_bipush (q := 11) d_Sp_fail_9 rfl (by decide +kernel) ?_
        refine Rj_iload_n (q := 12) d_Sp_fail_11 rfl rfl rfl ?_
        refine Rj_imul (q := 13) d_Sp_fail_12 rfl ?_
        refine Rj_iadd (q := 14) d_Sp_fail_13 rfl ?_
        refine Rj_iload_n (q := 15) d_Sp_fail_14 rfl rfl rfl ?_
        refine Rj_iadd (q := 16) d_Sp_fail_15 rfl ?_
        refine Rj_pi (q := 19) (ki := 3) pD_Sp_28_2 rfl rfl d_Sp_fail_16 rfl ?_
        refine Rj_vret d_Sp_fail_19 rfl ?_
        refine Rj_iload (q := 56) d_Sr_numberWithin_54 rfl rfl ?_
        refine Rj_iret d_Sr_numberWithin_56 rfl ?_
        refine h2 ((1 + (8 * (sk A n k))) + 1) _ _ ?_ ⟨by omega, by omega⟩ (Fr.put (Fr.put (Fr.refl _ _) (by decide)) (by decide)) rfl
        first
        | exact Or.inl (by unfold pNum; rw [if_pos q21, if_neg (fun h => by omega)])
        | exact Or.inr ⟨_, by unfold pNum; rw [if_pos q21, if_pos ⟨l21, by omega, by omega⟩, c41], rfl⟩
      · refine Rj_iload (q := 40) d_Sr_numberWithin_38 rfl rfl ?_
        refine Rj_iload_n (q := 41) d_Sr_numberWithin_40 rfl rfl rfl ?_
        refine Rj_icmp_ne (q := 44) (t := 54) d_Sr_numberWithin_41 rfl (by decide) ⟨by omega, by omega⟩ ⟨by omega, by omega⟩ (fun c41 => ?_) (fun c41 => ?_)
        · refine Rj_iload (q := 56) d_Sr_numberWithin_54 rfl rfl ?_
          refine Rj_iret d_Sr_numberWithin_56 rfl ?_
          exact h1 _ _ (by unfold pNum; rw [if_pos q21, if_pos ⟨l21, by omega, by omega⟩]) c41
        · refine Rj_aload_n (q := 45) d_Sr_numberWithin_44 rfl rfl rfl ?_
          refine Rj_gr (q := 48) (zd := 2) gD_Sr_9_83 rfl rfl d_Sr_numberWithin_45 rfl ?_
          refine Rj_iload (q := 50) d_Sr_numberWithin_48 rfl rfl ?_
          refine Rj_iconst (q := 51) d_Sr_numberWithin_50 rfl ?_
          refine Rj_vov (q := 54) (z := y_Sp_fail) (as := [vI (sk A n k), vI 1]) (rest := []) (la := [vA 2, vI (sk A n k), vI 1]) oD_2_Sp_fail ml_Sr_44 mw_Sp_fail mv_Sp_fail rfl d_Sr_numberWithin_51 rfl rfl rfl rfl rfl ?_
          refine Rj_aload_n (q := 1) d_Sp_fail_0 rfl rfl rfl ?_
          refine Rj_gi (q := 4) (ki := 3) (v := 0) gD_Sp_28_2 rfl rfl hf0 d_Sp_fail_1 rfl ?_
          refine Rj_if_ne (q := 7) (t := 19) d_Sp_fail_4 rfl (by decide) (by decide) (fun c => absurd c (by decide)) (fun _ => ?_)
          refine Rj_aload_n (q := 8) d_Sp_fail_7 rfl rfl rfl ?_
          refine Rj_iconst (q := 9) d_Sp_fail_8 rfl ?_
          refine Rj_bipush (q := 11) d_Sp_fail_9 rfl (by decide +kernel) ?_
          refine Rj_iload_n (q := 12) d_Sp_fail_11 rfl rfl rfl ?_
          refine Rj_imul (q := 13) d_Sp_fail_12 rfl ?_
          refine Rj_iadd (q := 14) d_Sp_fail_13 rfl ?_
          refine Rj_iload_n (q := 15) d_Sp_fail_14 rfl rfl rfl ?_
          refine Rj_iadd (q := 16) d_Sp_fail_15 rfl ?_
          refine Rj_pi (q := 19) (ki := 3) pD_Sp_28_2 rfl rfl d_Sp_fail_16 rfl ?_
          refine Rj_vret d_Sp_fail_19 rfl ?_
          refine Rj_iload (q := 56) d_Sr_numberWithin_54 rfl rfl ?_
          refine Rj_iret d_Sr_numberWithin_56 rfl ?_
          refine h2 ((1 + (8 * (sk A n k))) + 1) _ _ ?_ ⟨by omega, by omega⟩ (Fr.put (Fr.put (Fr.refl _ _) (by decide)) (by decide)) rfl
          first
          | exact Or.inl (by unfold pNum; rw [if_pos q21, if_neg (fun h => by omega)])
          | exact Or.inr ⟨_, by unfold pNum; rw [if_pos q21, if_pos ⟨l21, by omega, by omega⟩, c41], rfl⟩
  · have db21 := dval_bd (A := A) (n := n) (k := sk A n k)
    have de21 := dend_bd A (n := n) (k := sk A n k) (by omega)
    refine Rj_istore (q := 26) (ls' := [vA 83, vI lo, vI hi, vI u, vI (sk A n k), vI (-1)]) d_Sr_numberWithin_24 rfl (by decide) rfl ?_
    refine Rj_iload (q := 28) d_Sr_numberWithin_26 rfl rfl ?_
    refine Rj_iload_n (q := 29) d_Sr_numberWithin_28 rfl rfl rfl ?_
    refine Rj_icmp_lt (q := 32) (t := 44) d_Sr_numberWithin_29 rfl (by decide) (by decide) ⟨by omega, by omega⟩ (fun c29 => ?_) (fun c29 => ?_)
    · refine Rj_aload_n (q := 45) d_Sr_numberWithin_44 rfl rfl rfl ?_
      refine Rj_gr (q := 48) (zd := 2) gD_Sr_9_83 rfl rfl d_Sr_numberWithin_45 rfl ?_
      refine Rj_iload (q := 50) d_Sr_numberWithin_48 rfl rfl ?_
      refine Rj_iconst (q := 51) d_Sr_numberWithin_50 rfl ?_
      refine Rj_vov (q := 54) (z := y_Sp_fail) (as := [vI (sk A n k), vI 1]) (rest := []) (la := [vA 2, vI (sk A n k), vI 1]) oD_2_Sp_fail ml_Sr_44 mw_Sp_fail mv_Sp_fail rfl d_Sr_numberWithin_51 rfl rfl rfl rfl rfl ?_
      refine Rj_aload_n (q := 1) d_Sp_fail_0 rfl rfl rfl ?_
      refine Rj_gi (q := 4) (ki := 3) (v := 1 + 8 * sk A n k + 0) gD_Sp_28_2 rfl rfl rfl d_Sp_fail_1 rfl ?_
      refine Rj_if_ne (q := 7) (t := 19) d_Sp_fail_4 rfl (by decide) ⟨by omega, by omega⟩ (fun c51_4 => ?_) (fun c51_4 => ?_)
      · refine Rj_vret d_Sp_fail_19 rfl ?_
        refine Rj_iload (q := 56) d_Sr_numberWithin_54 rfl rfl ?_
        refine Rj_iret d_Sr_numberWithin_56 rfl ?_
        refine h2 (1 + 8 * sk A n k + 0) _ _ (Or.inl ?_) (by decide) (Fr.put (Fr.put (Fr.refl _ _) (by decide)) (by decide)) rfl
        unfold pNum
        first | rw [if_neg q21] | rw [if_pos q21, if_neg (fun h => l21 h.1)]
      · exact absurd c51_4 (by omega)
    · exact absurd c29 (by omega)
  · have db21 := dval_bd (A := A) (n := n) (k := sk A n k)
    have de21 := dend_bd A (n := n) (k := sk A n k) (by omega)
    rw [mset_mset]
    refine Rj_istore (q := 26) (ls' := [vA 83, vI lo, vI hi, vI u, vI (sk A n k), vI (-1)]) d_Sr_numberWithin_24 rfl (by decide) rfl ?_
    refine Rj_iload (q := 28) d_Sr_numberWithin_26 rfl rfl ?_
    refine Rj_iload_n (q := 29) d_Sr_numberWithin_28 rfl rfl rfl ?_
    refine Rj_icmp_lt (q := 32) (t := 44) d_Sr_numberWithin_29 rfl (by decide) (by decide) ⟨by omega, by omega⟩ (fun c29 => ?_) (fun c29 => ?_)
    · refine Rj_aload_n (q := 45) d_Sr_numberWithin_44 rfl rfl rfl ?_
      refine Rj_gr (q := 48) (zd := 2) gD_Sr_9_83 rfl rfl d_Sr_numberWithin_45 rfl ?_
      refine Rj_iload (q := 50) d_Sr_numberWithin_48 rfl rfl ?_
      refine Rj_iconst (q := 51) d_Sr_numberWithin_50 rfl ?_
      refine Rj_vov (q := 54) (z := y_Sp_fail) (as := [vI (sk A n k), vI 1]) (rest := []) (la := [vA 2, vI (sk A n k), vI 1]) oD_2_Sp_fail ml_Sr_44 mw_Sp_fail mv_Sp_fail rfl d_Sr_numberWithin_51 rfl rfl rfl rfl rfl ?_
      refine Rj_aload_n (q := 1) d_Sp_fail_0 rfl rfl rfl ?_
      refine Rj_gi (q := 4) (ki := 3) (v := 1 + 8 * sk A n k + 1) gD_Sp_28_2 rfl rfl rfl d_Sp_fail_1 rfl ?_
      refine Rj_if_ne (q := 7) (t := 19) d_Sp_fail_4 rfl (by decide) ⟨by omega, by omega⟩ (fun c51_4 => ?_) (fun c51_4 => ?_)
      · refine Rj_vret d_Sp_fail_19 rfl ?_
        refine Rj_iload (q := 56) d_Sr_numberWithin_54 rfl rfl ?_
        refine Rj_iret d_Sr_numberWithin_56 rfl ?_
        refine h2 (1 + 8 * sk A n k + 1) _ _ (Or.inl ?_) (by decide) (Fr.put (Fr.put (Fr.refl _ _) (by decide)) (by decide)) rfl
        unfold pNum
        first | rw [if_neg q21] | rw [if_pos q21, if_neg (fun h => l21 h.1)]
      · exact absurd c51_4 (by omega)
    · exact absurd c29 (by omega)
theorem pNum_e1 {A : Int → Int} {n k lo hi u wr : Int} (h0 : 0 ≤ k) (hk : k ≤ n) (h : pNum A n k lo hi = .error wr ∨ ∃ e, pNum A n k lo hi = .ok (e, u) ∧ wr = 1 + 8 * sk A n k + 1) : 1 ≤ wr ∧ wr ≤ 2 + 8 * n := by
  rcases h with h | ⟨e, -, h⟩
  · exact pNum_err h0 hk h
  · have := sk_bd A (n := n) (k := k) hk
    omega
/-- the class's draft is what the reference has read -/
def DRF (μ : Mem) (σ : StS) : Prop := μ 12 0 = σ.2.2.1 ∧ μ 12 4 = σ.2.2.2.1 ∧ μ 12 5 = σ.2.2.2.2.1 ∧ μ 12 3 = σ.2.2.2.2.2.1 ∧ (∀ d, 0 ≤ d → d < σ.2.2.1 → μ 13 d = σ.2.2.2.2.2.2.1 (2 * d) ∧ μ 14 d = σ.2.2.2.2.2.2.1 (2 * d + 1)) ∧ (∀ j, 0 ≤ j → j < σ.2.2.2.1 → μ 15 j = σ.2.2.2.2.2.2.2 (3 * j) ∧ μ 16 j = σ.2.2.2.2.2.2.2 (3 * j + 1) ∧ μ 17 j = σ.2.2.2.2.2.2.2 (3 * j + 2))
set_option maxHeartbeats 4000000 in
theorem s_readDoor {μ : Mem} {Q : PV → Mem → Prop} {A : Int → Int} {n k : Int} (hT : TD μ A n) (hk : μ 2 2 = k) (h0 : 0 ≤ k ∧ k ≤ n) {ln D J X FX : Int} {dr jr : Int → Int} (hf0 : μ 2 3 = 0) (hkk : sk A n k = k) (hO : StOK n (k, ln, D, J, X, FX, dr, jr)) (hD : DRF μ (k, ln, D, J, X, FX, dr, jr)) (hw0 : wat A n k 1685024626 = true) (hfull : D < 12) (h1 : ∀ σ' μ', stDoor A n k (k, ln, D, J, X, FX, dr, jr) = .ok σ' → Fr Wrd μ μ' → DRF μ' σ' → μ' 2 2 = σ'.1 → μ' 2 3 = 0 → Q vU μ') (h2 : ∀ wr μ', stDoor A n k (k, ln, D, J, X, FX, dr, jr) = .error wr → Fr Wsc μ μ' → μ' 2 3 = wr → Q vU μ') : Rj YD y_Sr_readDoor 0 [vA 83] [] μ Q := by
  have hn := hT.2.1
  have hX := hT.1.1
  obtain ⟨hd0, hd4, hd5, hd3, hdd, hdj⟩ := id hD
  dsimp only at hd0 hd4 hd5 hd3 hdd hdj
  obtain ⟨o0, o1, o2, o3, o4, o5, o6⟩ := id hO
  dsimp only at o0 o1 o2 o3 o4
  have hlb := lend_bd A (n := n) (k := k) h0.2
  refine Rj_aload_n (q := 1) d_Sr_readDoor_0 rfl rfl rfl ?_
  refine Rj_gr (q := 4) (zd := 2) gD_Sr_9_83 rfl rfl d_Sr_readDoor_1 rfl ?_
  refine Rj_ldcS (q := 6) (tx := "door") (k := 3) (z := 3) (by decide) rfl d_Sr_readDoor_4 rfl ?_
  refine Rj_vo (q := 9) (z := y_Sp_takeWord) (as := [vK 3]) (rest := []) (la := [vA 2, vK 3]) oD_2_Sp_takeWord ml_Sr_88 mw_Sp_takeWord mv_Sp_takeWord rfl d_Sr_readDoor_6 rfl rfl rfl rfl rfl ?_
  refine s_takeWord (μ := μ) (A := A) (n := n) (k := k) (w := 3) (hT.keep rfl rfl) hk (by omega) rfl (by decide) ?_
  rw [wN_3]
  have r6 := sk_bd A (n := n) (k := k) (by omega)
  have t6 := lend_bd A (n := n) (k := sk A n k) (by omega)
  rw [show (if wat A n (sk A n k) 1685024626 = true then lend A n (sk A n k) else sk A n k) = lend A n k from (by rw [hkk, if_pos hw0]), show bI (wat A n (sk A n k) 1685024626) = 1 from (by rw [hkk]; exact bI_t hw0)]
  refine Rj_pop (q := 10) d_Sr_readDoor_9 rfl (by intro h; cases h) ?_
  refine Rj_aload_n (q := 11) d_Sr_readDoor_10 rfl rfl rfl ?_
  refine Rj_iconst (q := 12) d_Sr_readDoor_11 rfl ?_
  refine Rj_bipush (q := 14) d_Sr_readDoor_12 rfl (by decide +kernel) ?_
  refine Rj_iconst (q := 15) d_Sr_readDoor_14 rfl ?_
  refine Rj_vo (q := 18) (z := y_Sr_numberWithin) (as := [vI 4, vI 60, vI (-1)]) (rest := []) (la := [vA 83, vI 4, vI 60, vI (-1)]) oD_83_Sr_numberWithin ml_Sr_91 mw_Sr_numberWithin mv_Sr_numberWithin rfl d_Sr_readDoor_15 rfl rfl rfl rfl rfl ?_
  refine s_numW (μ := (mset μ 2 2 (lend A n k))) (A := A) (n := n) (k := lend A n k) (lo := 4) (hi := 60) (u := -1) (hT.keep rfl rfl) rfl (by omega) hf0 (by omega) (by omega) (by omega) (fun e15 v15 q15 u15 => ?_) (fun w15 v15 m15 q15 i15 f15 g15 => ?_)
  · have p15 := pNum_ok (k := lend A n k) (by omega) q15
    have r15 := sk_bd A (n := n) (k := lend A n k) (by omega)
    rw [mset_mset]
    refine Rj_istore_n (q := 19) (ls' := [vA 83, vI v15]) d_Sr_readDoor_18 rfl rfl (by decide) rfl ?_
    refine Rj_aload_n (q := 20) d_Sr_readDoor_19 rfl rfl rfl ?_
    refine Rj_gr (q := 23) (zd := 2) gD_Sr_9_83 rfl rfl d_Sr_readDoor_20 rfl ?_
    refine Rj_vo (q := 26) (z := y_Sp_isSound) (as := []) (rest := []) (la := [vA 2]) oD_2_Sp_isSound ml_Sr_28 mw_Sp_isSound mv_Sp_isSound rfl d_Sr_readDoor_23 rfl rfl rfl rfl rfl ?_
    refine Rj_aload_n (q := 1) d_Sp_isSound_0 rfl rfl rfl ?_
    refine Rj_gi (q := 4) (ki := 3) (v := 0) gD_Sp_28_2 rfl rfl hf0 d_Sp_isSound_1 rfl ?_
    refine Rj_if_ne (q := 7) (t := 11) d_Sp_isSound_4 rfl (by decide) (by decide) (fun c => absurd c (by decide)) (fun _ => ?_)
    refine Rj_iconst (q := 8) d_Sp_isSound_7 rfl ?_
    refine Rj_goto (t := 12) d_Sp_isSound_8 (by decide) ?_
    refine Rj_bret1 d_Sp_isSound_12 rfl ?_
    refine Rj_if_eq (q := 29) (t := 39) d_Sr_readDoor_26 rfl (by decide) (by decide) (fun c => absurd c (by decide)) (fun _ => ?_)
    refine Rj_aload_n (q := 30) d_Sr_readDoor_29 rfl rfl rfl ?_
    refine Rj_iconst (q := 31) d_Sr_readDoor_30 rfl ?_
    refine Rj_iload_n (q := 32) d_Sr_readDoor_31 rfl rfl rfl ?_
    refine Rj_iconst (q := 33) d_Sr_readDoor_32 rfl ?_
    refine Rj_vo (q := 36) (z := y_Sr_numberWithin) (as := [vI 0, vI v15, vI (-1)]) (rest := []) (la := [vA 83, vI 0, vI v15, vI (-1)]) oD_83_Sr_numberWithin ml_Sr_91 mw_Sr_numberWithin mv_Sr_numberWithin rfl d_Sr_readDoor_33 rfl rfl rfl rfl rfl ?_
    refine s_numW (μ := (mset μ 2 2 e15)) (A := A) (n := n) (k := e15) (lo := 0) (hi := v15) (u := -1) (hT.keep rfl rfl) rfl (by omega) hf0 (by omega) (by omega) (by omega) (fun e33 v33 q33 u33 => ?_) (fun w33 v33 m33 q33 i33 f33 g33 => ?_)
    · have p33 := pNum_ok (k := e15) (by omega) q33
      have r33 := sk_bd A (n := n) (k := e15) (by omega)
      rw [mset_mset]
      refine Rj_goto (t := 40) d_Sr_readDoor_36 (by decide) ?_
      refine Rj_istore_n (q := 41) (ls' := [vA 83, vI v15, vI v33]) d_Sr_readDoor_40 rfl rfl (by decide) rfl ?_
      refine Rj_aload_n (q := 42) d_Sr_readDoor_41 rfl rfl rfl ?_
      refine Rj_gr (q := 45) (zd := 2) gD_Sr_9_83 rfl rfl d_Sr_readDoor_42 rfl ?_
      refine Rj_vo (q := 48) (z := y_Sp_isSound) (as := []) (rest := []) (la := [vA 2]) oD_2_Sp_isSound ml_Sr_28 mw_Sp_isSound mv_Sp_isSound rfl d_Sr_readDoor_45 rfl rfl rfl rfl rfl ?_
      refine Rj_aload_n (q := 1) d_Sp_isSound_0 rfl rfl rfl ?_
      refine Rj_gi (q := 4) (ki := 3) (v := 0) gD_Sp_28_2 rfl rfl hf0 d_Sp_isSound_1 rfl ?_
      refine Rj_if_ne (q := 7) (t := 11) d_Sp_isSound_4 rfl (by decide) (by decide) (fun c => absurd c (by decide)) (fun _ => ?_)
      refine Rj_iconst (q := 8) d_Sp_isSound_7 rfl ?_
      refine Rj_goto (t := 12) d_Sp_isSound_8 (by decide) ?_
      refine Rj_bret1 d_Sp_isSound_12 rfl ?_
      refine Rj_if_eq (q := 51) (t := 60) d_Sr_readDoor_48 rfl (by decide) (by decide) (fun c => absurd c (by decide)) (fun _ => ?_)
      refine Rj_aload_n (q := 52) d_Sr_readDoor_51 rfl rfl rfl ?_
      refine Rj_gr (q := 55) (zd := 12) gD_Sr_15_83 rfl rfl d_Sr_readDoor_52 rfl ?_
      refine Rj_iload_n (q := 56) d_Sr_readDoor_55 rfl rfl rfl ?_
      refine Rj_iload_n (q := 57) d_Sr_readDoor_56 rfl rfl rfl ?_
      refine Rj_vov (q := 60) (z := y_Sc_addDoor) (as := [vI v15, vI v33]) (rest := []) (la := [vA 12, vI v15, vI v33]) oD_12_Sc_addDoor ml_Sr_95 mw_Sc_addDoor mv_Sc_addDoor rfl d_Sr_readDoor_57 rfl rfl rfl rfl rfl ?_
      refine Rj_aload_n (q := 1) d_Sc_addDoor_0 rfl rfl rfl ?_
      refine Rj_gi (q := 4) (ki := 0) (v := D) gD_Sc_37_12 rfl rfl hd0 d_Sc_addDoor_1 rfl ?_
      refine Rj_bipush (q := 6) d_Sc_addDoor_4 rfl (by decide +kernel) ?_
      refine Rj_icmp_ge (q := 9) (t := 39) d_Sc_addDoor_6 rfl (by decide) ⟨by omega, by omega⟩ (by decide) (fun c57_6 => ?_) (fun c57_6 => ?_)
      · exact absurd c57_6 (by omega)
      · refine Rj_aload_n (q := 10) d_Sc_addDoor_9 rfl rfl rfl ?_
        refine Rj_gr (q := 13) (zd := 13) gD_Sc_9_12 rfl rfl d_Sc_addDoor_10 rfl ?_
        refine Rj_aload_n (q := 14) d_Sc_addDoor_13 rfl rfl rfl ?_
        refine Rj_gi (q := 17) (ki := 0) (v := D) gD_Sc_37_12 rfl rfl hd0 d_Sc_addDoor_14 rfl ?_
        refine Rj_iload_n (q := 18) d_Sc_addDoor_17 rfl rfl rfl ?_
        refine Rj_is (q := 19) aD_13 rfl (by omega) d_Sc_addDoor_18 rfl ?_
        refine Rj_aload_n (q := 20) d_Sc_addDoor_19 rfl rfl rfl ?_
        refine Rj_gr (q := 23) (zd := 14) gD_Sc_15_12 rfl rfl d_Sc_addDoor_20 rfl ?_
        refine Rj_aload_n (q := 24) d_Sc_addDoor_23 rfl rfl rfl ?_
        refine Rj_gi (q := 27) (ki := 0) (v := D) gD_Sc_37_12 rfl rfl hd0 d_Sc_addDoor_24 rfl ?_
        refine Rj_iload_n (q := 28) d_Sc_addDoor_27 rfl rfl rfl ?_
        refine Rj_is (q := 29) aD_14 rfl (by omega) d_Sc_addDoor_28 rfl ?_
        refine Rj_aload_n (q := 30) d_Sc_addDoor_29 rfl rfl rfl ?_
        refine Rj_dup (q := 31) d_Sc_addDoor_30 rfl (by intro h; cases h) ?_
        refine Rj_gi (q := 34) (ki := 0) (v := D) gD_Sc_37_12 rfl rfl hd0 d_Sc_addDoor_31 rfl ?_
        refine Rj_iconst (q := 35) d_Sc_addDoor_34 rfl ?_
        refine Rj_iadd (q := 36) d_Sc_addDoor_35 rfl ?_
        refine Rj_pi (q := 39) (ki := 0) pD_Sc_37_12 rfl rfl d_Sc_addDoor_36 rfl ?_
        refine Rj_vret d_Sc_addDoor_39 rfl ?_
        refine Rj_vret d_Sr_readDoor_60 rfl ?_
        refine h1 (e33, ln, D + 1, J, X, FX, fset (fset dr (2 * D) v15) (2 * D + 1) v33, jr) _ ?_ (Fr.put (Fr.put (Fr.put (Fr.put (Fr.refl _ _) (by decide)) (by simp [Wrd])) (by simp [Wrd])) (by decide)) ⟨?_, hd4, hd5, hd3, fun d d0 d1 => ?_, fun j j0 j1 => hdj j j0 j1⟩ rfl hf0
        · unfold stDoor
          dsimp only
          rw [if_neg (by omega), q15]
          dsimp only
          rw [q33]
        · rfl
        · dsimp only at d1
          show mset μ 13 D v15 13 d = fset (fset dr (2 * D) v15) (2 * D + 1) v33 (2 * d) ∧ mset μ 14 D v33 14 d = fset (fset dr (2 * D) v15) (2 * D + 1) v33 (2 * d + 1)
          by_cases e : d = D
          · subst e
            rw [mset_same, mset_same, fset_same, fset_ne _ (show (2 * d : Int) ≠ 2 * d + 1 by omega), fset_same]
            exact ⟨rfl, rfl⟩
          · have := hdd d d0 (by omega)
            rw [mset_ne _ _ _ _ _ e, mset_ne _ _ _ _ _ e, fset_ne _ (show (2 * d : Int) ≠ 2 * D + 1 by omega), fset_ne _ (show (2 * d : Int) ≠ 2 * D by omega), fset_ne _ (show (2 * d + 1 : Int) ≠ 2 * D + 1 by omega), fset_ne _ (show (2 * d + 1 : Int) ≠ 2 * D by omega)]
            exact this
    · have p33 := pNum_e1 (k := e15) (by omega) (by omega) q33
      refine Rj_goto (t := 40) d_Sr_readDoor_36 (by decide) ?_
      refine Rj_istore_n (q := 41) (ls' := [vA 83, vI v15, vI v33]) d_Sr_readDoor_40 rfl rfl (by decide) rfl ?_
      refine Rj_aload_n (q := 42) d_Sr_readDoor_41 rfl rfl rfl ?_
      refine Rj_gr (q := 45) (zd := 2) gD_Sr_9_83 rfl rfl d_Sr_readDoor_42 rfl ?_
      refine Rj_vo (q := 48) (z := y_Sp_isSound) (as := []) (rest := []) (la := [vA 2]) oD_2_Sp_isSound ml_Sr_28 mw_Sp_isSound mv_Sp_isSound rfl d_Sr_readDoor_45 rfl rfl rfl rfl rfl ?_
      refine Rj_aload_n (q := 1) d_Sp_isSound_0 rfl rfl rfl ?_
      refine Rj_gi (q := 4) (ki := 3) (v := w33) gD_Sp_28_2 rfl rfl g33 d_Sp_isSound_1 rfl ?_
      refine Rj_if_ne (q := 7) (t := 11) d_Sp_isSound_4 rfl (by decide) ⟨by omega, by omega⟩ (fun c45_4 => ?_) (fun c45_4 => ?_)
      · refine Rj_iconst (q := 12) d_Sp_isSound_11 rfl ?_
        refine Rj_bret0 d_Sp_isSound_12 rfl ?_
        refine Rj_if_eq (q := 51) (t := 60) d_Sr_readDoor_48 rfl (by decide) (by decide) (fun _ => ?_) (fun c => absurd c (by decide))
        refine Rj_vret d_Sr_readDoor_60 rfl ?_
        refine h2 _ _ ?_ (Fr.trans (Fr.put (Fr.refl _ _) (by decide)) f33) g33
        unfold stDoor
        dsimp only
        rw [if_neg (by omega)]
        rw [q15]
        dsimp only
        rcases q33 with q33 | ⟨e, q33, -⟩
        · rw [q33]
        · have := pNum_ok (k := e15) (by omega) q33; omega
      · exact absurd c45_4 (by omega)
  · have p15 := pNum_e1 (k := lend A n k) (by omega) (by omega) q15
    refine Rj_istore_n (q := 19) (ls' := [vA 83, vI v15]) d_Sr_readDoor_18 rfl rfl (by decide) rfl ?_
    refine Rj_aload_n (q := 20) d_Sr_readDoor_19 rfl rfl rfl ?_
    refine Rj_gr (q := 23) (zd := 2) gD_Sr_9_83 rfl rfl d_Sr_readDoor_20 rfl ?_
    refine Rj_vo (q := 26) (z := y_Sp_isSound) (as := []) (rest := []) (la := [vA 2]) oD_2_Sp_isSound ml_Sr_28 mw_Sp_isSound mv_Sp_isSound rfl d_Sr_readDoor_23 rfl rfl rfl rfl rfl ?_
    refine Rj_aload_n (q := 1) d_Sp_isSound_0 rfl rfl rfl ?_
    refine Rj_gi (q := 4) (ki := 3) (v := w15) gD_Sp_28_2 rfl rfl g15 d_Sp_isSound_1 rfl ?_
    refine Rj_if_ne (q := 7) (t := 11) d_Sp_isSound_4 rfl (by decide) ⟨by omega, by omega⟩ (fun c23_4 => ?_) (fun c23_4 => ?_)
    · refine Rj_iconst (q := 12) d_Sp_isSound_11 rfl ?_
      refine Rj_bret0 d_Sp_isSound_12 rfl ?_
      refine Rj_if_eq (q := 29) (t := 39) d_Sr_readDoor_26 rfl (by decide) (by decide) (fun _ => ?_) (fun c => absurd c (by decide))
      refine Rj_iconst (q := 40) d_Sr_readDoor_39 rfl ?_
      refine Rj_istore_n (q := 41) (ls' := [vA 83, vI v15, vI (-1)]) d_Sr_readDoor_40 rfl rfl (by decide) rfl ?_
      refine Rj_aload_n (q := 42) d_Sr_readDoor_41 rfl rfl rfl ?_
      refine Rj_gr (q := 45) (zd := 2) gD_Sr_9_83 rfl rfl d_Sr_readDoor_42 rfl ?_
      refine Rj_vo (q := 48) (z := y_Sp_isSound) (as := []) (rest := []) (la := [vA 2]) oD_2_Sp_isSound ml_Sr_28 mw_Sp_isSound mv_Sp_isSound rfl d_Sr_readDoor_45 rfl rfl rfl rfl rfl ?_
      refine Rj_aload_n (q := 1) d_Sp_isSound_0 rfl rfl rfl ?_
      refine Rj_gi (q := 4) (ki := 3) (v := w15) gD_Sp_28_2 rfl rfl g15 d_Sp_isSound_1 rfl ?_
      refine Rj_if_ne (q := 7) (t := 11) d_Sp_isSound_4 rfl (by decide) ⟨by omega, by omega⟩ (fun c45_4 => ?_) (fun c45_4 => ?_)
      · refine Rj_iconst (q := 12) d_Sp_isSound_11 rfl ?_
        refine Rj_bret0 d_Sp_isSound_12 rfl ?_
        refine Rj_if_eq (q := 51) (t := 60) d_Sr_readDoor_48 rfl (by decide) (by decide) (fun _ => ?_) (fun c => absurd c (by decide))
        refine Rj_vret d_Sr_readDoor_60 rfl ?_
        refine h2 _ _ ?_ (Fr.trans (Fr.put (Fr.refl _ _) (by decide)) f15) g15
        unfold stDoor
        dsimp only
        rw [if_neg (by omega)]
        rcases q15 with q15 | ⟨e, q15, -⟩
        · rw [q15]
        · have := pNum_ok (k := lend A n k) (by omega) q15; omega
      · exact absurd c45_4 (by omega)
    · exact absurd c23_4 (by omega)
set_option maxHeartbeats 4000000 in
theorem s_readFixed {μ : Mem} {Q : PV → Mem → Prop} {A : Int → Int} {n k : Int} (hT : TD μ A n) (hk : μ 2 2 = k) (h0 : 0 ≤ k ∧ k ≤ n) {ln D J X FX : Int} {dr jr : Int → Int} (hf0 : μ 2 3 = 0) (hkk : sk A n k = k) (hO : StOK n (k, ln, D, J, X, FX, dr, jr)) (hD : DRF μ (k, ln, D, J, X, FX, dr, jr)) (hw0 : wat A n k 439856162148 = true) (h1 : ∀ σ' μ', stFixed A n k (k, ln, D, J, X, FX, dr, jr) = .ok σ' → Fr Wrd μ μ' → DRF μ' σ' → μ' 2 2 = σ'.1 → μ' 2 3 = 0 → Q vU μ') (h2 : ∀ wr μ', stFixed A n k (k, ln, D, J, X, FX, dr, jr) = .error wr → Fr Wsc μ μ' → μ' 2 3 = wr → Q vU μ') : Rj YD y_Sr_readFixed 0 [vA 83] [] μ Q := by
  have hn := hT.2.1
  have hX := hT.1.1
  obtain ⟨hd0, hd4, hd5, hd3, hdd, hdj⟩ := id hD
  dsimp only at hd0 hd4 hd5 hd3 hdd hdj
  obtain ⟨o0, o1, o2, o3, o4, o5, o6⟩ := id hO
  dsimp only at o0 o1 o2 o3 o4
  have hlb := lend_bd A (n := n) (k := k) h0.2
  refine Rj_aload_n (q := 1) d_Sr_readFixed_0 rfl rfl rfl ?_
  refine Rj_gr (q := 4) (zd := 2) gD_Sr_9_83 rfl rfl d_Sr_readFixed_1 rfl ?_
  refine Rj_ldcS (q := 6) (tx := "fixed") (k := 4) (z := 4) (by decide) rfl d_Sr_readFixed_4 rfl ?_
  refine Rj_vo (q := 9) (z := y_Sp_takeWord) (as := [vK 4]) (rest := []) (la := [vA 2, vK 4]) oD_2_Sp_takeWord ml_Sr_88 mw_Sp_takeWord mv_Sp_takeWord rfl d_Sr_readFixed_6 rfl rfl rfl rfl rfl ?_
  refine s_takeWord (μ := μ) (A := A) (n := n) (k := k) (w := 4) (hT.keep rfl rfl) hk (by omega) rfl (by decide) ?_
  rw [wN_4]
  have r6 := sk_bd A (n := n) (k := k) (by omega)
  have t6 := lend_bd A (n := n) (k := sk A n k) (by omega)
  rw [show (if wat A n (sk A n k) 439856162148 = true then lend A n (sk A n k) else sk A n k) = lend A n k from (by rw [hkk, if_pos hw0]), show bI (wat A n (sk A n k) 439856162148) = 1 from (by rw [hkk]; exact bI_t hw0)]
  refine Rj_pop (q := 10) d_Sr_readFixed_9 rfl (by intro h; cases h) ?_
  refine Rj_aload_n (q := 11) d_Sr_readFixed_10 rfl rfl rfl ?_
  refine Rj_iconst (q := 12) d_Sr_readFixed_11 rfl ?_
  refine Rj_aload_n (q := 13) d_Sr_readFixed_12 rfl rfl rfl ?_
  refine Rj_gr (q := 16) (zd := 12) gD_Sr_15_83 rfl rfl d_Sr_readFixed_13 rfl ?_
  refine Rj_gi (q := 19) (ki := 0) (v := D) gD_Sr_37_12 rfl rfl hd0 d_Sr_readFixed_16 rfl ?_
  refine Rj_iconst (q := 20) d_Sr_readFixed_19 rfl ?_
  refine Rj_isub (q := 21) d_Sr_readFixed_20 rfl ?_
  refine Rj_iconst (q := 22) d_Sr_readFixed_21 rfl ?_
  refine Rj_vo (q := 25) (z := y_Sr_numberWithin) (as := [vI 0, vI (D - 1), vI (-1)]) (rest := []) (la := [vA 83, vI 0, vI (D - 1), vI (-1)]) oD_83_Sr_numberWithin ml_Sr_91 mw_Sr_numberWithin mv_Sr_numberWithin rfl d_Sr_readFixed_22 rfl rfl rfl rfl rfl ?_
  refine s_numW (μ := (mset μ 2 2 (lend A n k))) (A := A) (n := n) (k := lend A n k) (lo := 0) (hi := D - 1) (u := -1) (hT.keep rfl rfl) rfl (by omega) hf0 (by omega) (by omega) (by omega) (fun e22 v22 q22 u22 => ?_) (fun w22 v22 m22 q22 i22 f22 g22 => ?_)
  · have p22 := pNum_ok (k := lend A n k) (by omega) q22
    have r22 := sk_bd A (n := n) (k := lend A n k) (by omega)
    rw [mset_mset]
    refine Rj_istore_n (q := 26) (ls' := [vA 83, vI v22]) d_Sr_readFixed_25 rfl rfl (by decide) rfl ?_
    refine Rj_aload_n (q := 27) d_Sr_readFixed_26 rfl rfl rfl ?_
    refine Rj_gr (q := 30) (zd := 2) gD_Sr_9_83 rfl rfl d_Sr_readFixed_27 rfl ?_
    refine Rj_vo (q := 33) (z := y_Sp_isSound) (as := []) (rest := []) (la := [vA 2]) oD_2_Sp_isSound ml_Sr_28 mw_Sp_isSound mv_Sp_isSound rfl d_Sr_readFixed_30 rfl rfl rfl rfl rfl ?_
    refine Rj_aload_n (q := 1) d_Sp_isSound_0 rfl rfl rfl ?_
    refine Rj_gi (q := 4) (ki := 3) (v := 0) gD_Sp_28_2 rfl rfl hf0 d_Sp_isSound_1 rfl ?_
    refine Rj_if_ne (q := 7) (t := 11) d_Sp_isSound_4 rfl (by decide) (by decide) (fun c => absurd c (by decide)) (fun _ => ?_)
    refine Rj_iconst (q := 8) d_Sp_isSound_7 rfl ?_
    refine Rj_goto (t := 12) d_Sp_isSound_8 (by decide) ?_
    refine Rj_bret1 d_Sp_isSound_12 rfl ?_
    refine Rj_if_eq (q := 36) (t := 51) d_Sr_readFixed_33 rfl (by decide) (by decide) (fun c => absurd c (by decide)) (fun _ => ?_)
    refine Rj_aload_n (q := 37) d_Sr_readFixed_36 rfl rfl rfl ?_
    refine Rj_gr (q := 40) (zd := 12) gD_Sr_15_83 rfl rfl d_Sr_readFixed_37 rfl ?_
    refine Rj_dup (q := 41) d_Sr_readFixed_40 rfl (by intro h; cases h) ?_
    refine Rj_gi (q := 44) (ki := 3) (v := FX) gD_Sr_98_12 rfl rfl hd3 d_Sr_readFixed_41 rfl ?_
    refine Rj_iconst (q := 45) d_Sr_readFixed_44 rfl ?_
    refine Rj_iload_n (q := 46) d_Sr_readFixed_45 rfl rfl rfl ?_
    refine Rj_ishl (q := 47) (z := z_shl 1 v22) d_Sr_readFixed_46 rfl rfl ?_
    refine Rj_ior (q := 48) (z := z_or FX (z_shl 1 v22)) d_Sr_readFixed_47 rfl rfl ?_
    refine Rj_pi (q := 51) (ki := 3) pD_Sr_98_12 rfl rfl d_Sr_readFixed_48 rfl ?_
    refine Rj_vret d_Sr_readFixed_51 rfl ?_
    refine h1 (e22, ln, D, J, X, z_or FX (z_shl 1 v22), dr, jr) _ ?_ (Fr.put (Fr.put (Fr.refl _ _) (by decide)) (by decide)) ⟨hd0, hd4, hd5, rfl, hdd, hdj⟩ rfl hf0
    unfold stFixed
    dsimp only
    rw [q22]
  · have p22 := pNum_e1 (k := lend A n k) (by omega) (by omega) q22
    refine Rj_istore_n (q := 26) (ls' := [vA 83, vI v22]) d_Sr_readFixed_25 rfl rfl (by decide) rfl ?_
    refine Rj_aload_n (q := 27) d_Sr_readFixed_26 rfl rfl rfl ?_
    refine Rj_gr (q := 30) (zd := 2) gD_Sr_9_83 rfl rfl d_Sr_readFixed_27 rfl ?_
    refine Rj_vo (q := 33) (z := y_Sp_isSound) (as := []) (rest := []) (la := [vA 2]) oD_2_Sp_isSound ml_Sr_28 mw_Sp_isSound mv_Sp_isSound rfl d_Sr_readFixed_30 rfl rfl rfl rfl rfl ?_
    refine Rj_aload_n (q := 1) d_Sp_isSound_0 rfl rfl rfl ?_
    refine Rj_gi (q := 4) (ki := 3) (v := w22) gD_Sp_28_2 rfl rfl g22 d_Sp_isSound_1 rfl ?_
    refine Rj_if_ne (q := 7) (t := 11) d_Sp_isSound_4 rfl (by decide) ⟨by omega, by omega⟩ (fun c30_4 => ?_) (fun c30_4 => ?_)
    · refine Rj_iconst (q := 12) d_Sp_isSound_11 rfl ?_
      refine Rj_bret0 d_Sp_isSound_12 rfl ?_
      refine Rj_if_eq (q := 36) (t := 51) d_Sr_readFixed_33 rfl (by decide) (by decide) (fun _ => ?_) (fun c => absurd c (by decide))
      refine Rj_vret d_Sr_readFixed_51 rfl ?_
      refine h2 _ _ ?_ (Fr.trans (Fr.put (Fr.refl _ _) (by decide)) f22) g22
      unfold stFixed
      dsimp only
      rcases q22 with q22 | ⟨e, q22, -⟩
      · rw [q22]
      · have := pNum_ok (k := lend A n k) (by omega) q22; omega
    · exact absurd c30_4 (by omega)
set_option maxHeartbeats 4000000 in
theorem s_readJoin {μ : Mem} {Q : PV → Mem → Prop} {A : Int → Int} {n k : Int} (hT : TD μ A n) (hk : μ 2 2 = k) (h0 : 0 ≤ k ∧ k ≤ n) {ln D J X FX : Int} {dr jr : Int → Int} (hf0 : μ 2 3 = 0) (hkk : sk A n k = k) (hO : StOK n (k, ln, D, J, X, FX, dr, jr)) (hD : DRF μ (k, ln, D, J, X, FX, dr, jr)) {sort : Int} (hso : 0 ≤ sort ∧ sort ≤ 2) (hle : lend A n k = k + 4) (hfull : ¬ (J = 16 ∨ (sort = 2 ∧ X = 3))) (h1 : ∀ σ' μ', stJoin A n k sort (k, ln, D, J, X, FX, dr, jr) = .ok σ' → Fr Wrd μ μ' → DRF μ' σ' → μ' 2 2 = σ'.1 → μ' 2 3 = 0 → Q vU μ') (h2 : ∀ wr μ', stJoin A n k sort (k, ln, D, J, X, FX, dr, jr) = .error wr → Fr Wsc μ μ' → μ' 2 3 = wr → Q vU μ') : Rj YD y_Sr_readJoin 0 [vA 83, vI sort] [] μ Q := by
  have hn := hT.2.1
  have hX := hT.1.1
  obtain ⟨hd0, hd4, hd5, hd3, hdd, hdj⟩ := id hD
  dsimp only at hd0 hd4 hd5 hd3 hdd hdj
  obtain ⟨o0, o1, o2, o3, o4, o5, o6⟩ := id hO
  dsimp only at o0 o1 o2 o3 o4
  have hlb := lend_bd A (n := n) (k := k) h0.2
  refine Rj_aload_n (q := 1) d_Sr_readJoin_0 rfl rfl rfl ?_
  refine Rj_gr (q := 4) (zd := 2) gD_Sr_9_83 rfl rfl d_Sr_readJoin_1 rfl ?_
  refine Rj_dup (q := 5) d_Sr_readJoin_4 rfl (by intro h; cases h) ?_
  refine Rj_gi (q := 8) (ki := 2) (v := k) gD_Sr_52_2 rfl rfl hk d_Sr_readJoin_5 rfl ?_
  refine Rj_ldcS (q := 10) (tx := "mesh") (k := 0) (z := 0) (by decide) rfl d_Sr_readJoin_8 rfl ?_
  refine Rj_ck (k := 0) (q := 13) (z := y_Jstr_length) (as := []) (rest := [vI k, vA 2]) (la := [vK 0]) ml_Sr_100 mw_Jstr_length mv_Jstr_length rfl rfl (by decide) d_Sr_readJoin_10 rfl rfl rfl rfl rfl ?_
  refine s_J_length (k := 0) rfl (by decide) ?_
  refine Rj_iadd (q := 14) d_Sr_readJoin_13 rfl ?_
  rw [show k + (sLn 0) = lend A n k from (by rw [sLn_0, hle])]
  refine Rj_pi (q := 17) (ki := 2) pD_Sr_52_2 rfl rfl d_Sr_readJoin_14 rfl ?_
  refine Rj_aload_n (q := 18) d_Sr_readJoin_17 rfl rfl rfl ?_
  refine Rj_iconst (q := 19) d_Sr_readJoin_18 rfl ?_
  refine Rj_aload_n (q := 20) d_Sr_readJoin_19 rfl rfl rfl ?_
  refine Rj_gr (q := 23) (zd := 12) gD_Sr_15_83 rfl rfl d_Sr_readJoin_20 rfl ?_
  refine Rj_gi (q := 26) (ki := 0) (v := D) gD_Sr_37_12 rfl rfl hd0 d_Sr_readJoin_23 rfl ?_
  refine Rj_iconst (q := 27) d_Sr_readJoin_26 rfl ?_
  refine Rj_isub (q := 28) d_Sr_readJoin_27 rfl ?_
  refine Rj_iconst (q := 29) d_Sr_readJoin_28 rfl ?_
  refine Rj_vo (q := 32) (z := y_Sr_numberWithin) (as := [vI 0, vI (D - 1), vI (-1)]) (rest := []) (la := [vA 83, vI 0, vI (D - 1), vI (-1)]) oD_83_Sr_numberWithin ml_Sr_91 mw_Sr_numberWithin mv_Sr_numberWithin rfl d_Sr_readJoin_29 rfl rfl rfl rfl rfl ?_
  refine s_numW (μ := (mset μ 2 2 (lend A n k))) (A := A) (n := n) (k := lend A n k) (lo := 0) (hi := D - 1) (u := -1) (hT.keep rfl rfl) rfl (by omega) hf0 (by omega) (by omega) (by omega) (fun e29 v29 q29 u29 => ?_) (fun w29 v29 m29 q29 i29 f29 g29 => ?_)
  · have p29 := pNum_ok (k := lend A n k) (by omega) q29
    have r29 := sk_bd A (n := n) (k := lend A n k) (by omega)
    rw [mset_mset]
    refine Rj_istore_n (q := 33) (ls' := [vA 83, vI sort, vI v29]) d_Sr_readJoin_32 rfl rfl (by decide) rfl ?_
    refine Rj_aload_n (q := 34) d_Sr_readJoin_33 rfl rfl rfl ?_
    refine Rj_gr (q := 37) (zd := 2) gD_Sr_9_83 rfl rfl d_Sr_readJoin_34 rfl ?_
    refine Rj_vo (q := 40) (z := y_Sp_isSound) (as := []) (rest := []) (la := [vA 2]) oD_2_Sp_isSound ml_Sr_28 mw_Sp_isSound mv_Sp_isSound rfl d_Sr_readJoin_37 rfl rfl rfl rfl rfl ?_
    refine Rj_aload_n (q := 1) d_Sp_isSound_0 rfl rfl rfl ?_
    refine Rj_gi (q := 4) (ki := 3) (v := 0) gD_Sp_28_2 rfl rfl hf0 d_Sp_isSound_1 rfl ?_
    refine Rj_if_ne (q := 7) (t := 11) d_Sp_isSound_4 rfl (by decide) (by decide) (fun c => absurd c (by decide)) (fun _ => ?_)
    refine Rj_iconst (q := 8) d_Sp_isSound_7 rfl ?_
    refine Rj_goto (t := 12) d_Sp_isSound_8 (by decide) ?_
    refine Rj_bret1 d_Sp_isSound_12 rfl ?_
    refine Rj_if_eq (q := 43) (t := 61) d_Sr_readJoin_40 rfl (by decide) (by decide) (fun c => absurd c (by decide)) (fun _ => ?_)
    refine Rj_aload_n (q := 44) d_Sr_readJoin_43 rfl rfl rfl ?_
    refine Rj_iconst (q := 45) d_Sr_readJoin_44 rfl ?_
    refine Rj_aload_n (q := 46) d_Sr_readJoin_45 rfl rfl rfl ?_
    refine Rj_gr (q := 49) (zd := 12) gD_Sr_15_83 rfl rfl d_Sr_readJoin_46 rfl ?_
    refine Rj_gi (q := 52) (ki := 0) (v := D) gD_Sr_37_12 rfl rfl hd0 d_Sr_readJoin_49 rfl ?_
    refine Rj_iconst (q := 53) d_Sr_readJoin_52 rfl ?_
    refine Rj_isub (q := 54) d_Sr_readJoin_53 rfl ?_
    refine Rj_iload_n (q := 55) d_Sr_readJoin_54 rfl rfl rfl ?_
    refine Rj_vo (q := 58) (z := y_Sr_numberWithin) (as := [vI 0, vI (D - 1), vI v29]) (rest := []) (la := [vA 83, vI 0, vI (D - 1), vI v29]) oD_83_Sr_numberWithin ml_Sr_91 mw_Sr_numberWithin mv_Sr_numberWithin rfl d_Sr_readJoin_55 rfl rfl rfl rfl rfl ?_
    refine s_numW (μ := (mset μ 2 2 e29)) (A := A) (n := n) (k := e29) (lo := 0) (hi := D - 1) (u := v29) (hT.keep rfl rfl) rfl (by omega) hf0 (by omega) (by omega) (by omega) (fun e55 v55 q55 u55 => ?_) (fun w55 v55 m55 q55 i55 f55 g55 => ?_)
    · have p55 := pNum_ok (k := e29) (by omega) q55
      have r55 := sk_bd A (n := n) (k := e29) (by omega)
      rw [mset_mset]
      refine Rj_goto (t := 62) d_Sr_readJoin_58 (by decide) ?_
      refine Rj_istore_n (q := 63) (ls' := [vA 83, vI sort, vI v29, vI v55]) d_Sr_readJoin_62 rfl rfl (by decide) rfl ?_
      refine Rj_aload_n (q := 64) d_Sr_readJoin_63 rfl rfl rfl ?_
      refine Rj_gr (q := 67) (zd := 2) gD_Sr_9_83 rfl rfl d_Sr_readJoin_64 rfl ?_
      refine Rj_vo (q := 70) (z := y_Sp_isSound) (as := []) (rest := []) (la := [vA 2]) oD_2_Sp_isSound ml_Sr_28 mw_Sp_isSound mv_Sp_isSound rfl d_Sr_readJoin_67 rfl rfl rfl rfl rfl ?_
      refine Rj_aload_n (q := 1) d_Sp_isSound_0 rfl rfl rfl ?_
      refine Rj_gi (q := 4) (ki := 3) (v := 0) gD_Sp_28_2 rfl rfl hf0 d_Sp_isSound_1 rfl ?_
      refine Rj_if_ne (q := 7) (t := 11) d_Sp_isSound_4 rfl (by decide) (by decide) (fun c => absurd c (by decide)) (fun _ => ?_)
      refine Rj_iconst (q := 8) d_Sp_isSound_7 rfl ?_
      refine Rj_goto (t := 12) d_Sp_isSound_8 (by decide) ?_
      refine Rj_bret1 d_Sp_isSound_12 rfl ?_
      refine Rj_if_eq (q := 73) (t := 83) d_Sr_readJoin_70 rfl (by decide) (by decide) (fun c => absurd c (by decide)) (fun _ => ?_)
      refine Rj_aload_n (q := 74) d_Sr_readJoin_73 rfl rfl rfl ?_
      refine Rj_gr (q := 77) (zd := 12) gD_Sr_15_83 rfl rfl d_Sr_readJoin_74 rfl ?_
      refine Rj_iload_n (q := 78) d_Sr_readJoin_77 rfl rfl rfl ?_
      refine Rj_iload_n (q := 79) d_Sr_readJoin_78 rfl rfl rfl ?_
      refine Rj_iload_n (q := 80) d_Sr_readJoin_79 rfl rfl rfl ?_
      refine Rj_vov (q := 83) (z := y_Sc_addJoin) (as := [vI v29, vI v55, vI sort]) (rest := []) (la := [vA 12, vI v29, vI v55, vI sort]) oD_12_Sc_addJoin ml_Sr_104 mw_Sc_addJoin mv_Sc_addJoin rfl d_Sr_readJoin_80 rfl rfl rfl rfl rfl ?_
      refine Rj_aload_n (q := 1) d_Sc_addJoin_0 rfl rfl rfl ?_
      refine Rj_gi (q := 4) (ki := 4) (v := J) gD_Sc_44_12 rfl rfl hd4 d_Sc_addJoin_1 rfl ?_
      refine Rj_bipush (q := 6) d_Sc_addJoin_4 rfl (by decide +kernel) ?_
      refine Rj_icmp_ge (q := 9) (t := 68) d_Sc_addJoin_6 rfl (by decide) ⟨by omega, by omega⟩ (by decide) (fun c80_6 => ?_) (fun c80_6 => ?_)
      · exact absurd c80_6 (by omega)
      · refine Rj_aload_n (q := 10) d_Sc_addJoin_9 rfl rfl rfl ?_
        refine Rj_gr (q := 13) (zd := 15) gD_Sc_18_12 rfl rfl d_Sc_addJoin_10 rfl ?_
        refine Rj_aload_n (q := 14) d_Sc_addJoin_13 rfl rfl rfl ?_
        refine Rj_gi (q := 17) (ki := 4) (v := J) gD_Sc_44_12 rfl rfl hd4 d_Sc_addJoin_14 rfl ?_
        refine Rj_iload_n (q := 18) d_Sc_addJoin_17 rfl rfl rfl ?_
        refine Rj_is (q := 19) aD_15 rfl (by omega) d_Sc_addJoin_18 rfl ?_
        refine Rj_aload_n (q := 20) d_Sc_addJoin_19 rfl rfl rfl ?_
        refine Rj_gr (q := 23) (zd := 16) gD_Sc_21_12 rfl rfl d_Sc_addJoin_20 rfl ?_
        refine Rj_aload_n (q := 24) d_Sc_addJoin_23 rfl rfl rfl ?_
        refine Rj_gi (q := 27) (ki := 4) (v := J) gD_Sc_44_12 rfl rfl hd4 d_Sc_addJoin_24 rfl ?_
        refine Rj_iload_n (q := 28) d_Sc_addJoin_27 rfl rfl rfl ?_
        refine Rj_is (q := 29) aD_16 rfl (by omega) d_Sc_addJoin_28 rfl ?_
        refine Rj_aload_n (q := 30) d_Sc_addJoin_29 rfl rfl rfl ?_
        refine Rj_gr (q := 33) (zd := 17) gD_Sc_24_12 rfl rfl d_Sc_addJoin_30 rfl ?_
        refine Rj_aload_n (q := 34) d_Sc_addJoin_33 rfl rfl rfl ?_
        refine Rj_gi (q := 37) (ki := 4) (v := J) gD_Sc_44_12 rfl rfl hd4 d_Sc_addJoin_34 rfl ?_
        refine Rj_iload_n (q := 38) d_Sc_addJoin_37 rfl rfl rfl ?_
        refine Rj_is (q := 39) aD_17 rfl (by omega) d_Sc_addJoin_38 rfl ?_
        refine Rj_aload_n (q := 40) d_Sc_addJoin_39 rfl rfl rfl ?_
        refine Rj_dup (q := 41) d_Sc_addJoin_40 rfl (by intro h; cases h) ?_
        refine Rj_gi (q := 44) (ki := 4) (v := J) gD_Sc_44_12 rfl rfl hd4 d_Sc_addJoin_41 rfl ?_
        refine Rj_iconst (q := 45) d_Sc_addJoin_44 rfl ?_
        refine Rj_iadd (q := 46) d_Sc_addJoin_45 rfl ?_
        refine Rj_pi (q := 49) (ki := 4) pD_Sc_44_12 rfl rfl d_Sc_addJoin_46 rfl ?_
        refine Rj_aload_n (q := 50) d_Sc_addJoin_49 rfl rfl rfl ?_
        refine Rj_dup (q := 51) d_Sc_addJoin_50 rfl (by intro h; cases h) ?_
        refine Rj_gi (q := 54) (ki := 5) (v := X) gD_Sc_47_12 rfl rfl hd5 d_Sc_addJoin_51 rfl ?_
        refine Rj_iload_n (q := 55) d_Sc_addJoin_54 rfl rfl rfl ?_
        refine Rj_iconst (q := 56) d_Sc_addJoin_55 rfl ?_
        refine Rj_icmp_ne (q := 59) (t := 63) d_Sc_addJoin_56 rfl (by decide) ⟨by omega, by omega⟩ (by decide) (fun c80_56 => ?_) (fun c80_56 => ?_)
        · refine Rj_iconst (q := 64) d_Sc_addJoin_63 rfl ?_
          refine Rj_iadd (q := 65) d_Sc_addJoin_64 rfl ?_
          refine Rj_pi (q := 68) (ki := 5) pD_Sc_47_12 rfl rfl d_Sc_addJoin_65 rfl ?_
          refine Rj_vret d_Sc_addJoin_68 rfl ?_
          refine Rj_vret d_Sr_readJoin_83 rfl ?_
          refine h1 (e55, ln, D, J + 1, X + (if sort = 2 then 1 else 0), FX, dr, fset (fset (fset jr (3 * J) v29) (3 * J + 1) v55) (3 * J + 2) sort) _ ?_ (Fr.put (Fr.put (Fr.put (Fr.put (Fr.put (Fr.put (Fr.refl _ _) (by decide)) (by simp [Wrd])) (by simp [Wrd])) (by simp [Wrd])) (by decide)) (by decide)) ⟨hd0, rfl, ?_, hd3, hdd, fun j j0 j1 => ?_⟩ rfl hf0
          · unfold stJoin
            dsimp only
            rw [if_neg hfull, q29]
            dsimp only
            rw [q55]
            dsimp only
            rw [if_neg u55]
          · show X + 0 = X + (if sort = 2 then 1 else 0)
            rw [if_neg c80_56]
          · dsimp only at j1
            show mset μ 15 J v29 15 j = (fset (fset (fset jr (3 * J) v29) (3 * J + 1) v55) (3 * J + 2) sort) (3 * j) ∧ mset μ 16 J v55 16 j = (fset (fset (fset jr (3 * J) v29) (3 * J + 1) v55) (3 * J + 2) sort) (3 * j + 1) ∧ mset μ 17 J sort 17 j = (fset (fset (fset jr (3 * J) v29) (3 * J + 1) v55) (3 * J + 2) sort) (3 * j + 2)
            by_cases e : j = J
            · subst e
              rw [mset_same, mset_same, mset_same, fset_same, fset_ne _ (show (3 * j : Int) ≠ 3 * j + 2 by omega), fset_ne _ (show (3 * j : Int) ≠ 3 * j + 1 by omega), fset_same, fset_ne _ (show (3 * j + 1 : Int) ≠ 3 * j + 2 by omega), fset_same]
              exact ⟨rfl, rfl, rfl⟩
            · have := hdj j j0 (by omega)
              rw [mset_ne _ _ _ _ _ e, mset_ne _ _ _ _ _ e, mset_ne _ _ _ _ _ e]
              rw [fset_ne _ (show (3 * j : Int) ≠ 3 * J + 2 by omega), fset_ne _ (show (3 * j : Int) ≠ 3 * J + 1 by omega), fset_ne _ (show (3 * j : Int) ≠ 3 * J by omega)]
              rw [fset_ne _ (show (3 * j + 1 : Int) ≠ 3 * J + 2 by omega), fset_ne _ (show (3 * j + 1 : Int) ≠ 3 * J + 1 by omega), fset_ne _ (show (3 * j + 1 : Int) ≠ 3 * J by omega)]
              rw [fset_ne _ (show (3 * j + 2 : Int) ≠ 3 * J + 2 by omega), fset_ne _ (show (3 * j + 2 : Int) ≠ 3 * J + 1 by omega), fset_ne _ (show (3 * j + 2 : Int) ≠ 3 * J by omega)]
              exact this
        · refine Rj_iconst (q := 60) d_Sc_addJoin_59 rfl ?_
          refine Rj_goto (t := 64) d_Sc_addJoin_60 (by decide) ?_
          refine Rj_iadd (q := 65) d_Sc_addJoin_64 rfl ?_
          refine Rj_pi (q := 68) (ki := 5) pD_Sc_47_12 rfl rfl d_Sc_addJoin_65 rfl ?_
          refine Rj_vret d_Sc_addJoin_68 rfl ?_
          refine Rj_vret d_Sr_readJoin_83 rfl ?_
          refine h1 (e55, ln, D, J + 1, X + (if sort = 2 then 1 else 0), FX, dr, fset (fset (fset jr (3 * J) v29) (3 * J + 1) v55) (3 * J + 2) sort) _ ?_ (Fr.put (Fr.put (Fr.put (Fr.put (Fr.put (Fr.put (Fr.refl _ _) (by decide)) (by simp [Wrd])) (by simp [Wrd])) (by simp [Wrd])) (by decide)) (by decide)) ⟨hd0, rfl, ?_, hd3, hdd, fun j j0 j1 => ?_⟩ rfl hf0
          · unfold stJoin
            dsimp only
            rw [if_neg hfull, q29]
            dsimp only
            rw [q55]
            dsimp only
            rw [if_neg u55]
          · show X + 1 = X + (if sort = 2 then 1 else 0)
            rw [if_pos c80_56]
          · dsimp only at j1
            show mset μ 15 J v29 15 j = (fset (fset (fset jr (3 * J) v29) (3 * J + 1) v55) (3 * J + 2) sort) (3 * j) ∧ mset μ 16 J v55 16 j = (fset (fset (fset jr (3 * J) v29) (3 * J + 1) v55) (3 * J + 2) sort) (3 * j + 1) ∧ mset μ 17 J sort 17 j = (fset (fset (fset jr (3 * J) v29) (3 * J + 1) v55) (3 * J + 2) sort) (3 * j + 2)
            by_cases e : j = J
            · subst e
              rw [mset_same, mset_same, mset_same, fset_same, fset_ne _ (show (3 * j : Int) ≠ 3 * j + 2 by omega), fset_ne _ (show (3 * j : Int) ≠ 3 * j + 1 by omega), fset_same, fset_ne _ (show (3 * j + 1 : Int) ≠ 3 * j + 2 by omega), fset_same]
              exact ⟨rfl, rfl, rfl⟩
            · have := hdj j j0 (by omega)
              rw [mset_ne _ _ _ _ _ e, mset_ne _ _ _ _ _ e, mset_ne _ _ _ _ _ e]
              rw [fset_ne _ (show (3 * j : Int) ≠ 3 * J + 2 by omega), fset_ne _ (show (3 * j : Int) ≠ 3 * J + 1 by omega), fset_ne _ (show (3 * j : Int) ≠ 3 * J by omega)]
              rw [fset_ne _ (show (3 * j + 1 : Int) ≠ 3 * J + 2 by omega), fset_ne _ (show (3 * j + 1 : Int) ≠ 3 * J + 1 by omega), fset_ne _ (show (3 * j + 1 : Int) ≠ 3 * J by omega)]
              rw [fset_ne _ (show (3 * j + 2 : Int) ≠ 3 * J + 2 by omega), fset_ne _ (show (3 * j + 2 : Int) ≠ 3 * J + 1 by omega), fset_ne _ (show (3 * j + 2 : Int) ≠ 3 * J by omega)]
              exact this
    · have p55 := pNum_e1 (k := e29) (by omega) (by omega) q55
      refine Rj_goto (t := 62) d_Sr_readJoin_58 (by decide) ?_
      refine Rj_istore_n (q := 63) (ls' := [vA 83, vI sort, vI v29, vI v55]) d_Sr_readJoin_62 rfl rfl (by decide) rfl ?_
      refine Rj_aload_n (q := 64) d_Sr_readJoin_63 rfl rfl rfl ?_
      refine Rj_gr (q := 67) (zd := 2) gD_Sr_9_83 rfl rfl d_Sr_readJoin_64 rfl ?_
      refine Rj_vo (q := 70) (z := y_Sp_isSound) (as := []) (rest := []) (la := [vA 2]) oD_2_Sp_isSound ml_Sr_28 mw_Sp_isSound mv_Sp_isSound rfl d_Sr_readJoin_67 rfl rfl rfl rfl rfl ?_
      refine Rj_aload_n (q := 1) d_Sp_isSound_0 rfl rfl rfl ?_
      refine Rj_gi (q := 4) (ki := 3) (v := w55) gD_Sp_28_2 rfl rfl g55 d_Sp_isSound_1 rfl ?_
      refine Rj_if_ne (q := 7) (t := 11) d_Sp_isSound_4 rfl (by decide) ⟨by omega, by omega⟩ (fun c67_4 => ?_) (fun c67_4 => ?_)
      · refine Rj_iconst (q := 12) d_Sp_isSound_11 rfl ?_
        refine Rj_bret0 d_Sp_isSound_12 rfl ?_
        refine Rj_if_eq (q := 73) (t := 83) d_Sr_readJoin_70 rfl (by decide) (by decide) (fun _ => ?_) (fun c => absurd c (by decide))
        refine Rj_vret d_Sr_readJoin_83 rfl ?_
        refine h2 _ _ ?_ (Fr.trans (Fr.put (Fr.refl _ _) (by decide)) f55) g55
        unfold stJoin
        dsimp only
        rw [if_neg hfull]
        rw [q29]
        dsimp only
        rcases q55 with q55 | ⟨e, q55, q55b⟩
        · rw [q55]
        · rw [q55]; dsimp only; rw [if_pos rfl, q55b]
      · exact absurd c67_4 (by omega)
  · have p29 := pNum_e1 (k := lend A n k) (by omega) (by omega) q29
    refine Rj_istore_n (q := 33) (ls' := [vA 83, vI sort, vI v29]) d_Sr_readJoin_32 rfl rfl (by decide) rfl ?_
    refine Rj_aload_n (q := 34) d_Sr_readJoin_33 rfl rfl rfl ?_
    refine Rj_gr (q := 37) (zd := 2) gD_Sr_9_83 rfl rfl d_Sr_readJoin_34 rfl ?_
    refine Rj_vo (q := 40) (z := y_Sp_isSound) (as := []) (rest := []) (la := [vA 2]) oD_2_Sp_isSound ml_Sr_28 mw_Sp_isSound mv_Sp_isSound rfl d_Sr_readJoin_37 rfl rfl rfl rfl rfl ?_
    refine Rj_aload_n (q := 1) d_Sp_isSound_0 rfl rfl rfl ?_
    refine Rj_gi (q := 4) (ki := 3) (v := w29) gD_Sp_28_2 rfl rfl g29 d_Sp_isSound_1 rfl ?_
    refine Rj_if_ne (q := 7) (t := 11) d_Sp_isSound_4 rfl (by decide) ⟨by omega, by omega⟩ (fun c37_4 => ?_) (fun c37_4 => ?_)
    · refine Rj_iconst (q := 12) d_Sp_isSound_11 rfl ?_
      refine Rj_bret0 d_Sp_isSound_12 rfl ?_
      refine Rj_if_eq (q := 43) (t := 61) d_Sr_readJoin_40 rfl (by decide) (by decide) (fun _ => ?_) (fun c => absurd c (by decide))
      refine Rj_iconst (q := 62) d_Sr_readJoin_61 rfl ?_
      refine Rj_istore_n (q := 63) (ls' := [vA 83, vI sort, vI v29, vI (-1)]) d_Sr_readJoin_62 rfl rfl (by decide) rfl ?_
      refine Rj_aload_n (q := 64) d_Sr_readJoin_63 rfl rfl rfl ?_
      refine Rj_gr (q := 67) (zd := 2) gD_Sr_9_83 rfl rfl d_Sr_readJoin_64 rfl ?_
      refine Rj_vo (q := 70) (z := y_Sp_isSound) (as := []) (rest := []) (la := [vA 2]) oD_2_Sp_isSound ml_Sr_28 mw_Sp_isSound mv_Sp_isSound rfl d_Sr_readJoin_67 rfl rfl rfl rfl rfl ?_
      refine Rj_aload_n (q := 1) d_Sp_isSound_0 rfl rfl rfl ?_
      refine Rj_gi (q := 4) (ki := 3) (v := w29) gD_Sp_28_2 rfl rfl g29 d_Sp_isSound_1 rfl ?_
      refine Rj_if_ne (q := 7) (t := 11) d_Sp_isSound_4 rfl (by decide) ⟨by omega, by omega⟩ (fun c67_4 => ?_) (fun c67_4 => ?_)
      · refine Rj_iconst (q := 12) d_Sp_isSound_11 rfl ?_
        refine Rj_bret0 d_Sp_isSound_12 rfl ?_
        refine Rj_if_eq (q := 73) (t := 83) d_Sr_readJoin_70 rfl (by decide) (by decide) (fun _ => ?_) (fun c => absurd c (by decide))
        refine Rj_vret d_Sr_readJoin_83 rfl ?_
        refine h2 _ _ ?_ (Fr.trans (Fr.put (Fr.refl _ _) (by decide)) f29) g29
        unfold stJoin
        dsimp only
        rw [if_neg hfull]
        rcases q29 with q29 | ⟨e, q29, -⟩
        · rw [q29]
        · have := pNum_ok (k := lend A n k) (by omega) q29; omega
      · exact absurd c67_4 (by omega)
    · exact absurd c37_4 (by omega)
def clH (A : Int → Int) (n k : Int) : Int := if wat A n k 1835365224 = true then 0 else if wat A n k 1650814068 = true then 1 else if wat A n k 1635282021 = true then 2 else if wat A n k 1685024626 = true then 3 else if wat A n k 439856162148 = true then 4 else -1
set_option maxHeartbeats 4000000 in
theorem s_clauseAtHand {μ : Mem} {Q : PV → Mem → Prop} {A : Int → Int} {n k : Int} (hT : TD μ A n) (hk : μ 2 2 = k) (h0 : 0 ≤ k ∧ k ≤ n) (hQ : Q (vI (clH A n (sk A n k))) (mset μ 2 2 (sk A n k))) : Rj YD y_Sr_clauseAtHand 0 [vA 83] [] μ Q := by
  have hn := hT.2.1
  have hX := hT.1.1
  refine Rj_aload_n (q := 1) d_Sr_clauseAtHand_0 rfl rfl rfl ?_
  refine Rj_gr (q := 4) (zd := 2) gD_Sr_9_83 rfl rfl d_Sr_clauseAtHand_1 rfl ?_
  refine Rj_ldcS (q := 6) (tx := "mesh") (k := 0) (z := 0) (by decide) rfl d_Sr_clauseAtHand_4 rfl ?_
  refine Rj_vo (q := 9) (z := y_Sp_isAtWord) (as := [vK 0]) (rest := []) (la := [vA 2, vK 0]) oD_2_Sp_isAtWord ml_Sr_70 mw_Sp_isAtWord mv_Sp_isAtWord rfl d_Sr_clauseAtHand_6 rfl rfl rfl rfl rfl ?_
  refine s_isAtWord (μ := μ) (A := A) (n := n) (k := k) (w := 0) (hT.keep rfl rfl) hk (by omega) rfl (by decide) ?_
  have r6 := sk_bd A (n := n) (k := k) (by omega)
  rw [wN_0]
  refine Rj_b_eq (q := 12) (t := 14) d_Sr_clauseAtHand_9 rfl (by decide) (fun c9 => ?_) (fun c9 => ?_)
  · refine Rj_aload_n (q := 15) d_Sr_clauseAtHand_14 rfl rfl rfl ?_
    refine Rj_gr (q := 18) (zd := 2) gD_Sr_9_83 rfl rfl d_Sr_clauseAtHand_15 rfl ?_
    refine Rj_ldcS (q := 20) (tx := "belt") (k := 1) (z := 1) (by decide) rfl d_Sr_clauseAtHand_18 rfl ?_
    refine Rj_vo (q := 23) (z := y_Sp_isAtWord) (as := [vK 1]) (rest := []) (la := [vA 2, vK 1]) oD_2_Sp_isAtWord ml_Sr_70 mw_Sp_isAtWord mv_Sp_isAtWord rfl d_Sr_clauseAtHand_20 rfl rfl rfl rfl rfl ?_
    refine s_isAtWord (μ := (mset μ 2 2 (sk A n k))) (A := A) (n := n) (k := sk A n k) (w := 1) (hT.keep rfl rfl) rfl (by omega) rfl (by decide) ?_
    rw [sk_idem]
    refine Rj_eqm (μ' := (mset μ 2 2 (sk A n k))) (mset_idv rfl) ?_
    rw [wN_1]
    refine Rj_b_eq (q := 26) (t := 28) d_Sr_clauseAtHand_23 rfl (by decide) (fun c23 => ?_) (fun c23 => ?_)
    · refine Rj_aload_n (q := 29) d_Sr_clauseAtHand_28 rfl rfl rfl ?_
      refine Rj_gr (q := 32) (zd := 2) gD_Sr_9_83 rfl rfl d_Sr_clauseAtHand_29 rfl ?_
      refine Rj_ldcS (q := 34) (tx := "axle") (k := 2) (z := 2) (by decide) rfl d_Sr_clauseAtHand_32 rfl ?_
      refine Rj_vo (q := 37) (z := y_Sp_isAtWord) (as := [vK 2]) (rest := []) (la := [vA 2, vK 2]) oD_2_Sp_isAtWord ml_Sr_70 mw_Sp_isAtWord mv_Sp_isAtWord rfl d_Sr_clauseAtHand_34 rfl rfl rfl rfl rfl ?_
      refine s_isAtWord (μ := (mset μ 2 2 (sk A n k))) (A := A) (n := n) (k := sk A n k) (w := 2) (hT.keep rfl rfl) rfl (by omega) rfl (by decide) ?_
      rw [sk_idem]
      refine Rj_eqm (μ' := (mset μ 2 2 (sk A n k))) (mset_idv rfl) ?_
      rw [wN_2]
      refine Rj_b_eq (q := 40) (t := 42) d_Sr_clauseAtHand_37 rfl (by decide) (fun c37 => ?_) (fun c37 => ?_)
      · refine Rj_aload_n (q := 43) d_Sr_clauseAtHand_42 rfl rfl rfl ?_
        refine Rj_gr (q := 46) (zd := 2) gD_Sr_9_83 rfl rfl d_Sr_clauseAtHand_43 rfl ?_
        refine Rj_ldcS (q := 48) (tx := "door") (k := 3) (z := 3) (by decide) rfl d_Sr_clauseAtHand_46 rfl ?_
        refine Rj_vo (q := 51) (z := y_Sp_isAtWord) (as := [vK 3]) (rest := []) (la := [vA 2, vK 3]) oD_2_Sp_isAtWord ml_Sr_70 mw_Sp_isAtWord mv_Sp_isAtWord rfl d_Sr_clauseAtHand_48 rfl rfl rfl rfl rfl ?_
        refine s_isAtWord (μ := (mset μ 2 2 (sk A n k))) (A := A) (n := n) (k := sk A n k) (w := 3) (hT.keep rfl rfl) rfl (by omega) rfl (by decide) ?_
        rw [sk_idem]
        refine Rj_eqm (μ' := (mset μ 2 2 (sk A n k))) (mset_idv rfl) ?_
        rw [wN_3]
        refine Rj_b_eq (q := 54) (t := 56) d_Sr_clauseAtHand_51 rfl (by decide) (fun c51 => ?_) (fun c51 => ?_)
        · refine Rj_aload_n (q := 57) d_Sr_clauseAtHand_56 rfl rfl rfl ?_
          refine Rj_gr (q := 60) (zd := 2) gD_Sr_9_83 rfl rfl d_Sr_clauseAtHand_57 rfl ?_
          refine Rj_ldcS (q := 62) (tx := "fixed") (k := 4) (z := 4) (by decide) rfl d_Sr_clauseAtHand_60 rfl ?_
          refine Rj_vo (q := 65) (z := y_Sp_isAtWord) (as := [vK 4]) (rest := []) (la := [vA 2, vK 4]) oD_2_Sp_isAtWord ml_Sr_70 mw_Sp_isAtWord mv_Sp_isAtWord rfl d_Sr_clauseAtHand_62 rfl rfl rfl rfl rfl ?_
          refine s_isAtWord (μ := (mset μ 2 2 (sk A n k))) (A := A) (n := n) (k := sk A n k) (w := 4) (hT.keep rfl rfl) rfl (by omega) rfl (by decide) ?_
          rw [sk_idem]
          refine Rj_eqm (μ' := (mset μ 2 2 (sk A n k))) (mset_idv rfl) ?_
          rw [wN_4]
          refine Rj_b_eq (q := 68) (t := 72) d_Sr_clauseAtHand_65 rfl (by decide) (fun c65 => ?_) (fun c65 => ?_)
          · refine Rj_iconst (q := 73) d_Sr_clauseAtHand_72 rfl ?_
            refine Rj_iret d_Sr_clauseAtHand_73 rfl ?_
            exact fin_I hQ (by unfold clH; simp [*])
          · refine Rj_iconst (q := 69) d_Sr_clauseAtHand_68 rfl ?_
            refine Rj_goto (t := 73) d_Sr_clauseAtHand_69 (by decide) ?_
            refine Rj_iret d_Sr_clauseAtHand_73 rfl ?_
            exact fin_I hQ (by unfold clH; simp [*])
        · refine Rj_iconst (q := 55) d_Sr_clauseAtHand_54 rfl ?_
          refine Rj_iret d_Sr_clauseAtHand_55 rfl ?_
          exact fin_I hQ (by unfold clH; simp [*])
      · refine Rj_iconst (q := 41) d_Sr_clauseAtHand_40 rfl ?_
        refine Rj_iret d_Sr_clauseAtHand_41 rfl ?_
        exact fin_I hQ (by unfold clH; simp [*])
    · refine Rj_iconst (q := 27) d_Sr_clauseAtHand_26 rfl ?_
      refine Rj_iret d_Sr_clauseAtHand_27 rfl ?_
      exact fin_I hQ (by unfold clH; simp [*])
  · refine Rj_iconst (q := 13) d_Sr_clauseAtHand_12 rfl ?_
    refine Rj_iret d_Sr_clauseAtHand_13 rfl ?_
    exact fin_I hQ (by unfold clH; simp [*])
