theorem gD_Rr_15_84 : GI YD "DoorsOnCogs$RuleReader" 15 84 0 (some (some 2)) := ⟨by decide, _, _, _, fl_Rr_15, cD_84, by decide, rfl⟩
theorem gD_Rr_33_84 : GI YD "DoorsOnCogs$RuleReader" 33 84 6 none := ⟨by decide, _, _, _, fl_Rr_33, cD_84, by decide, rfl⟩
theorem pD_Rr_33_84 : PI YD "DoorsOnCogs$RuleReader" 33 84 6 none .int := ⟨by decide, _, _, _, fl_Rr_33, fp_5_6, cD_84, by decide, rfl⟩
theorem pD_Rr_39_84 : PI YD "DoorsOnCogs$RuleReader" 39 84 8 none .int := ⟨by decide, _, _, _, fl_Rr_39, fp_5_8, cD_84, by decide, rfl⟩
theorem gD_Rr_69_2 : GI YD "DoorsOnCogs$RuleReader" 69 2 2 none := ⟨by decide, _, _, _, fl_Rr_69, cD_2, by decide, rfl⟩
theorem gD_Rr_30_84 : GI YD "DoorsOnCogs$RuleReader" 30 84 5 none := ⟨by decide, _, _, _, fl_Rr_30, cD_84, by decide, rfl⟩
theorem pD_Rr_30_84 : PI YD "DoorsOnCogs$RuleReader" 30 84 5 none .int := ⟨by decide, _, _, _, fl_Rr_30, fp_5_5, cD_84, by decide, rfl⟩
theorem oD_84_Rr_hold : OI YD 84 y_Rr_hold := ⟨by decide, _, _, _, cD_84, rfl⟩
/-! the class reads a rule: a clause begins, openers, values -/
theorem sgn_eq {A : Int → Int} {n q x : Int} (hx : 0 ≤ x) : sgn A n q = x ↔ q < n ∧ A q = x := by
  unfold sgn
  by_cases e : q < n
  · rw [if_pos e]; exact ⟨fun h => ⟨e, h⟩, fun h => h.2⟩
  · rw [if_neg e]; exact ⟨fun h => by omega, fun h => absurd h.1 e⟩
theorem ns_sgn {μ : Mem} {A : Int → Int} {n q x : Int} (hT : TD μ A n) (h0 : 0 ≤ q) (hx : 0 ≤ x ∧ x ≤ 127) : nsV μ n q = x ↔ sgn A n q = x := (nsV_eq hT h0 hx).trans (sgn_eq hx.1).symm
theorem rec_ns {μ : Mem} {A : Int → Int} {n q : Int} (hT : TD μ A n) (h0 : 0 ≤ q) : recOp (nsV μ n q) = recOp (sgn A n q) := by
  unfold recOp
  simp only [ns_sgn hT h0 (x := 43) (by decide), ns_sgn hT h0 (x := 45) (by decide), ns_sgn hT h0 (x := 42) (by decide), ns_sgn hT h0 (x := 47) (by decide)]
theorem cmp_ns {μ : Mem} {A : Int → Int} {n q : Int} {b : Bool} (hT : TD μ A n) (h0 : 0 ≤ q) : cmpOp (nsV μ n q) b = cmpOp (sgn A n q) b := by
  unfold cmpOp
  simp only [ns_sgn hT h0 (x := 60) (by decide), ns_sgn hT h0 (x := 62) (by decide), ns_sgn hT h0 (x := 61) (by decide)]
section RCS
variable {μ μ' : Mem} {A : Int → Int} {n r k k' cl cl' vl vl' nx nx' op : Int} {w : List Int} {D : List CLS} {c : CLS}
theorem RC.upd (h : RC μ A n r k w cl vl nx D c) (f : Fr (fun c i => (c = 2 ∧ i = 2) ∨ (c = 84 ∧ 3 ≤ i)) μ μ') (a2 : μ' 2 2 = k') (a3 : μ' 84 3 = (w.length : Int)) (a4 : μ' 84 4 = dpn w) (a5 : μ' 84 5 = brn w) (a6 : μ' 84 6 = cl') (a7 : μ' 84 7 = vl') (a8 : μ' 84 8 = nx') : RC μ' A n r k' w cl' vl' nx' D c := by
  obtain ⟨hT, hk, hf0, h3, h4, h5, h6, h7, h8, hW, hr, hL, hl⟩ := h
  exact ⟨hT.keep (f 2 1 (by omega)) (f.row (fun i q => by omega)), a2, (f 2 3 (by omega)).trans hf0, a3, a4, a5, a6, a7, a8, WST_keep hW (fun i i0 i1 => f 85 i (by omega)), ⟨(f 79 1 (by omega)).trans hr.1, hr.2⟩, LST_keep hL (fun i i0 i1 => f 80 i (by omega)), (f 81 r (by omega)).trans hl⟩
theorem RC.push (h : RC μ A n r k w cl vl nx D c) (f : Fr (fun c i => (c = 2 ∧ i = 2) ∨ (c = 84 ∧ 3 ≤ i) ∨ (c = 85 ∧ i = (w.length : Int))) μ μ') (a2 : μ' 2 2 = k') (a3 : μ' 84 3 = (w.length : Int) + 1) (a4 : μ' 84 4 = dpn w + (if op = 19 ∨ op = 22 then 1 else 0)) (a5 : μ' 84 5 = brn w + (if op = 22 then 1 else 0)) (a6 : μ' 84 6 = cl) (a7 : μ' 84 7 = vl) (a8 : μ' 84 8 = nx') (a9 : μ' 85 (w.length : Int) = op) : RC μ' A n r k' (op :: w) cl vl nx' D c := by
  obtain ⟨hT, hk, hf0, h3, h4, h5, h6, h7, h8, hW, hr, hL, hl⟩ := h
  exact ⟨hT.keep (f 2 1 (by omega)) (f.row (fun i q => by omega)), a2, (f 2 3 (by omega)).trans hf0, by rw [a3]; simp, a4, a5, a6, a7, a8, ⟨a9, WST_keep hW (fun i i0 i1 => f 85 i (by omega))⟩, ⟨(f 79 1 (by omega)).trans hr.1, hr.2⟩, LST_keep hL (fun i i0 i1 => f 80 i (by omega)), (f 81 r (by omega)).trans hl⟩
theorem RUN_sk {x : Except Int (List CLS)} (g : RUN A n (sk A n k) w cl vl nx D c x) : RUN A n k w cl vl nx D c x := by
  obtain ⟨f, g⟩ := g
  refine ⟨f, ?_⟩
  cases f with
  | zero => exact absurd g (by intro h; cases h)
  | succ f =>
    unfold rnr stO stV stB at g ⊢
    simp only [sk_idem] at g
    exact g
end RCS
/-- a rule is read to its end -/
def FIN (μ : Mem) (r : Int) (D : List CLS) : Prop := μ 2 3 = 0 ∧ μ 84 8 = 8 ∧ LST (μ 80) (401 * r) (flC D) ∧ μ 81 r = ((flC D).length : Int) ∧ ((flC D).length : Int) ≤ 400 ∧ (1 ≤ (D.length : Int) ∧ (D.length : Int) ≤ 12)
set_option maxHeartbeats 4000000 in
theorem s_startClause {μ : Mem} {Q : PV → Mem → Prop} {A : Int → Int} {n r k cl vl : Int} {D : List CLS} (hC : RC μ A n r k [] cl vl 8 D ([], none)) (h0 : 0 ≤ k ∧ k ≤ n ∧ n ≤ 400) (hcl : (D.length : Int) = cl ∧ cl ≤ 12) (hvl : 0 ≤ vl ∧ vl ≤ 60) (hlen : nC D ([], none) ≤ k) (hE : ∀ e μ', RUNN A n k cl vl D (.error e) → Fr (Wru r) μ μ' → μ' 2 3 = e → (1 ≤ e ∧ e ≤ 5000) → Q vU μ') (hG : ∀ μ' k', (∀ x, RUN A n k' [] (cl + 1) vl 0 D ([], none) x → RUNN A n k cl vl D x) → Fr (Wru r) μ μ' → RC μ' A n r k' [] (cl + 1) vl 0 D ([], none) → IV n k' [] (cl + 1) vl 0 D ([], none) → k < k' → Q vU μ') : Rj YD y_Rr_startClause 0 [vA 84] [] μ Q := by
  obtain ⟨hT, hk, hf0, h3, h4, h5, h6, h7, h8, hW, hr, hL, hl⟩ := id hC
  have hn := hT.2.1
  have hX := hT.1.1
  have nn := nC_nn D ([], none)
  refine Rj_aload_n (q := 1) d_Rr_startClause_0 rfl rfl rfl ?_
  refine Rj_gr (q := 4) (zd := 2) gD_Rr_15_84 rfl rfl d_Rr_startClause_1 rfl ?_
  refine Rj_ldcS (q := 6) (tx := "push") (k := 5) (z := 5) (by decide) rfl d_Rr_startClause_4 rfl ?_
  refine Rj_vo (q := 9) (z := y_Sp_isAtWord) (as := [vK 5]) (rest := []) (la := [vA 2, vK 5]) oD_2_Sp_isAtWord ml_Rr_65 mw_Sp_isAtWord mv_Sp_isAtWord rfl d_Rr_startClause_6 rfl rfl rfl rfl rfl ?_
  refine s_isAtWord (μ := μ) (A := A) (n := n) (k := k) (w := 5) (hT.keep rfl rfl) hk (by omega) rfl (by decide) ?_
  rw [wN_5]
  have r6 := sk_bd A (n := n) (k := k) (by omega)
  by_cases w6 : wat A n (sk A n k) 1886745448 = true
  · rw [bI_t w6]
    refine Rj_if_ne (q := 12) (t := 30) d_Rr_startClause_9 rfl (by decide) (by decide) (fun _ => ?_) (fun c => absurd c (by decide))
    refine Rj_aload_n (q := 31) d_Rr_startClause_30 rfl rfl rfl ?_
    refine Rj_gi (q := 34) (ki := 6) (v := cl) gD_Rr_33_84 rfl rfl h6 d_Rr_startClause_31 rfl ?_
    refine Rj_bipush (q := 36) d_Rr_startClause_34 rfl (by decide +kernel) ?_
    refine Rj_icmp_lt (q := 39) (t := 57) d_Rr_startClause_36 rfl (by decide) ⟨by omega, by omega⟩ (by decide) (fun c36 => ?_) (fun c36 => ?_)
    · refine Rj_aload_n (q := 58) d_Rr_startClause_57 rfl rfl rfl ?_
      refine Rj_gr (q := 61) (zd := 2) gD_Rr_15_84 rfl rfl d_Rr_startClause_58 rfl ?_
      refine Rj_ldcS (q := 63) (tx := "push") (k := 5) (z := 5) (by decide) rfl d_Rr_startClause_61 rfl ?_
      refine Rj_vo (q := 66) (z := y_Sp_takeWord) (as := [vK 5]) (rest := []) (la := [vA 2, vK 5]) oD_2_Sp_takeWord ml_Rr_76 mw_Sp_takeWord mv_Sp_takeWord rfl d_Rr_startClause_63 rfl rfl rfl rfl rfl ?_
      refine s_takeWord (μ := (mset μ 2 2 (sk A n k))) (A := A) (n := n) (k := sk A n k) (w := 5) (hT.keep rfl rfl) rfl (by omega) rfl (by decide) ?_
      rw [wN_5]
      rw [sk_idem]
      have t63 := lend_bd A (n := n) (k := sk A n k) (by omega)
      by_cases w63 : wat A n (sk A n k) 1886745448 = true
      · rw [if_pos w63, bI_t w63]
        rw [mset_mset]
        refine Rj_pop (q := 67) d_Rr_startClause_66 rfl (by intro h; cases h) ?_
        refine Rj_aload_n (q := 68) d_Rr_startClause_67 rfl rfl rfl ?_
        refine Rj_dup (q := 69) d_Rr_startClause_68 rfl (by intro h; cases h) ?_
        refine Rj_gi (q := 72) (ki := 6) (v := cl) gD_Rr_33_84 rfl rfl h6 d_Rr_startClause_69 rfl ?_
        refine Rj_iconst (q := 73) d_Rr_startClause_72 rfl ?_
        refine Rj_iadd (q := 74) d_Rr_startClause_73 rfl ?_
        refine Rj_pi (q := 77) (ki := 6) pD_Rr_33_84 rfl rfl d_Rr_startClause_74 rfl ?_
        refine Rj_aload_n (q := 78) d_Rr_startClause_77 rfl rfl rfl ?_
        refine Rj_iconst (q := 79) d_Rr_startClause_78 rfl ?_
        refine Rj_pi (q := 82) (ki := 8) pD_Rr_39_84 rfl rfl d_Rr_startClause_79 rfl ?_
        refine Rj_vret d_Rr_startClause_82 rfl ?_
        have el := WAT_end (w := 5) (by decide) ((WAT_iff (by decide)).mp (by rw [wN_5]; exact w6))
        rw [sLn_5] at el
        exact hG _ _ (fun x g => RUNN_go rfl w6 (by omega) g) (Fr.put (Fr.put (Fr.put (Fr.refl _ _) (by unfold Wru; omega)) (by unfold Wru; omega)) (by unfold Wru; omega)) (hC.upd (Fr.put (Fr.put (Fr.put (Fr.refl _ _) (by omega)) (by omega)) (by omega)) rfl (h3.trans rfl) (h4.trans rfl) (h5.trans rfl) rfl h7 rfl) ⟨by omega, ⟨by omega, by omega⟩, hvl, by simp; omega, (fun op q => absurd q (by simp)), by decide, ⟨fun _ => by decide, fun _ => rfl⟩, fun _ => rfl⟩ (by omega)
      · rw [if_neg w63, bI_f (bool_f w63)]
        refine Rj_eqm (μ' := (mset μ 2 2 (sk A n k))) (mset_idv rfl) ?_
        refine Rj_pop (q := 67) d_Rr_startClause_66 rfl (by intro h; cases h) ?_
        refine Rj_aload_n (q := 68) d_Rr_startClause_67 rfl rfl rfl ?_
        refine Rj_dup (q := 69) d_Rr_startClause_68 rfl (by intro h; cases h) ?_
        refine Rj_gi (q := 72) (ki := 6) (v := cl) gD_Rr_33_84 rfl rfl h6 d_Rr_startClause_69 rfl ?_
        refine Rj_iconst (q := 73) d_Rr_startClause_72 rfl ?_
        refine Rj_iadd (q := 74) d_Rr_startClause_73 rfl ?_
        refine Rj_pi (q := 77) (ki := 6) pD_Rr_33_84 rfl rfl d_Rr_startClause_74 rfl ?_
        refine Rj_aload_n (q := 78) d_Rr_startClause_77 rfl rfl rfl ?_
        refine Rj_iconst (q := 79) d_Rr_startClause_78 rfl ?_
        refine Rj_pi (q := 82) (ki := 8) pD_Rr_39_84 rfl rfl d_Rr_startClause_79 rfl ?_
        refine Rj_vret d_Rr_startClause_82 rfl ?_
        exact absurd w6 w63
    · refine Rj_aload_n (q := 40) d_Rr_startClause_39 rfl rfl rfl ?_
      refine Rj_gr (q := 43) (zd := 2) gD_Rr_15_84 rfl rfl d_Rr_startClause_40 rfl ?_
      refine Rj_aload_n (q := 44) d_Rr_startClause_43 rfl rfl rfl ?_
      refine Rj_gr (q := 47) (zd := 2) gD_Rr_15_84 rfl rfl d_Rr_startClause_44 rfl ?_
      refine Rj_gi (q := 50) (ki := 2) (v := sk A n k) gD_Rr_69_2 rfl rfl rfl d_Rr_startClause_47 rfl ?_
      refine Rj_iconst (q := 51) d_Rr_startClause_50 rfl ?_
      refine Rj_vov (q := 54) (z := y_Sp_fail) (as := [vI (sk A n k), vI 4]) (rest := []) (la := [vA 2, vI (sk A n k), vI 4]) oD_2_Sp_fail ml_Rr_72 mw_Sp_fail mv_Sp_fail rfl d_Rr_startClause_51 rfl rfl rfl rfl rfl ?_
      refine Rj_aload_n (q := 1) d_Sp_fail_0 rfl rfl rfl ?_
      refine Rj_gi (q := 4) (ki := 3) (v := 0) gD_Sp_28_2 rfl rfl hf0 d_Sp_fail_1 rfl ?_
      refine Rj_if_ne (q := 7) (t := 19) d_Sp_fail_4 rfl (by decide) (by decide) (fun c => absurd c (by decide)) (fun _ => ?_)
      refine Rj_aload_n (q := 8) d_Sp_fail_7 rfl rfl rfl ?_
      refine Rj_iconst (q := 9) d_Sp_fail_8 rfl ?_
      refine Rj_bipush (q := 11) d_Sp_fail_9 rfl (by decide +kernel) ?_
      refine Rj_iload_n (q := 12) d_Sp_fail_11 rfl rfl rfl ?_
      refine Rj_imul (q := 13) d_Sp_fail_12 rfl ?_
      refine Rj_iadd (q := 14) d_Sp_fail_13 rfl ?_
      refine Rj_iload_n (q := 15) d_Sp_fail_14 rfl rfl rfl ?_
      refine Rj_iadd (q := 16) d_Sp_fail_15 rfl ?_
      refine Rj_pi (q := 19) (ki := 3) pD_Sp_28_2 rfl rfl d_Sp_fail_16 rfl ?_
      refine Rj_vret d_Sp_fail_19 rfl ?_
      refine Rj_goto (t := 82) d_Rr_startClause_54 (by decide) ?_
      refine Rj_vret d_Rr_startClause_82 rfl ?_
      exact hE ((1 + (8 * (sk A n k))) + 4) _ (RUNN_many rfl w6 (by omega)) (Fr.put (Fr.put (Fr.refl _ _) (by unfold Wru; omega)) (by unfold Wru; omega)) rfl (by omega)
  · rw [bI_f (bool_f w6)]
    refine Rj_if_ne (q := 12) (t := 30) d_Rr_startClause_9 rfl (by decide) (by decide) (fun c => absurd c (by decide)) (fun _ => ?_)
    refine Rj_aload_n (q := 13) d_Rr_startClause_12 rfl rfl rfl ?_
    refine Rj_gr (q := 16) (zd := 2) gD_Rr_15_84 rfl rfl d_Rr_startClause_13 rfl ?_
    refine Rj_aload_n (q := 17) d_Rr_startClause_16 rfl rfl rfl ?_
    refine Rj_gr (q := 20) (zd := 2) gD_Rr_15_84 rfl rfl d_Rr_startClause_17 rfl ?_
    refine Rj_gi (q := 23) (ki := 2) (v := sk A n k) gD_Rr_69_2 rfl rfl rfl d_Rr_startClause_20 rfl ?_
    refine Rj_iconst (q := 24) d_Rr_startClause_23 rfl ?_
    refine Rj_vov (q := 27) (z := y_Sp_fail) (as := [vI (sk A n k), vI 0]) (rest := []) (la := [vA 2, vI (sk A n k), vI 0]) oD_2_Sp_fail ml_Rr_72 mw_Sp_fail mv_Sp_fail rfl d_Rr_startClause_24 rfl rfl rfl rfl rfl ?_
    refine Rj_aload_n (q := 1) d_Sp_fail_0 rfl rfl rfl ?_
    refine Rj_gi (q := 4) (ki := 3) (v := 0) gD_Sp_28_2 rfl rfl hf0 d_Sp_fail_1 rfl ?_
    refine Rj_if_ne (q := 7) (t := 19) d_Sp_fail_4 rfl (by decide) (by decide) (fun c => absurd c (by decide)) (fun _ => ?_)
    refine Rj_aload_n (q := 8) d_Sp_fail_7 rfl rfl rfl ?_
    refine Rj_iconst (q := 9) d_Sp_fail_8 rfl ?_
    refine Rj_bipush (q := 11) d_Sp_fail_9 rfl (by decide +kernel) ?_
    refine Rj_iload_n (q := 12) d_Sp_fail_11 rfl rfl rfl ?_
    refine Rj_imul (q := 13) d_Sp_fail_12 rfl ?_
    refine Rj_iadd (q := 14) d_Sp_fail_13 rfl ?_
    refine Rj_iload_n (q := 15) d_Sp_fail_14 rfl rfl rfl ?_
    refine Rj_iadd (q := 16) d_Sp_fail_15 rfl ?_
    refine Rj_pi (q := 19) (ki := 3) pD_Sp_28_2 rfl rfl d_Sp_fail_16 rfl ?_
    refine Rj_vret d_Sp_fail_19 rfl ?_
    refine Rj_goto (t := 82) d_Rr_startClause_27 (by decide) ?_
    refine Rj_vret d_Rr_startClause_82 rfl ?_
    exact hE ((1 + (8 * (sk A n k))) + 0) _ (RUNN_bad rfl w6) (Fr.put (Fr.put (Fr.refl _ _) (by unfold Wru; omega)) (by unfold Wru; omega)) rfl (by omega)
set_option maxHeartbeats 4000000 in
theorem s_readOpener {μ : Mem} {Q : PV → Mem → Prop} {A : Int → Int} {n r k cl vl : Int} {w : List Int} {D : List CLS} {c : CLS} (hC : RC μ A n r k w cl vl 6 D c) (hI : IV n k w cl vl 6 D c) (hs : sk A n k = k) (ho : isOpn A n k) (hE : ∀ e μ', RUN A n k w cl vl 6 D c (.error e) → Fr (Wru r) μ μ' → μ' 2 3 = e → (1 ≤ e ∧ e ≤ 5000) → Q vU μ') (hG : ∀ μ' k' w' cl' vl' nx' D' c', (∀ x, RUN A n k' w' cl' vl' nx' D' c' x → RUN A n k w cl vl 6 D c x) → Fr (Wru r) μ μ' → RC μ' A n r k' w' cl' vl' nx' D' c' → IV n k' w' cl' vl' nx' D' c' → k < k' → Q vU μ') : Rj YD y_Rr_readOpener 0 [vA 84] [] μ Q := by
  obtain ⟨hT, hk, hf0, h3, h4, h5, h6, h7, h8, hW, hr, hL, hl⟩ := id hC
  obtain ⟨i1, i2, i3, i4, i5, i6, i7, i8⟩ := id hI
  have hn := hT.2.1
  have hX := hT.1.1
  have dw := dpn_bd w
  have bw := brn_bd w
  have nn := nC_nn D c
  refine Rj_aload_n (q := 1) d_Rr_readOpener_0 rfl rfl rfl ?_
  refine Rj_gi (q := 4) (ki := 4) (v := dpn w) gD_Rr_27_84 rfl rfl h4 d_Rr_readOpener_1 rfl ?_
  refine Rj_bipush (q := 6) d_Rr_readOpener_4 rfl (by decide +kernel) ?_
  refine Rj_icmp_lt (q := 9) (t := 27) d_Rr_readOpener_6 rfl (by decide) ⟨by omega, by omega⟩ (by decide) (fun c6 => ?_) (fun c6 => ?_)
  · refine Rj_aload_n (q := 28) d_Rr_readOpener_27 rfl rfl rfl ?_
    refine Rj_gr (q := 31) (zd := 2) gD_Rr_15_84 rfl rfl d_Rr_readOpener_28 rfl ?_
    refine Rj_bipush (q := 33) d_Rr_readOpener_31 rfl (by decide +kernel) ?_
    refine Rj_vo (q := 36) (z := y_Sp_takeSign) (as := [vI 91]) (rest := []) (la := [vA 2, vI 91]) oD_2_Sp_takeSign ml_Rr_85 mw_Sp_takeSign mv_Sp_takeSign rfl d_Rr_readOpener_33 rfl rfl rfl rfl rfl ?_
    refine Rj_aload_n (q := 1) d_Sp_takeSign_0 rfl rfl rfl ?_
    refine Rj_vo (q := 4) (z := y_Sp_nextSign) (as := []) (rest := []) (la := [vA 2]) oD_2_Sp_nextSign ml_Sp_31 mw_Sp_nextSign mv_Sp_nextSign rfl d_Sp_takeSign_1 rfl rfl rfl rfl rfl ?_
    refine s_next (μ := μ) (A := A) (n := n) (k := k) (hT.keep rfl rfl) hk (by omega) ?_
    rw [hs]
    have v33_1 := nsV_rng hT (k := k) (by omega)
    refine Rj_eqm (μ' := μ) (mset_idv hk) ?_
    refine Rj_iload_n (q := 5) d_Sp_takeSign_4 rfl rfl rfl ?_
    refine Rj_icmp_eq (q := 8) (t := 10) d_Sp_takeSign_5 rfl (by decide) ⟨by omega, by omega⟩ (by decide) (fun c33_5 => ?_) (fun c33_5 => ?_)
    · refine Rj_aload_n (q := 11) d_Sp_takeSign_10 rfl rfl rfl ?_
      refine Rj_dup (q := 12) d_Sp_takeSign_11 rfl (by intro h; cases h) ?_
      refine Rj_gi (q := 15) (ki := 2) (v := k) gD_Sp_25_2 rfl rfl hk d_Sp_takeSign_12 rfl ?_
      refine Rj_iconst (q := 16) d_Sp_takeSign_15 rfl ?_
      refine Rj_iadd (q := 17) d_Sp_takeSign_16 rfl ?_
      refine Rj_pi (q := 20) (ki := 2) pD_Sp_25_2 rfl rfl d_Sp_takeSign_17 rfl ?_
      refine Rj_iconst (q := 21) d_Sp_takeSign_20 rfl ?_
      refine Rj_bret1 d_Sp_takeSign_21 rfl ?_
      refine Rj_if_eq (q := 39) (t := 58) d_Rr_readOpener_36 rfl (by decide) (by decide) (fun c => absurd c (by decide)) (fun _ => ?_)
      refine Rj_aload_n (q := 40) d_Rr_readOpener_39 rfl rfl rfl ?_
      refine Rj_dup (q := 41) d_Rr_readOpener_40 rfl (by intro h; cases h) ?_
      refine Rj_gi (q := 44) (ki := 5) (v := brn w) gD_Rr_30_84 rfl rfl h5 d_Rr_readOpener_41 rfl ?_
      refine Rj_iconst (q := 45) d_Rr_readOpener_44 rfl ?_
      refine Rj_iadd (q := 46) d_Rr_readOpener_45 rfl ?_
      refine Rj_pi (q := 49) (ki := 5) pD_Rr_30_84 rfl rfl d_Rr_readOpener_46 rfl ?_
      refine Rj_aload_n (q := 50) d_Rr_readOpener_49 rfl rfl rfl ?_
      refine Rj_bipush (q := 52) d_Rr_readOpener_50 rfl (by decide +kernel) ?_
      refine Rj_vov (q := 55) (z := y_Rr_hold) (as := [vI 22]) (rest := []) (la := [vA 84, vI 22]) oD_84_Rr_hold ml_Rr_89 mw_Rr_hold mv_Rr_hold rfl d_Rr_readOpener_52 rfl rfl rfl rfl rfl ?_
      refine Rj_aload_n (q := 1) d_Rr_hold_0 rfl rfl rfl ?_
      refine Rj_gi (q := 4) (ki := 3) (v := (w.length : Int)) gD_Rr_23_84 rfl rfl h3 d_Rr_hold_1 rfl ?_
      refine Rj_aload_n (q := 5) d_Rr_hold_4 rfl rfl rfl ?_
      refine Rj_gr (q := 8) (zd := 85) gD_Rr_9_84 rfl rfl d_Rr_hold_5 rfl ?_
      refine Rj_al (q := 9) (zn := 400) aD_85 rfl rfl d_Rr_hold_8 rfl ?_
      refine Rj_icmp_ge (q := 12) (t := 58) d_Rr_hold_9 rfl (by decide) ⟨by omega, by omega⟩ (by decide) (fun c52_9 => ?_) (fun c52_9 => ?_)
      · exact absurd c52_9 (by omega)
      · refine Rj_aload_n (q := 13) d_Rr_hold_12 rfl rfl rfl ?_
        refine Rj_gr (q := 16) (zd := 85) gD_Rr_9_84 rfl rfl d_Rr_hold_13 rfl ?_
        refine Rj_aload_n (q := 17) d_Rr_hold_16 rfl rfl rfl ?_
        refine Rj_gi (q := 20) (ki := 3) (v := (w.length : Int)) gD_Rr_23_84 rfl rfl h3 d_Rr_hold_17 rfl ?_
        refine Rj_iload_n (q := 21) d_Rr_hold_20 rfl rfl rfl ?_
        refine Rj_is (q := 22) aD_85 rfl (by omega) d_Rr_hold_21 rfl ?_
        refine Rj_aload_n (q := 23) d_Rr_hold_22 rfl rfl rfl ?_
        refine Rj_dup (q := 24) d_Rr_hold_23 rfl (by intro h; cases h) ?_
        refine Rj_gi (q := 27) (ki := 3) (v := (w.length : Int)) gD_Rr_23_84 rfl rfl h3 d_Rr_hold_24 rfl ?_
        refine Rj_iconst (q := 28) d_Rr_hold_27 rfl ?_
        refine Rj_iadd (q := 29) d_Rr_hold_28 rfl ?_
        refine Rj_pi (q := 32) (ki := 3) pD_Rr_23_84 rfl rfl d_Rr_hold_29 rfl ?_
        refine Rj_aload_n (q := 33) d_Rr_hold_32 rfl rfl rfl ?_
        refine Rj_dup (q := 34) d_Rr_hold_33 rfl (by intro h; cases h) ?_
        refine Rj_gi (q := 37) (ki := 4) (v := dpn w) gD_Rr_27_84 rfl rfl h4 d_Rr_hold_34 rfl ?_
        refine Rj_iload_n (q := 38) d_Rr_hold_37 rfl rfl rfl ?_
        refine Rj_bipush (q := 40) d_Rr_hold_38 rfl (by decide +kernel) ?_
        refine Rj_icmp_eq (q := 43) (t := 49) d_Rr_hold_40 rfl (by decide) (by decide) (by decide) (fun _ => ?_) (fun c => absurd c (by decide))
        refine Rj_iconst (q := 50) d_Rr_hold_49 rfl ?_
        refine Rj_goto (t := 54) d_Rr_hold_50 (by decide) ?_
        refine Rj_iadd (q := 55) d_Rr_hold_54 rfl ?_
        refine Rj_pi (q := 58) (ki := 4) pD_Rr_27_84 rfl rfl d_Rr_hold_55 rfl ?_
        refine Rj_vret d_Rr_hold_58 rfl ?_
        refine Rj_goto (t := 74) d_Rr_readOpener_55 (by decide) ?_
        refine Rj_vret d_Rr_readOpener_74 rfl ?_
        have hg : sgn A n k = 91 := (ns_sgn hT (by omega) (by decide)).mp c33_5
        exact hG _ _ _ _ _ _ _ _ (fun x g => RUN_br hs hg (by omega) g) (Fr.put (Fr.put (Fr.put (Fr.put (Fr.put (Fr.refl _ _) (by unfold Wru; omega)) (by unfold Wru; omega)) (by unfold Wru; omega)) (by unfold Wru; omega)) (by unfold Wru; omega)) (hC.push (op := 22) (Fr.put (Fr.put (Fr.put (Fr.put (Fr.put (Fr.refl _ _) (by omega)) (by omega)) (by omega)) (by omega)) (by omega)) rfl rfl (by rw [if_pos (by decide)]; rfl) (by rw [if_pos (by decide)]; rfl) h6 h7 h8 (mset_same _ _ _ _)) (hI.push (Or.inr rfl) (fun q => absurd q (by decide)) (by omega) (by have := ((sgn_eq (by decide)).mp hg).1; omega)) (by omega)
    · refine Rj_iconst (q := 9) d_Sp_takeSign_8 rfl ?_
      refine Rj_bret0 d_Sp_takeSign_9 rfl ?_
      refine Rj_if_eq (q := 39) (t := 58) d_Rr_readOpener_36 rfl (by decide) (by decide) (fun _ => ?_) (fun c => absurd c (by decide))
      refine Rj_aload_n (q := 59) d_Rr_readOpener_58 rfl rfl rfl ?_
      refine Rj_gr (q := 62) (zd := 2) gD_Rr_15_84 rfl rfl d_Rr_readOpener_59 rfl ?_
      refine Rj_ldcS (q := 64) (tx := "not") (k := 6) (z := 6) (by decide) rfl d_Rr_readOpener_62 rfl ?_
      refine Rj_vo (q := 67) (z := y_Sp_takeWord) (as := [vK 6]) (rest := []) (la := [vA 2, vK 6]) oD_2_Sp_takeWord ml_Rr_76 mw_Sp_takeWord mv_Sp_takeWord rfl d_Rr_readOpener_64 rfl rfl rfl rfl rfl ?_
      refine s_takeWord (μ := μ) (A := A) (n := n) (k := k) (w := 6) (hT.keep rfl rfl) hk (by omega) rfl (by decide) ?_
      rw [wN_6]
      rw [hs]
      have t64 := lend_bd A (n := n) (k := k) (by omega)
      by_cases w64 : wat A n k 7237492 = true
      · rw [if_pos w64, bI_t w64]
        refine Rj_pop (q := 68) d_Rr_readOpener_67 rfl (by intro h; cases h) ?_
        refine Rj_aload_n (q := 69) d_Rr_readOpener_68 rfl rfl rfl ?_
        refine Rj_bipush (q := 71) d_Rr_readOpener_69 rfl (by decide +kernel) ?_
        refine Rj_vov (q := 74) (z := y_Rr_hold) (as := [vI 19]) (rest := []) (la := [vA 84, vI 19]) oD_84_Rr_hold ml_Rr_89 mw_Rr_hold mv_Rr_hold rfl d_Rr_readOpener_71 rfl rfl rfl rfl rfl ?_
        refine Rj_aload_n (q := 1) d_Rr_hold_0 rfl rfl rfl ?_
        refine Rj_gi (q := 4) (ki := 3) (v := (w.length : Int)) gD_Rr_23_84 rfl rfl h3 d_Rr_hold_1 rfl ?_
        refine Rj_aload_n (q := 5) d_Rr_hold_4 rfl rfl rfl ?_
        refine Rj_gr (q := 8) (zd := 85) gD_Rr_9_84 rfl rfl d_Rr_hold_5 rfl ?_
        refine Rj_al (q := 9) (zn := 400) aD_85 rfl rfl d_Rr_hold_8 rfl ?_
        refine Rj_icmp_ge (q := 12) (t := 58) d_Rr_hold_9 rfl (by decide) ⟨by omega, by omega⟩ (by decide) (fun c71_9 => ?_) (fun c71_9 => ?_)
        · exact absurd c71_9 (by omega)
        · refine Rj_aload_n (q := 13) d_Rr_hold_12 rfl rfl rfl ?_
          refine Rj_gr (q := 16) (zd := 85) gD_Rr_9_84 rfl rfl d_Rr_hold_13 rfl ?_
          refine Rj_aload_n (q := 17) d_Rr_hold_16 rfl rfl rfl ?_
          refine Rj_gi (q := 20) (ki := 3) (v := (w.length : Int)) gD_Rr_23_84 rfl rfl h3 d_Rr_hold_17 rfl ?_
          refine Rj_iload_n (q := 21) d_Rr_hold_20 rfl rfl rfl ?_
          refine Rj_is (q := 22) aD_85 rfl (by omega) d_Rr_hold_21 rfl ?_
          refine Rj_aload_n (q := 23) d_Rr_hold_22 rfl rfl rfl ?_
          refine Rj_dup (q := 24) d_Rr_hold_23 rfl (by intro h; cases h) ?_
          refine Rj_gi (q := 27) (ki := 3) (v := (w.length : Int)) gD_Rr_23_84 rfl rfl h3 d_Rr_hold_24 rfl ?_
          refine Rj_iconst (q := 28) d_Rr_hold_27 rfl ?_
          refine Rj_iadd (q := 29) d_Rr_hold_28 rfl ?_
          refine Rj_pi (q := 32) (ki := 3) pD_Rr_23_84 rfl rfl d_Rr_hold_29 rfl ?_
          refine Rj_aload_n (q := 33) d_Rr_hold_32 rfl rfl rfl ?_
          refine Rj_dup (q := 34) d_Rr_hold_33 rfl (by intro h; cases h) ?_
          refine Rj_gi (q := 37) (ki := 4) (v := dpn w) gD_Rr_27_84 rfl rfl h4 d_Rr_hold_34 rfl ?_
          refine Rj_iload_n (q := 38) d_Rr_hold_37 rfl rfl rfl ?_
          refine Rj_bipush (q := 40) d_Rr_hold_38 rfl (by decide +kernel) ?_
          refine Rj_icmp_eq (q := 43) (t := 49) d_Rr_hold_40 rfl (by decide) (by decide) (by decide) (fun c => absurd c (by decide)) (fun _ => ?_)
          refine Rj_iload_n (q := 44) d_Rr_hold_43 rfl rfl rfl ?_
          refine Rj_bipush (q := 46) d_Rr_hold_44 rfl (by decide +kernel) ?_
          refine Rj_icmp_ne (q := 49) (t := 53) d_Rr_hold_46 rfl (by decide) (by decide) (by decide) (fun c => absurd c (by decide)) (fun _ => ?_)
          refine Rj_iconst (q := 50) d_Rr_hold_49 rfl ?_
          refine Rj_goto (t := 54) d_Rr_hold_50 (by decide) ?_
          refine Rj_iadd (q := 55) d_Rr_hold_54 rfl ?_
          refine Rj_pi (q := 58) (ki := 4) pD_Rr_27_84 rfl rfl d_Rr_hold_55 rfl ?_
          refine Rj_vret d_Rr_hold_58 rfl ?_
          refine Rj_vret d_Rr_readOpener_74 rfl ?_
          have el := WAT_end (w := 6) (by decide) ((WAT_iff (by decide)).mp (by rw [wN_6]; exact w64))
          rw [sLn_6] at el
          have hg : ¬ sgn A n k = 91 := fun q => c33_5 ((ns_sgn hT (by omega) (by decide)).mpr q)
          exact hG _ _ _ _ _ _ _ _ (fun x g => RUN_not hs hg w64 (by omega) g) (Fr.put (Fr.put (Fr.put (Fr.put (Fr.refl _ _) (by unfold Wru; omega)) (by unfold Wru; omega)) (by unfold Wru; omega)) (by unfold Wru; omega)) (hC.push (op := 19) (Fr.put (Fr.put (Fr.put (Fr.put (Fr.refl _ _) (by omega)) (by omega)) (by omega)) (by omega)) rfl rfl (by rw [if_pos (by decide)]; rfl) (by rw [if_neg (by decide), Int.add_zero]; exact h5) h6 h7 h8 (mset_same _ _ _ _)) (hI.push (Or.inl (by decide)) (fun q => absurd q (by decide)) (by omega) (by omega)) (by omega)
      · rw [if_neg w64, bI_f (bool_f w64)]
        refine Rj_eqm (μ' := μ) (mset_idv hk) ?_
        refine Rj_pop (q := 68) d_Rr_readOpener_67 rfl (by intro h; cases h) ?_
        refine Rj_aload_n (q := 69) d_Rr_readOpener_68 rfl rfl rfl ?_
        refine Rj_bipush (q := 71) d_Rr_readOpener_69 rfl (by decide +kernel) ?_
        refine Rj_vov (q := 74) (z := y_Rr_hold) (as := [vI 19]) (rest := []) (la := [vA 84, vI 19]) oD_84_Rr_hold ml_Rr_89 mw_Rr_hold mv_Rr_hold rfl d_Rr_readOpener_71 rfl rfl rfl rfl rfl ?_
        refine Rj_aload_n (q := 1) d_Rr_hold_0 rfl rfl rfl ?_
        refine Rj_gi (q := 4) (ki := 3) (v := (w.length : Int)) gD_Rr_23_84 rfl rfl h3 d_Rr_hold_1 rfl ?_
        refine Rj_aload_n (q := 5) d_Rr_hold_4 rfl rfl rfl ?_
        refine Rj_gr (q := 8) (zd := 85) gD_Rr_9_84 rfl rfl d_Rr_hold_5 rfl ?_
        refine Rj_al (q := 9) (zn := 400) aD_85 rfl rfl d_Rr_hold_8 rfl ?_
        refine Rj_icmp_ge (q := 12) (t := 58) d_Rr_hold_9 rfl (by decide) ⟨by omega, by omega⟩ (by decide) (fun c71_9 => ?_) (fun c71_9 => ?_)
        · exact absurd c71_9 (by omega)
        · refine Rj_aload_n (q := 13) d_Rr_hold_12 rfl rfl rfl ?_
          refine Rj_gr (q := 16) (zd := 85) gD_Rr_9_84 rfl rfl d_Rr_hold_13 rfl ?_
          refine Rj_aload_n (q := 17) d_Rr_hold_16 rfl rfl rfl ?_
          refine Rj_gi (q := 20) (ki := 3) (v := (w.length : Int)) gD_Rr_23_84 rfl rfl h3 d_Rr_hold_17 rfl ?_
          refine Rj_iload_n (q := 21) d_Rr_hold_20 rfl rfl rfl ?_
          refine Rj_is (q := 22) aD_85 rfl (by omega) d_Rr_hold_21 rfl ?_
          refine Rj_aload_n (q := 23) d_Rr_hold_22 rfl rfl rfl ?_
          refine Rj_dup (q := 24) d_Rr_hold_23 rfl (by intro h; cases h) ?_
          refine Rj_gi (q := 27) (ki := 3) (v := (w.length : Int)) gD_Rr_23_84 rfl rfl h3 d_Rr_hold_24 rfl ?_
          refine Rj_iconst (q := 28) d_Rr_hold_27 rfl ?_
          refine Rj_iadd (q := 29) d_Rr_hold_28 rfl ?_
          refine Rj_pi (q := 32) (ki := 3) pD_Rr_23_84 rfl rfl d_Rr_hold_29 rfl ?_
          refine Rj_aload_n (q := 33) d_Rr_hold_32 rfl rfl rfl ?_
          refine Rj_dup (q := 34) d_Rr_hold_33 rfl (by intro h; cases h) ?_
          refine Rj_gi (q := 37) (ki := 4) (v := dpn w) gD_Rr_27_84 rfl rfl h4 d_Rr_hold_34 rfl ?_
          refine Rj_iload_n (q := 38) d_Rr_hold_37 rfl rfl rfl ?_
          refine Rj_bipush (q := 40) d_Rr_hold_38 rfl (by decide +kernel) ?_
          refine Rj_icmp_eq (q := 43) (t := 49) d_Rr_hold_40 rfl (by decide) (by decide) (by decide) (fun c => absurd c (by decide)) (fun _ => ?_)
          refine Rj_iload_n (q := 44) d_Rr_hold_43 rfl rfl rfl ?_
          refine Rj_bipush (q := 46) d_Rr_hold_44 rfl (by decide +kernel) ?_
          refine Rj_icmp_ne (q := 49) (t := 53) d_Rr_hold_46 rfl (by decide) (by decide) (by decide) (fun c => absurd c (by decide)) (fun _ => ?_)
          refine Rj_iconst (q := 50) d_Rr_hold_49 rfl ?_
          refine Rj_goto (t := 54) d_Rr_hold_50 (by decide) ?_
          refine Rj_iadd (q := 55) d_Rr_hold_54 rfl ?_
          refine Rj_pi (q := 58) (ki := 4) pD_Rr_27_84 rfl rfl d_Rr_hold_55 rfl ?_
          refine Rj_vret d_Rr_hold_58 rfl ?_
          refine Rj_vret d_Rr_readOpener_74 rfl ?_
          exact absurd (ho.resolve_left (fun q => c33_5 ((ns_sgn hT (by omega) (by decide)).mpr q))) w64
  · refine Rj_aload_n (q := 10) d_Rr_readOpener_9 rfl rfl rfl ?_
    refine Rj_gr (q := 13) (zd := 2) gD_Rr_15_84 rfl rfl d_Rr_readOpener_10 rfl ?_
    refine Rj_aload_n (q := 14) d_Rr_readOpener_13 rfl rfl rfl ?_
    refine Rj_gr (q := 17) (zd := 2) gD_Rr_15_84 rfl rfl d_Rr_readOpener_14 rfl ?_
    refine Rj_gi (q := 20) (ki := 2) (v := k) gD_Rr_69_2 rfl rfl hk d_Rr_readOpener_17 rfl ?_
    refine Rj_iconst (q := 21) d_Rr_readOpener_20 rfl ?_
    refine Rj_vov (q := 24) (z := y_Sp_fail) (as := [vI k, vI 2]) (rest := []) (la := [vA 2, vI k, vI 2]) oD_2_Sp_fail ml_Rr_72 mw_Sp_fail mv_Sp_fail rfl d_Rr_readOpener_21 rfl rfl rfl rfl rfl ?_
    refine Rj_aload_n (q := 1) d_Sp_fail_0 rfl rfl rfl ?_
    refine Rj_gi (q := 4) (ki := 3) (v := 0) gD_Sp_28_2 rfl rfl hf0 d_Sp_fail_1 rfl ?_
    refine Rj_if_ne (q := 7) (t := 19) d_Sp_fail_4 rfl (by decide) (by decide) (fun c => absurd c (by decide)) (fun _ => ?_)
    refine Rj_aload_n (q := 8) d_Sp_fail_7 rfl rfl rfl ?_
    refine Rj_iconst (q := 9) d_Sp_fail_8 rfl ?_
    refine Rj_bipush (q := 11) d_Sp_fail_9 rfl (by decide +kernel) ?_
    refine Rj_iload_n (q := 12) d_Sp_fail_11 rfl rfl rfl ?_
    refine Rj_imul (q := 13) d_Sp_fail_12 rfl ?_
    refine Rj_iadd (q := 14) d_Sp_fail_13 rfl ?_
    refine Rj_iload_n (q := 15) d_Sp_fail_14 rfl rfl rfl ?_
    refine Rj_iadd (q := 16) d_Sp_fail_15 rfl ?_
    refine Rj_pi (q := 19) (ki := 3) pD_Sp_28_2 rfl rfl d_Sp_fail_16 rfl ?_
    refine Rj_vret d_Sp_fail_19 rfl ?_
    refine Rj_goto (t := 74) d_Rr_readOpener_24 (by decide) ?_
    refine Rj_vret d_Rr_readOpener_74 rfl ?_
    exact hE ((1 + (8 * k)) + 2) _ (RUN_deep hs ho (by omega)) (Fr.put (Fr.refl _ _) (by unfold Wru; omega)) rfl (by omega)
set_option maxHeartbeats 4000000 in
theorem s_takeValueWord {μ : Mem} {Q : PV → Mem → Prop} {A : Int → Int} {n k : Int} (hT : TD μ A n) (hk : μ 2 2 = k) (hf0 : μ 2 3 = 0) (h0 : 0 ≤ k ∧ k ≤ n) (hs : sk A n k = k) (h1 : 0 ≤ wix A n k → Q (vI (wix A n k)) (mset μ 2 2 (lend A n k))) (h2 : ¬ 0 ≤ wix A n k → Q (vI (-1)) (mset μ 2 3 (1 + 8 * k + 0))) : Rj YD y_Rr_takeValueWord 0 [vA 84] [] μ Q := by
  have hn := hT.2.1
  have hX := hT.1.1
  refine Rj_iconst (q := 1) d_Rr_takeValueWord_0 rfl ?_
  refine Rj_istore_n (q := 2) (ls' := [vA 84, vI 0]) d_Rr_takeValueWord_1 rfl rfl (by decide) rfl ?_
  refine Rj_iload_n (q := 3) d_Rr_takeValueWord_2 rfl rfl rfl ?_
  refine Rj_bipush (q := 5) d_Rr_takeValueWord_3 rfl (by decide +kernel) ?_
  refine Rj_icmp_gt (q := 8) (t := 30) d_Rr_takeValueWord_5 rfl (by decide) (by decide) (by decide) (fun c => absurd c (by decide)) (fun _ => ?_)
  refine Rj_aload_n (q := 9) d_Rr_takeValueWord_8 rfl rfl rfl ?_
  refine Rj_gr (q := 12) (zd := 2) gD_Rr_15_84 rfl rfl d_Rr_takeValueWord_9 rfl ?_
  refine Rj_iload_n (q := 13) d_Rr_takeValueWord_12 rfl rfl rfl ?_
  refine Rj_cs (q := 16) (z := y_Bo_spelling) (as := [vI 0]) (rest := [vA 2]) (la := [vI 0]) ml_Rr_111 mw_Bo_spelling ms_Bo_spelling d_Rr_takeValueWord_13 rfl rfl rfl rfl rfl ?_
  refine Rj_iload_n (q := 1) d_Bo_spelling_0 rfl rfl rfl ?_
  refine Rj_tsI (t := 44) d_Bo_spelling_1 (by decide) (by decide) (by decide) rfl (by decide) ?_
  refine Rj_ldcS (q := 46) (tx := "door") (k := 3) (z := 3) (by decide) rfl d_Bo_spelling_44 rfl ?_
  refine Rj_kret d_Bo_spelling_46 rfl ?_
  refine Rj_vo (q := 19) (z := y_Sp_takeWord) (as := [vK 3]) (rest := []) (la := [vA 2, vK 3]) oD_2_Sp_takeWord ml_Rr_76 mw_Sp_takeWord mv_Sp_takeWord rfl d_Rr_takeValueWord_16 rfl rfl rfl rfl rfl ?_
  refine s_takeWord (μ := μ) (A := A) (n := n) (k := k) (w := 3) (hT.keep rfl rfl) hk (by omega) rfl (by decide) ?_
  rw [wN_3]
  rw [hs]
  have t16_0 := lend_bd A (n := n) (k := k) (by omega)
  by_cases w16_0 : wat A n k 1685024626 = true
  · rw [if_pos w16_0, bI_t w16_0]
    refine Rj_if_eq (q := 22) (t := 24) d_Rr_takeValueWord_19 rfl (by decide) (by decide) (fun c => absurd c (by decide)) (fun _ => ?_)
    refine Rj_iload_n (q := 23) d_Rr_takeValueWord_22 rfl rfl rfl ?_
    refine Rj_iret d_Rr_takeValueWord_23 rfl ?_
    have e : wix A n k = 0 := by unfold wix; rw [if_pos w16_0]
    exact fin_I (h1 (by omega)) e
  · rw [if_neg w16_0, bI_f (bool_f w16_0)]
    refine Rj_eqm (μ' := μ) (mset_idv hk) ?_
    refine Rj_if_eq (q := 22) (t := 24) d_Rr_takeValueWord_19 rfl (by decide) (by decide) (fun _ => ?_) (fun c => absurd c (by decide))
    refine Rj_iinc (q := 27) (ls' := [vA 84, vI 1]) d_Rr_takeValueWord_24 rfl rfl (by decide) rfl ?_
    refine Rj_goto (t := 2) d_Rr_takeValueWord_27 (by decide) ?_
    refine Rj_iload_n (q := 3) d_Rr_takeValueWord_2 rfl rfl rfl ?_
    refine Rj_bipush (q := 5) d_Rr_takeValueWord_3 rfl (by decide +kernel) ?_
    refine Rj_icmp_gt (q := 8) (t := 30) d_Rr_takeValueWord_5 rfl (by decide) (by decide) (by decide) (fun c => absurd c (by decide)) (fun _ => ?_)
    refine Rj_aload_n (q := 9) d_Rr_takeValueWord_8 rfl rfl rfl ?_
    refine Rj_gr (q := 12) (zd := 2) gD_Rr_15_84 rfl rfl d_Rr_takeValueWord_9 rfl ?_
    refine Rj_iload_n (q := 13) d_Rr_takeValueWord_12 rfl rfl rfl ?_
    refine Rj_cs (q := 16) (z := y_Bo_spelling) (as := [vI 1]) (rest := [vA 2]) (la := [vI 1]) ml_Rr_111 mw_Bo_spelling ms_Bo_spelling d_Rr_takeValueWord_13 rfl rfl rfl rfl rfl ?_
    refine Rj_iload_n (q := 1) d_Bo_spelling_0 rfl rfl rfl ?_
    refine Rj_tsI (t := 47) d_Bo_spelling_1 (by decide) (by decide) (by decide) rfl (by decide) ?_
    refine Rj_ldcS (q := 49) (tx := "teeth") (k := 7) (z := 7) (by decide) rfl d_Bo_spelling_47 rfl ?_
    refine Rj_kret d_Bo_spelling_49 rfl ?_
    refine Rj_vo (q := 19) (z := y_Sp_takeWord) (as := [vK 7]) (rest := []) (la := [vA 2, vK 7]) oD_2_Sp_takeWord ml_Rr_76 mw_Sp_takeWord mv_Sp_takeWord rfl d_Rr_takeValueWord_16 rfl rfl rfl rfl rfl ?_
    refine s_takeWord (μ := μ) (A := A) (n := n) (k := k) (w := 7) (hT.keep rfl rfl) hk (by omega) rfl (by decide) ?_
    rw [wN_7]
    rw [hs]
    have t16_1 := lend_bd A (n := n) (k := k) (by omega)
    by_cases w16_1 : wat A n k 499917354088 = true
    · rw [if_pos w16_1, bI_t w16_1]
      refine Rj_if_eq (q := 22) (t := 24) d_Rr_takeValueWord_19 rfl (by decide) (by decide) (fun c => absurd c (by decide)) (fun _ => ?_)
      refine Rj_iload_n (q := 23) d_Rr_takeValueWord_22 rfl rfl rfl ?_
      refine Rj_iret d_Rr_takeValueWord_23 rfl ?_
      have e : wix A n k = 1 := by unfold wix; rw [if_neg w16_0, if_pos w16_1]
      exact fin_I (h1 (by omega)) e
    · rw [if_neg w16_1, bI_f (bool_f w16_1)]
      refine Rj_eqm (μ' := μ) (mset_idv hk) ?_
      refine Rj_if_eq (q := 22) (t := 24) d_Rr_takeValueWord_19 rfl (by decide) (by decide) (fun _ => ?_) (fun c => absurd c (by decide))
      refine Rj_iinc (q := 27) (ls' := [vA 84, vI 2]) d_Rr_takeValueWord_24 rfl rfl (by decide) rfl ?_
      refine Rj_goto (t := 2) d_Rr_takeValueWord_27 (by decide) ?_
      refine Rj_iload_n (q := 3) d_Rr_takeValueWord_2 rfl rfl rfl ?_
      refine Rj_bipush (q := 5) d_Rr_takeValueWord_3 rfl (by decide +kernel) ?_
      refine Rj_icmp_gt (q := 8) (t := 30) d_Rr_takeValueWord_5 rfl (by decide) (by decide) (by decide) (fun c => absurd c (by decide)) (fun _ => ?_)
      refine Rj_aload_n (q := 9) d_Rr_takeValueWord_8 rfl rfl rfl ?_
      refine Rj_gr (q := 12) (zd := 2) gD_Rr_15_84 rfl rfl d_Rr_takeValueWord_9 rfl ?_
      refine Rj_iload_n (q := 13) d_Rr_takeValueWord_12 rfl rfl rfl ?_
      refine Rj_cs (q := 16) (z := y_Bo_spelling) (as := [vI 2]) (rest := [vA 2]) (la := [vI 2]) ml_Rr_111 mw_Bo_spelling ms_Bo_spelling d_Rr_takeValueWord_13 rfl rfl rfl rfl rfl ?_
      refine Rj_iload_n (q := 1) d_Bo_spelling_0 rfl rfl rfl ?_
      refine Rj_tsI (t := 50) d_Bo_spelling_1 (by decide) (by decide) (by decide) rfl (by decide) ?_
      refine Rj_ldcS (q := 52) (tx := "span") (k := 8) (z := 8) (by decide) rfl d_Bo_spelling_50 rfl ?_
      refine Rj_kret d_Bo_spelling_52 rfl ?_
      refine Rj_vo (q := 19) (z := y_Sp_takeWord) (as := [vK 8]) (rest := []) (la := [vA 2, vK 8]) oD_2_Sp_takeWord ml_Rr_76 mw_Sp_takeWord mv_Sp_takeWord rfl d_Rr_takeValueWord_16 rfl rfl rfl rfl rfl ?_
      refine s_takeWord (μ := μ) (A := A) (n := n) (k := k) (w := 8) (hT.keep rfl rfl) hk (by omega) rfl (by decide) ?_
      rw [wN_8]
      rw [hs]
      have t16_2 := lend_bd A (n := n) (k := k) (by omega)
      by_cases w16_2 : wat A n k 1936744814 = true
      · rw [if_pos w16_2, bI_t w16_2]
        refine Rj_if_eq (q := 22) (t := 24) d_Rr_takeValueWord_19 rfl (by decide) (by decide) (fun c => absurd c (by decide)) (fun _ => ?_)
        refine Rj_iload_n (q := 23) d_Rr_takeValueWord_22 rfl rfl rfl ?_
        refine Rj_iret d_Rr_takeValueWord_23 rfl ?_
        have e : wix A n k = 2 := by unfold wix; rw [if_neg w16_0, if_neg w16_1, if_pos w16_2]
        exact fin_I (h1 (by omega)) e
      · rw [if_neg w16_2, bI_f (bool_f w16_2)]
        refine Rj_eqm (μ' := μ) (mset_idv hk) ?_
        refine Rj_if_eq (q := 22) (t := 24) d_Rr_takeValueWord_19 rfl (by decide) (by decide) (fun _ => ?_) (fun c => absurd c (by decide))
        refine Rj_iinc (q := 27) (ls' := [vA 84, vI 3]) d_Rr_takeValueWord_24 rfl rfl (by decide) rfl ?_
        refine Rj_goto (t := 2) d_Rr_takeValueWord_27 (by decide) ?_
        refine Rj_iload_n (q := 3) d_Rr_takeValueWord_2 rfl rfl rfl ?_
        refine Rj_bipush (q := 5) d_Rr_takeValueWord_3 rfl (by decide +kernel) ?_
        refine Rj_icmp_gt (q := 8) (t := 30) d_Rr_takeValueWord_5 rfl (by decide) (by decide) (by decide) (fun c => absurd c (by decide)) (fun _ => ?_)
        refine Rj_aload_n (q := 9) d_Rr_takeValueWord_8 rfl rfl rfl ?_
        refine Rj_gr (q := 12) (zd := 2) gD_Rr_15_84 rfl rfl d_Rr_takeValueWord_9 rfl ?_
        refine Rj_iload_n (q := 13) d_Rr_takeValueWord_12 rfl rfl rfl ?_
        refine Rj_cs (q := 16) (z := y_Bo_spelling) (as := [vI 3]) (rest := [vA 2]) (la := [vI 3]) ml_Rr_111 mw_Bo_spelling ms_Bo_spelling d_Rr_takeValueWord_13 rfl rfl rfl rfl rfl ?_
        refine Rj_iload_n (q := 1) d_Bo_spelling_0 rfl rfl rfl ?_
        refine Rj_tsI (t := 53) d_Bo_spelling_1 (by decide) (by decide) (by decide) rfl (by decide) ?_
        refine Rj_ldcS (q := 55) (tx := "place") (k := 9) (z := 9) (by decide) rfl d_Bo_spelling_53 rfl ?_
        refine Rj_kret d_Bo_spelling_55 rfl ?_
        refine Rj_vo (q := 19) (z := y_Sp_takeWord) (as := [vK 9]) (rest := []) (la := [vA 2, vK 9]) oD_2_Sp_takeWord ml_Rr_76 mw_Sp_takeWord mv_Sp_takeWord rfl d_Rr_takeValueWord_16 rfl rfl rfl rfl rfl ?_
        refine s_takeWord (μ := μ) (A := A) (n := n) (k := k) (w := 9) (hT.keep rfl rfl) hk (by omega) rfl (by decide) ?_
        rw [wN_9]
        rw [hs]
        have t16_3 := lend_bd A (n := n) (k := k) (by omega)
        by_cases w16_3 : wat A n k 482854658917 = true
        · rw [if_pos w16_3, bI_t w16_3]
          refine Rj_if_eq (q := 22) (t := 24) d_Rr_takeValueWord_19 rfl (by decide) (by decide) (fun c => absurd c (by decide)) (fun _ => ?_)
          refine Rj_iload_n (q := 23) d_Rr_takeValueWord_22 rfl rfl rfl ?_
          refine Rj_iret d_Rr_takeValueWord_23 rfl ?_
          have e : wix A n k = 3 := by unfold wix; rw [if_neg w16_0, if_neg w16_1, if_neg w16_2, if_pos w16_3]
          exact fin_I (h1 (by omega)) e
        · rw [if_neg w16_3, bI_f (bool_f w16_3)]
          refine Rj_eqm (μ' := μ) (mset_idv hk) ?_
          refine Rj_if_eq (q := 22) (t := 24) d_Rr_takeValueWord_19 rfl (by decide) (by decide) (fun _ => ?_) (fun c => absurd c (by decide))
          refine Rj_iinc (q := 27) (ls' := [vA 84, vI 4]) d_Rr_takeValueWord_24 rfl rfl (by decide) rfl ?_
          refine Rj_goto (t := 2) d_Rr_takeValueWord_27 (by decide) ?_
          refine Rj_iload_n (q := 3) d_Rr_takeValueWord_2 rfl rfl rfl ?_
          refine Rj_bipush (q := 5) d_Rr_takeValueWord_3 rfl (by decide +kernel) ?_
          refine Rj_icmp_gt (q := 8) (t := 30) d_Rr_takeValueWord_5 rfl (by decide) (by decide) (by decide) (fun c => absurd c (by decide)) (fun _ => ?_)
          refine Rj_aload_n (q := 9) d_Rr_takeValueWord_8 rfl rfl rfl ?_
          refine Rj_gr (q := 12) (zd := 2) gD_Rr_15_84 rfl rfl d_Rr_takeValueWord_9 rfl ?_
          refine Rj_iload_n (q := 13) d_Rr_takeValueWord_12 rfl rfl rfl ?_
          refine Rj_cs (q := 16) (z := y_Bo_spelling) (as := [vI 4]) (rest := [vA 2]) (la := [vI 4]) ml_Rr_111 mw_Bo_spelling ms_Bo_spelling d_Rr_takeValueWord_13 rfl rfl rfl rfl rfl ?_
          refine Rj_iload_n (q := 1) d_Bo_spelling_0 rfl rfl rfl ?_
          refine Rj_tsI (t := 56) d_Bo_spelling_1 (by decide) (by decide) (by decide) rfl (by decide) ?_
          refine Rj_ldcS (q := 58) (tx := "open") (k := 10) (z := 10) (by decide) rfl d_Bo_spelling_56 rfl ?_
          refine Rj_kret d_Bo_spelling_58 rfl ?_
          refine Rj_vo (q := 19) (z := y_Sp_takeWord) (as := [vK 10]) (rest := []) (la := [vA 2, vK 10]) oD_2_Sp_takeWord ml_Rr_76 mw_Sp_takeWord mv_Sp_takeWord rfl d_Rr_takeValueWord_16 rfl rfl rfl rfl rfl ?_
          refine s_takeWord (μ := μ) (A := A) (n := n) (k := k) (w := 10) (hT.keep rfl rfl) hk (by omega) rfl (by decide) ?_
          rw [wN_10]
          rw [hs]
          have t16_4 := lend_bd A (n := n) (k := k) (by omega)
          by_cases w16_4 : wat A n k 1869636974 = true
          · rw [if_pos w16_4, bI_t w16_4]
            refine Rj_if_eq (q := 22) (t := 24) d_Rr_takeValueWord_19 rfl (by decide) (by decide) (fun c => absurd c (by decide)) (fun _ => ?_)
            refine Rj_iload_n (q := 23) d_Rr_takeValueWord_22 rfl rfl rfl ?_
            refine Rj_iret d_Rr_takeValueWord_23 rfl ?_
            have e : wix A n k = 4 := by unfold wix; rw [if_neg w16_0, if_neg w16_1, if_neg w16_2, if_neg w16_3, if_pos w16_4]
            exact fin_I (h1 (by omega)) e
          · rw [if_neg w16_4, bI_f (bool_f w16_4)]
            refine Rj_eqm (μ' := μ) (mset_idv hk) ?_
            refine Rj_if_eq (q := 22) (t := 24) d_Rr_takeValueWord_19 rfl (by decide) (by decide) (fun _ => ?_) (fun c => absurd c (by decide))
            refine Rj_iinc (q := 27) (ls' := [vA 84, vI 5]) d_Rr_takeValueWord_24 rfl rfl (by decide) rfl ?_
            refine Rj_goto (t := 2) d_Rr_takeValueWord_27 (by decide) ?_
            refine Rj_iload_n (q := 3) d_Rr_takeValueWord_2 rfl rfl rfl ?_
            refine Rj_bipush (q := 5) d_Rr_takeValueWord_3 rfl (by decide +kernel) ?_
            refine Rj_icmp_gt (q := 8) (t := 30) d_Rr_takeValueWord_5 rfl (by decide) (by decide) (by decide) (fun c => absurd c (by decide)) (fun _ => ?_)
            refine Rj_aload_n (q := 9) d_Rr_takeValueWord_8 rfl rfl rfl ?_
            refine Rj_gr (q := 12) (zd := 2) gD_Rr_15_84 rfl rfl d_Rr_takeValueWord_9 rfl ?_
            refine Rj_iload_n (q := 13) d_Rr_takeValueWord_12 rfl rfl rfl ?_
            refine Rj_cs (q := 16) (z := y_Bo_spelling) (as := [vI 5]) (rest := [vA 2]) (la := [vI 5]) ml_Rr_111 mw_Bo_spelling ms_Bo_spelling d_Rr_takeValueWord_13 rfl rfl rfl rfl rfl ?_
            refine Rj_iload_n (q := 1) d_Bo_spelling_0 rfl rfl rfl ?_
            refine Rj_tsI (t := 59) d_Bo_spelling_1 (by decide) (by decide) (by decide) rfl (by decide) ?_
            refine Rj_ldcS (q := 61) (tx := "opens") (k := 11) (z := 11) (by decide) rfl d_Bo_spelling_59 rfl ?_
            refine Rj_kret d_Bo_spelling_61 rfl ?_
            refine Rj_vo (q := 19) (z := y_Sp_takeWord) (as := [vK 11]) (rest := []) (la := [vA 2, vK 11]) oD_2_Sp_takeWord ml_Rr_76 mw_Sp_takeWord mv_Sp_takeWord rfl d_Rr_takeValueWord_16 rfl rfl rfl rfl rfl ?_
            refine s_takeWord (μ := μ) (A := A) (n := n) (k := k) (w := 11) (hT.keep rfl rfl) hk (by omega) rfl (by decide) ?_
            rw [wN_11]
            rw [hs]
            have t16_5 := lend_bd A (n := n) (k := k) (by omega)
            by_cases w16_5 : wat A n k 478627065459 = true
            · rw [if_pos w16_5, bI_t w16_5]
              refine Rj_if_eq (q := 22) (t := 24) d_Rr_takeValueWord_19 rfl (by decide) (by decide) (fun c => absurd c (by decide)) (fun _ => ?_)
              refine Rj_iload_n (q := 23) d_Rr_takeValueWord_22 rfl rfl rfl ?_
              refine Rj_iret d_Rr_takeValueWord_23 rfl ?_
              have e : wix A n k = 5 := by unfold wix; rw [if_neg w16_0, if_neg w16_1, if_neg w16_2, if_neg w16_3, if_neg w16_4, if_pos w16_5]
              exact fin_I (h1 (by omega)) e
            · rw [if_neg w16_5, bI_f (bool_f w16_5)]
              refine Rj_eqm (μ' := μ) (mset_idv hk) ?_
              refine Rj_if_eq (q := 22) (t := 24) d_Rr_takeValueWord_19 rfl (by decide) (by decide) (fun _ => ?_) (fun c => absurd c (by decide))
              refine Rj_iinc (q := 27) (ls' := [vA 84, vI 6]) d_Rr_takeValueWord_24 rfl rfl (by decide) rfl ?_
              refine Rj_goto (t := 2) d_Rr_takeValueWord_27 (by decide) ?_
              refine Rj_iload_n (q := 3) d_Rr_takeValueWord_2 rfl rfl rfl ?_
              refine Rj_bipush (q := 5) d_Rr_takeValueWord_3 rfl (by decide +kernel) ?_
              refine Rj_icmp_gt (q := 8) (t := 30) d_Rr_takeValueWord_5 rfl (by decide) (by decide) (by decide) (fun c => absurd c (by decide)) (fun _ => ?_)
              refine Rj_aload_n (q := 9) d_Rr_takeValueWord_8 rfl rfl rfl ?_
              refine Rj_gr (q := 12) (zd := 2) gD_Rr_15_84 rfl rfl d_Rr_takeValueWord_9 rfl ?_
              refine Rj_iload_n (q := 13) d_Rr_takeValueWord_12 rfl rfl rfl ?_
              refine Rj_cs (q := 16) (z := y_Bo_spelling) (as := [vI 6]) (rest := [vA 2]) (la := [vI 6]) ml_Rr_111 mw_Bo_spelling ms_Bo_spelling d_Rr_takeValueWord_13 rfl rfl rfl rfl rfl ?_
              refine Rj_iload_n (q := 1) d_Bo_spelling_0 rfl rfl rfl ?_
              refine Rj_tsI (t := 62) d_Bo_spelling_1 (by decide) (by decide) (by decide) rfl (by decide) ?_
              refine Rj_ldcS (q := 64) (tx := "joins") (k := 12) (z := 12) (by decide) rfl d_Bo_spelling_62 rfl ?_
              refine Rj_kret d_Bo_spelling_64 rfl ?_
              refine Rj_vo (q := 19) (z := y_Sp_takeWord) (as := [vK 12]) (rest := []) (la := [vA 2, vK 12]) oD_2_Sp_takeWord ml_Rr_76 mw_Sp_takeWord mv_Sp_takeWord rfl d_Rr_takeValueWord_16 rfl rfl rfl rfl rfl ?_
              refine s_takeWord (μ := μ) (A := A) (n := n) (k := k) (w := 12) (hT.keep rfl rfl) hk (by omega) rfl (by decide) ?_
              rw [wN_12]
              rw [hs]
              have t16_6 := lend_bd A (n := n) (k := k) (by omega)
              by_cases w16_6 : wat A n k 457135713907 = true
              · rw [if_pos w16_6, bI_t w16_6]
                refine Rj_if_eq (q := 22) (t := 24) d_Rr_takeValueWord_19 rfl (by decide) (by decide) (fun c => absurd c (by decide)) (fun _ => ?_)
                refine Rj_iload_n (q := 23) d_Rr_takeValueWord_22 rfl rfl rfl ?_
                refine Rj_iret d_Rr_takeValueWord_23 rfl ?_
                have e : wix A n k = 6 := by unfold wix; rw [if_neg w16_0, if_neg w16_1, if_neg w16_2, if_neg w16_3, if_neg w16_4, if_neg w16_5, if_pos w16_6]
                exact fin_I (h1 (by omega)) e
              · rw [if_neg w16_6, bI_f (bool_f w16_6)]
                refine Rj_eqm (μ' := μ) (mset_idv hk) ?_
                refine Rj_if_eq (q := 22) (t := 24) d_Rr_takeValueWord_19 rfl (by decide) (by decide) (fun _ => ?_) (fun c => absurd c (by decide))
                refine Rj_iinc (q := 27) (ls' := [vA 84, vI 7]) d_Rr_takeValueWord_24 rfl rfl (by decide) rfl ?_
                refine Rj_goto (t := 2) d_Rr_takeValueWord_27 (by decide) ?_
                refine Rj_iload_n (q := 3) d_Rr_takeValueWord_2 rfl rfl rfl ?_
                refine Rj_bipush (q := 5) d_Rr_takeValueWord_3 rfl (by decide +kernel) ?_
                refine Rj_icmp_gt (q := 8) (t := 30) d_Rr_takeValueWord_5 rfl (by decide) (by decide) (by decide) (fun c => absurd c (by decide)) (fun _ => ?_)
                refine Rj_aload_n (q := 9) d_Rr_takeValueWord_8 rfl rfl rfl ?_
                refine Rj_gr (q := 12) (zd := 2) gD_Rr_15_84 rfl rfl d_Rr_takeValueWord_9 rfl ?_
                refine Rj_iload_n (q := 13) d_Rr_takeValueWord_12 rfl rfl rfl ?_
                refine Rj_cs (q := 16) (z := y_Bo_spelling) (as := [vI 7]) (rest := [vA 2]) (la := [vI 7]) ml_Rr_111 mw_Bo_spelling ms_Bo_spelling d_Rr_takeValueWord_13 rfl rfl rfl rfl rfl ?_
                refine Rj_iload_n (q := 1) d_Bo_spelling_0 rfl rfl rfl ?_
                refine Rj_tsO (t := 65) d_Bo_spelling_1 (by decide) (by decide) (by decide) ?_
                refine Rj_ldcS (q := 67) (tx := "coming") (k := 13) (z := 13) (by decide) rfl d_Bo_spelling_65 rfl ?_
                refine Rj_kret d_Bo_spelling_67 rfl ?_
                refine Rj_vo (q := 19) (z := y_Sp_takeWord) (as := [vK 13]) (rest := []) (la := [vA 2, vK 13]) oD_2_Sp_takeWord ml_Rr_76 mw_Sp_takeWord mv_Sp_takeWord rfl d_Rr_takeValueWord_16 rfl rfl rfl rfl rfl ?_
                refine s_takeWord (μ := μ) (A := A) (n := n) (k := k) (w := 13) (hT.keep rfl rfl) hk (by omega) rfl (by decide) ?_
                rw [wN_13]
                rw [hs]
                have t16_7 := lend_bd A (n := n) (k := k) (by omega)
                by_cases w16_7 : wat A n k 109330228145767 = true
                · rw [if_pos w16_7, bI_t w16_7]
                  refine Rj_if_eq (q := 22) (t := 24) d_Rr_takeValueWord_19 rfl (by decide) (by decide) (fun c => absurd c (by decide)) (fun _ => ?_)
                  refine Rj_iload_n (q := 23) d_Rr_takeValueWord_22 rfl rfl rfl ?_
                  refine Rj_iret d_Rr_takeValueWord_23 rfl ?_
                  have e : wix A n k = 7 := by unfold wix; rw [if_neg w16_0, if_neg w16_1, if_neg w16_2, if_neg w16_3, if_neg w16_4, if_neg w16_5, if_neg w16_6, if_pos w16_7]
                  exact fin_I (h1 (by omega)) e
                · rw [if_neg w16_7, bI_f (bool_f w16_7)]
                  refine Rj_eqm (μ' := μ) (mset_idv hk) ?_
                  refine Rj_if_eq (q := 22) (t := 24) d_Rr_takeValueWord_19 rfl (by decide) (by decide) (fun _ => ?_) (fun c => absurd c (by decide))
                  refine Rj_iinc (q := 27) (ls' := [vA 84, vI 8]) d_Rr_takeValueWord_24 rfl rfl (by decide) rfl ?_
                  refine Rj_goto (t := 2) d_Rr_takeValueWord_27 (by decide) ?_
                  refine Rj_iload_n (q := 3) d_Rr_takeValueWord_2 rfl rfl rfl ?_
                  refine Rj_bipush (q := 5) d_Rr_takeValueWord_3 rfl (by decide +kernel) ?_
                  refine Rj_icmp_gt (q := 8) (t := 30) d_Rr_takeValueWord_5 rfl (by decide) (by decide) (by decide) (fun _ => ?_) (fun c => absurd c (by decide))
                  refine Rj_aload_n (q := 31) d_Rr_takeValueWord_30 rfl rfl rfl ?_
                  refine Rj_gr (q := 34) (zd := 2) gD_Rr_15_84 rfl rfl d_Rr_takeValueWord_31 rfl ?_
                  refine Rj_aload_n (q := 35) d_Rr_takeValueWord_34 rfl rfl rfl ?_
                  refine Rj_gr (q := 38) (zd := 2) gD_Rr_15_84 rfl rfl d_Rr_takeValueWord_35 rfl ?_
                  refine Rj_gi (q := 41) (ki := 2) (v := k) gD_Rr_69_2 rfl rfl hk d_Rr_takeValueWord_38 rfl ?_
                  refine Rj_iconst (q := 42) d_Rr_takeValueWord_41 rfl ?_
                  refine Rj_vov (q := 45) (z := y_Sp_fail) (as := [vI k, vI 0]) (rest := []) (la := [vA 2, vI k, vI 0]) oD_2_Sp_fail ml_Rr_72 mw_Sp_fail mv_Sp_fail rfl d_Rr_takeValueWord_42 rfl rfl rfl rfl rfl ?_
                  refine Rj_aload_n (q := 1) d_Sp_fail_0 rfl rfl rfl ?_
                  refine Rj_gi (q := 4) (ki := 3) (v := 0) gD_Sp_28_2 rfl rfl hf0 d_Sp_fail_1 rfl ?_
                  refine Rj_if_ne (q := 7) (t := 19) d_Sp_fail_4 rfl (by decide) (by decide) (fun c => absurd c (by decide)) (fun _ => ?_)
                  refine Rj_aload_n (q := 8) d_Sp_fail_7 rfl rfl rfl ?_
                  refine Rj_iconst (q := 9) d_Sp_fail_8 rfl ?_
                  refine Rj_bipush (q := 11) d_Sp_fail_9 rfl (by decide +kernel) ?_
                  refine Rj_iload_n (q := 12) d_Sp_fail_11 rfl rfl rfl ?_
                  refine Rj_imul (q := 13) d_Sp_fail_12 rfl ?_
                  refine Rj_iadd (q := 14) d_Sp_fail_13 rfl ?_
                  refine Rj_iload_n (q := 15) d_Sp_fail_14 rfl rfl rfl ?_
                  refine Rj_iadd (q := 16) d_Sp_fail_15 rfl ?_
                  refine Rj_pi (q := 19) (ki := 3) pD_Sp_28_2 rfl rfl d_Sp_fail_16 rfl ?_
                  refine Rj_vret d_Sp_fail_19 rfl ?_
                  refine Rj_iconst (q := 46) d_Rr_takeValueWord_45 rfl ?_
                  refine Rj_iret d_Rr_takeValueWord_46 rfl ?_
                  exact h2 (by unfold wix; rw [if_neg w16_0, if_neg w16_1, if_neg w16_2, if_neg w16_3, if_neg w16_4, if_neg w16_5, if_neg w16_6, if_neg w16_7]; decide)
