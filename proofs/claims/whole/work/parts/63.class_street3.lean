theorem oD_83_Sr_readClause : OI YD 83 y_Sr_readClause := ⟨by decide, _, _, _, cD_83, rfl⟩
theorem oD_2_Sp_takeClauseBreak : OI YD 2 y_Sp_takeClauseBreak := ⟨by decide, _, _, _, cD_2, rfl⟩
theorem oD_2_Sp_takeSign : OI YD 2 y_Sp_takeSign := ⟨by decide, _, _, _, cD_2, rfl⟩
theorem gD_Sr_41_2 : GI YD "DoorsOnCogs$StreetReader" 41 2 1 none := ⟨by decide, _, _, _, fl_Sr_41, cD_2, by decide, rfl⟩
/-! the class reads a street's text: the loop over its clauses -/
def rdR (A : Int → Int) (n : Int) (f : Nat) (σ : StS) : Except Int StS := match stClause A n σ with
  | .error w => .error w
  | .ok σ' => stLoop A n f σ'
theorem rdR_ok {A : Int → Int} {n : Int} {f : Nat} {σ σ' : StS} (h : stClause A n σ = .ok σ') : rdR A n f σ = stLoop A n f σ' := by unfold rdR; rw [h]
theorem rdR_er {A : Int → Int} {n : Int} {f : Nat} {σ : StS} {w : Int} (h : stClause A n σ = .error w) : rdR A n f σ = .error w := by unfold rdR; rw [h]
theorem stLoop_semi {A : Int → Int} {n : Int} {f : Nat} {σ : StS} (h : sk A n σ.1 < n ∧ A (sk A n σ.1) = 59) : stLoop A n (f + 1) σ = rdR A n f (sk A n σ.1 + 1, σ.2) := by
  cases hc : stClause A n (sk A n σ.1 + 1, σ.2) with
  | error w => rw [rdR_er hc]; exact stLoop_bad h hc
  | ok τ => rw [rdR_ok hc]; exact stLoop_go h hc
theorem stLoop_bad2 {A : Int → Int} {n : Int} {f : Nat} {σ : StS} (h : ¬ (sk A n σ.1 < n ∧ A (sk A n σ.1) = 59)) (h2 : sk A n σ.1 < n) : stLoop A n (f + 1) σ = .error (1 + 8 * sk A n σ.1 + 0) := by
  show (if _ then _ else _) = _
  rw [if_neg h, if_pos h2]
theorem stLoop_end {A : Int → Int} {n : Int} {f : Nat} {σ : StS} (h : ¬ (sk A n σ.1 < n ∧ A (sk A n σ.1) = 59)) (h2 : ¬ sk A n σ.1 < n) : stLoop A n (f + 1) σ = if σ.2.2.1 = 0 then .error (1 + 8 * sk A n σ.1 + 0) else .ok (sk A n σ.1, σ.2) := by
  show (if _ then _ else _) = _
  rw [if_neg h, if_neg h2]
set_option maxHeartbeats 4000000 in
theorem s_readSt_l : ∀ (f : Nat) {μ : Mem} {Q : PV → Mem → Prop} {A : Int → Int} {n : Int} {σ : StS}, ((n - σ.1).toNat < f) → (TD μ A n) → (μ 2 2 = σ.1) → (0 ≤ σ.1 ∧ σ.1 ≤ n) → (μ 2 3 = 0) → (StOK n σ) → (DRF μ σ) → (∀ σ' μ', rdR A n f σ = .ok σ' → Fr Wrd μ μ' → DRF μ' σ' → μ' 2 3 = 0 → Q vU μ') → (∀ wr μ', rdR A n f σ = .error wr → Fr Wrd μ μ' → μ' 2 3 = wr → Q vU μ') → Rj YD y_Sr_read 21 [vA 83, vI 1, vI (σ.2.1)] [] μ Q := by
  intro f
  induction f with
  | zero => intro μ Q A n σ hf hT hk h0 hf0 hO hD h1 h2; exact absurd hf (by omega)
  | succ f ih =>
    intro μ Q A n σ hf hT hk h0 hf0 hO hD h1 h2
    have hn := hT.2.1
    have hX := hT.1.1
    have hln := hO.2.1
    have hln2 := hO.2.2.1
    refine Rj_aload_n (q := 22) d_Sr_read_21 rfl rfl rfl ?_
    refine Rj_iload_n (q := 23) d_Sr_read_22 rfl rfl rfl ?_
    refine Rj_vov (q := 26) (z := y_Sr_readClause) (as := [vI (σ.2.1)]) (rest := []) (la := [vA 83, vI (σ.2.1)]) oD_83_Sr_readClause ml_Sr_24 mw_Sr_readClause mv_Sr_readClause rfl d_Sr_read_23 rfl rfl rfl rfl rfl ?_
    refine s_readClause (k := σ.1) (ln := σ.2.1) (D := σ.2.2.1) (J := σ.2.2.2.1) (X := σ.2.2.2.2.1) (FX := σ.2.2.2.2.2.1) (dr := σ.2.2.2.2.2.2.1) (jr := σ.2.2.2.2.2.2.2) hT hk h0 hf0 hO hD (fun τ m q fm d e g => ?_) (fun wr m q fm g => ?_)
    · have t23 : TD m A n := hT.keep (fm 2 1 (by omega)) (fm.row (fun i => by omega))
      obtain ⟨okO, okk⟩ := stClause_ok hO q
      have okl : τ.2.1 = σ.2.1 + 1 := stClause_ln q
      rw [rdR_ok q] at h1 h2
      have okd := okO.2.2.1
      have ok1 := okO.1
      have ok2 := okO.2.1
      refine Rj_aload_n (q := 27) d_Sr_read_26 rfl rfl rfl ?_
      refine Rj_gr (q := 30) (zd := 2) gD_Sr_9_83 rfl rfl d_Sr_read_27 rfl ?_
      refine Rj_vo (q := 33) (z := y_Sp_isSound) (as := []) (rest := []) (la := [vA 2]) oD_2_Sp_isSound ml_Sr_28 mw_Sp_isSound mv_Sp_isSound rfl d_Sr_read_30 rfl rfl rfl rfl rfl ?_
      refine Rj_aload_n (q := 1) d_Sp_isSound_0 rfl rfl rfl ?_
      refine Rj_gi (q := 4) (ki := 3) (v := 0) gD_Sp_28_2 rfl rfl g d_Sp_isSound_1 rfl ?_
      refine Rj_if_ne (q := 7) (t := 11) d_Sp_isSound_4 rfl (by decide) (by decide) (fun c => absurd c (by decide)) (fun _ => ?_)
      refine Rj_iconst (q := 8) d_Sp_isSound_7 rfl ?_
      refine Rj_goto (t := 12) d_Sp_isSound_8 (by decide) ?_
      refine Rj_bret1 d_Sp_isSound_12 rfl ?_
      refine Rj_if_eq (q := 36) (t := 50) d_Sr_read_33 rfl (by decide) (by decide) (fun c => absurd c (by decide)) (fun _ => ?_)
      refine Rj_aload_n (q := 37) d_Sr_read_36 rfl rfl rfl ?_
      refine Rj_gr (q := 40) (zd := 2) gD_Sr_9_83 rfl rfl d_Sr_read_37 rfl ?_
      refine Rj_vo (q := 43) (z := y_Sp_takeClauseBreak) (as := []) (rest := []) (la := [vA 2]) oD_2_Sp_takeClauseBreak ml_Sr_34 mw_Sp_takeClauseBreak mv_Sp_takeClauseBreak rfl d_Sr_read_40 rfl rfl rfl rfl rfl ?_
      refine Rj_aload_n (q := 1) d_Sp_takeClauseBreak_0 rfl rfl rfl ?_
      refine Rj_bipush (q := 3) d_Sp_takeClauseBreak_1 rfl (by decide +kernel) ?_
      refine Rj_vo (q := 6) (z := y_Sp_takeSign) (as := [vI 59]) (rest := []) (la := [vA 2, vI 59]) oD_2_Sp_takeSign ml_Sp_59 mw_Sp_takeSign mv_Sp_takeSign rfl d_Sp_takeClauseBreak_3 rfl rfl rfl rfl rfl ?_
      refine Rj_aload_n (q := 1) d_Sp_takeSign_0 rfl rfl rfl ?_
      refine Rj_vo (q := 4) (z := y_Sp_nextSign) (as := []) (rest := []) (la := [vA 2]) oD_2_Sp_nextSign ml_Sp_31 mw_Sp_nextSign mv_Sp_nextSign rfl d_Sp_takeSign_1 rfl rfl rfl rfl rfl ?_
      refine s_next (μ := m) (A := A) (n := n) (k := τ.1) (t23.keep rfl rfl) e (by omega) ?_
      have r40_3_1 := sk_bd A (n := n) (k := τ.1) (by omega)
      have v40_3_1 := nsV_rng t23 (k := sk A n τ.1) (by omega)
      refine Rj_iload_n (q := 5) d_Sp_takeSign_4 rfl rfl rfl ?_
      refine Rj_icmp_eq (q := 8) (t := 10) d_Sp_takeSign_5 rfl (by decide) (by first | exact ⟨by omega, by omega⟩ | (constructor <;> omega)) (by decide) (fun c40_3_5 => ?_) (fun c40_3_5 => ?_)
      · have hsm := (nsV_eq t23 (by omega) (by decide)).mp c40_3_5
        refine Rj_aload_n (q := 11) d_Sp_takeSign_10 rfl rfl rfl ?_
        refine Rj_dup (q := 12) d_Sp_takeSign_11 rfl (by intro h; cases h) ?_
        refine Rj_gi (q := 15) (ki := 2) (v := sk A n τ.1) gD_Sp_25_2 rfl rfl rfl d_Sp_takeSign_12 rfl ?_
        refine Rj_iconst (q := 16) d_Sp_takeSign_15 rfl ?_
        refine Rj_iadd (q := 17) d_Sp_takeSign_16 rfl ?_
        refine Rj_pi (q := 20) (ki := 2) pD_Sp_25_2 rfl rfl d_Sp_takeSign_17 rfl ?_
        rw [mset_mset]
        refine Rj_iconst (q := 21) d_Sp_takeSign_20 rfl ?_
        refine Rj_bret1 d_Sp_takeSign_21 rfl ?_
        refine Rj_if_eq (q := 9) (t := 11) d_Sp_takeClauseBreak_6 rfl (by decide) (by decide) (fun c => absurd c (by decide)) (fun _ => ?_)
        refine Rj_iconst (q := 10) d_Sp_takeClauseBreak_9 rfl ?_
        refine Rj_bret1 d_Sp_takeClauseBreak_10 rfl ?_
        refine Rj_if_eq (q := 46) (t := 50) d_Sr_read_43 rfl (by decide) (by decide) (fun c => absurd c (by decide)) (fun _ => ?_)
        refine Rj_iconst (q := 47) d_Sr_read_46 rfl ?_
        refine Rj_goto (t := 51) d_Sr_read_47 (by decide) ?_
        refine Rj_istore_n (q := 52) (ls' := [vA 83, vI 1, vI (σ.2.1)]) d_Sr_read_51 rfl rfl (by decide) rfl ?_
        refine Rj_iinc (q := 55) (ls' := [vA 83, vI 1, vI (σ.2.1 + 1)]) d_Sr_read_52 rfl rfl (by decide) rfl ?_
        refine Rj_goto (t := 11) d_Sr_read_55 (by decide) ?_
        refine Rj_iload_n (q := 12) d_Sr_read_11 rfl rfl rfl ?_
        refine Rj_bipush (q := 14) d_Sr_read_12 rfl (by decide +kernel) ?_
        refine Rj_icmp_gt (q := 17) (t := 58) d_Sr_read_14 rfl (by decide) (by first | exact ⟨by omega, by omega⟩ | (constructor <;> omega)) (by decide) (fun c14 => ?_) (fun c14 => ?_)
        · exact absurd c14 (by omega)
        · refine Rj_iload_n (q := 18) d_Sr_read_17 rfl rfl rfl ?_
          refine Rj_if_eq (q := 21) (t := 58) d_Sr_read_18 rfl (by decide) (by decide) (fun c => absurd c (by decide)) (fun _ => ?_)
          rw [stLoop_semi hsm] at h1 h2
          have er : Fr Wrd μ ((mset m 2 2 ((sk A n τ.1) + 1))) := (Fr.put fm (by decide))
          refine Rj_eql (ls' := [vA 83, vI 1, vI τ.2.1]) (by rw [okl]) ?_
          exact ih (μ := (mset m 2 2 ((sk A n τ.1) + 1))) (σ := (sk A n τ.1 + 1, τ.2)) (by dsimp only; omega) (t23.keep rfl rfl) rfl ⟨by dsimp only; omega, by dsimp only; omega⟩ g ⟨⟨by dsimp only; omega, by dsimp only; omega⟩, okO.2⟩ d (fun σ' m2 a b c e2 => h1 σ' m2 a (Fr.trans er b) c e2) (fun w2 m2 a b c => h2 w2 m2 a (Fr.trans er b) c)
      · have hsm : ¬ (sk A n τ.1 < n ∧ A (sk A n τ.1) = 59) := fun h => c40_3_5 ((nsV_eq t23 (by omega) (by decide)).mpr h)
        refine Rj_iconst (q := 9) d_Sp_takeSign_8 rfl ?_
        refine Rj_bret0 d_Sp_takeSign_9 rfl ?_
        refine Rj_if_eq (q := 9) (t := 11) d_Sp_takeClauseBreak_6 rfl (by decide) (by decide) (fun _ => ?_) (fun c => absurd c (by decide))
        refine Rj_aload_n (q := 12) d_Sp_takeClauseBreak_11 rfl rfl rfl ?_
        refine Rj_gi (q := 15) (ki := 2) (v := sk A n τ.1) gD_Sp_25_2 rfl rfl rfl d_Sp_takeClauseBreak_12 rfl ?_
        refine Rj_aload_n (q := 16) d_Sp_takeClauseBreak_15 rfl rfl rfl ?_
        refine Rj_gi (q := 19) (ki := 1) (v := n) gD_Sp_21_2 rfl rfl t23.2.1 d_Sp_takeClauseBreak_16 rfl ?_
        refine Rj_icmp_ge (q := 22) (t := 31) d_Sp_takeClauseBreak_19 rfl (by decide) (by first | exact ⟨by omega, by omega⟩ | (constructor <;> omega)) (by first | exact ⟨by omega, by omega⟩ | (constructor <;> omega)) (fun c40_19 => ?_) (fun c40_19 => ?_)
        · refine Rj_iconst (q := 32) d_Sp_takeClauseBreak_31 rfl ?_
          refine Rj_bret0 d_Sp_takeClauseBreak_32 rfl ?_
          refine Rj_if_eq (q := 46) (t := 50) d_Sr_read_43 rfl (by decide) (by decide) (fun _ => ?_) (fun c => absurd c (by decide))
          refine Rj_iconst (q := 51) d_Sr_read_50 rfl ?_
          refine Rj_istore_n (q := 52) (ls' := [vA 83, vI 0, vI (σ.2.1)]) d_Sr_read_51 rfl rfl (by decide) rfl ?_
          refine Rj_iinc (q := 55) (ls' := [vA 83, vI 0, vI (σ.2.1 + 1)]) d_Sr_read_52 rfl rfl (by decide) rfl ?_
          refine Rj_goto (t := 11) d_Sr_read_55 (by decide) ?_
          refine Rj_iload_n (q := 12) d_Sr_read_11 rfl rfl rfl ?_
          refine Rj_bipush (q := 14) d_Sr_read_12 rfl (by decide +kernel) ?_
          refine Rj_icmp_gt (q := 17) (t := 58) d_Sr_read_14 rfl (by decide) (by first | exact ⟨by omega, by omega⟩ | (constructor <;> omega)) (by decide) (fun c14 => ?_) (fun c14 => ?_)
          · refine Rj_aload_n (q := 59) d_Sr_read_58 rfl rfl rfl ?_
            refine Rj_gr (q := 62) (zd := 12) gD_Sr_15_83 rfl rfl d_Sr_read_59 rfl ?_
            refine Rj_gi (q := 65) (ki := 0) (v := τ.2.2.1) gD_Sr_37_12 rfl rfl d.1 d_Sr_read_62 rfl ?_
            refine Rj_if_ne (q := 68) (t := 83) d_Sr_read_65 rfl (by decide) (by first | exact ⟨by omega, by omega⟩ | (constructor <;> omega)) (fun c65 => ?_) (fun c65 => ?_)
            · refine Rj_vret d_Sr_read_83 rfl ?_
              exact h1 (sk A n τ.1, τ.2) _ (by rw [stLoop_end hsm (by omega), if_neg (by omega)]) (Fr.put fm (by decide)) d g
            · refine Rj_aload_n (q := 69) d_Sr_read_68 rfl rfl rfl ?_
              refine Rj_gr (q := 72) (zd := 2) gD_Sr_9_83 rfl rfl d_Sr_read_69 rfl ?_
              refine Rj_aload_n (q := 73) d_Sr_read_72 rfl rfl rfl ?_
              refine Rj_gr (q := 76) (zd := 2) gD_Sr_9_83 rfl rfl d_Sr_read_73 rfl ?_
              refine Rj_gi (q := 79) (ki := 1) (v := n) gD_Sr_41_2 rfl rfl t23.2.1 d_Sr_read_76 rfl ?_
              refine Rj_iconst (q := 80) d_Sr_read_79 rfl ?_
              refine Rj_vov (q := 83) (z := y_Sp_fail) (as := [vI n, vI 0]) (rest := []) (la := [vA 2, vI n, vI 0]) oD_2_Sp_fail ml_Sr_44 mw_Sp_fail mv_Sp_fail rfl d_Sr_read_80 rfl rfl rfl rfl rfl ?_
              refine Rj_aload_n (q := 1) d_Sp_fail_0 rfl rfl rfl ?_
              refine Rj_gi (q := 4) (ki := 3) (v := 0) gD_Sp_28_2 rfl rfl g d_Sp_fail_1 rfl ?_
              refine Rj_if_ne (q := 7) (t := 19) d_Sp_fail_4 rfl (by decide) (by decide) (fun c => absurd c (by decide)) (fun _ => ?_)
              refine Rj_aload_n (q := 8) d_Sp_fail_7 rfl rfl rfl ?_
              refine Rj_iconst (q := 9) d_Sp_fail_8 rfl ?_
              refine Rj_bipush (q := 11) d_Sp_fail_9 rfl (by decide +kernel) ?_
              refine Rj_iload_n (q := 12) d_Sp_fail_11 rfl rfl rfl ?_
              refine Rj_imul (q := 13) d_Sp_fail_12 rfl ?_
              refine Rj_iadd (q := 14) d_Sp_fail_13 rfl ?_
              refine Rj_iload_n (q := 15) d_Sp_fail_14 rfl rfl rfl ?_
              refine Rj_iadd (q := 16) d_Sp_fail_15 rfl ?_
              refine Rj_pi (q := 19) (ki := 3) pD_Sp_28_2 rfl rfl d_Sp_fail_16 rfl ?_
              refine Rj_vret d_Sp_fail_19 rfl ?_
              refine Rj_vret d_Sr_read_83 rfl ?_
              exact h2 (1 + 8 * sk A n τ.1 + 0) _ (by rw [stLoop_end hsm (by omega), if_pos (by omega)]) (Fr.put (Fr.put fm (by decide)) (by decide)) (show ((1 + (8 * n)) + 0 : Int) = _ by omega)
          · refine Rj_iload_n (q := 18) d_Sr_read_17 rfl rfl rfl ?_
            refine Rj_if_eq (q := 21) (t := 58) d_Sr_read_18 rfl (by decide) (by decide) (fun _ => ?_) (fun c => absurd c (by decide))
            refine Rj_aload_n (q := 59) d_Sr_read_58 rfl rfl rfl ?_
            refine Rj_gr (q := 62) (zd := 12) gD_Sr_15_83 rfl rfl d_Sr_read_59 rfl ?_
            refine Rj_gi (q := 65) (ki := 0) (v := τ.2.2.1) gD_Sr_37_12 rfl rfl d.1 d_Sr_read_62 rfl ?_
            refine Rj_if_ne (q := 68) (t := 83) d_Sr_read_65 rfl (by decide) (by first | exact ⟨by omega, by omega⟩ | (constructor <;> omega)) (fun c65 => ?_) (fun c65 => ?_)
            · refine Rj_vret d_Sr_read_83 rfl ?_
              exact h1 (sk A n τ.1, τ.2) _ (by rw [stLoop_end hsm (by omega), if_neg (by omega)]) (Fr.put fm (by decide)) d g
            · refine Rj_aload_n (q := 69) d_Sr_read_68 rfl rfl rfl ?_
              refine Rj_gr (q := 72) (zd := 2) gD_Sr_9_83 rfl rfl d_Sr_read_69 rfl ?_
              refine Rj_aload_n (q := 73) d_Sr_read_72 rfl rfl rfl ?_
              refine Rj_gr (q := 76) (zd := 2) gD_Sr_9_83 rfl rfl d_Sr_read_73 rfl ?_
              refine Rj_gi (q := 79) (ki := 1) (v := n) gD_Sr_41_2 rfl rfl t23.2.1 d_Sr_read_76 rfl ?_
              refine Rj_iconst (q := 80) d_Sr_read_79 rfl ?_
              refine Rj_vov (q := 83) (z := y_Sp_fail) (as := [vI n, vI 0]) (rest := []) (la := [vA 2, vI n, vI 0]) oD_2_Sp_fail ml_Sr_44 mw_Sp_fail mv_Sp_fail rfl d_Sr_read_80 rfl rfl rfl rfl rfl ?_
              refine Rj_aload_n (q := 1) d_Sp_fail_0 rfl rfl rfl ?_
              refine Rj_gi (q := 4) (ki := 3) (v := 0) gD_Sp_28_2 rfl rfl g d_Sp_fail_1 rfl ?_
              refine Rj_if_ne (q := 7) (t := 19) d_Sp_fail_4 rfl (by decide) (by decide) (fun c => absurd c (by decide)) (fun _ => ?_)
              refine Rj_aload_n (q := 8) d_Sp_fail_7 rfl rfl rfl ?_
              refine Rj_iconst (q := 9) d_Sp_fail_8 rfl ?_
              refine Rj_bipush (q := 11) d_Sp_fail_9 rfl (by decide +kernel) ?_
              refine Rj_iload_n (q := 12) d_Sp_fail_11 rfl rfl rfl ?_
              refine Rj_imul (q := 13) d_Sp_fail_12 rfl ?_
              refine Rj_iadd (q := 14) d_Sp_fail_13 rfl ?_
              refine Rj_iload_n (q := 15) d_Sp_fail_14 rfl rfl rfl ?_
              refine Rj_iadd (q := 16) d_Sp_fail_15 rfl ?_
              refine Rj_pi (q := 19) (ki := 3) pD_Sp_28_2 rfl rfl d_Sp_fail_16 rfl ?_
              refine Rj_vret d_Sp_fail_19 rfl ?_
              refine Rj_vret d_Sr_read_83 rfl ?_
              exact h2 (1 + 8 * sk A n τ.1 + 0) _ (by rw [stLoop_end hsm (by omega), if_pos (by omega)]) (Fr.put (Fr.put fm (by decide)) (by decide)) (show ((1 + (8 * n)) + 0 : Int) = _ by omega)
        · refine Rj_aload_n (q := 23) d_Sp_takeClauseBreak_22 rfl rfl rfl ?_
          refine Rj_aload_n (q := 24) d_Sp_takeClauseBreak_23 rfl rfl rfl ?_
          refine Rj_gi (q := 27) (ki := 2) (v := sk A n τ.1) gD_Sp_25_2 rfl rfl rfl d_Sp_takeClauseBreak_24 rfl ?_
          refine Rj_iconst (q := 28) d_Sp_takeClauseBreak_27 rfl ?_
          refine Rj_vov (q := 31) (z := y_Sp_fail) (as := [vI (sk A n τ.1), vI 0]) (rest := []) (la := [vA 2, vI (sk A n τ.1), vI 0]) oD_2_Sp_fail ml_Sp_55 mw_Sp_fail mv_Sp_fail rfl d_Sp_takeClauseBreak_28 rfl rfl rfl rfl rfl ?_
          refine Rj_aload_n (q := 1) d_Sp_fail_0 rfl rfl rfl ?_
          refine Rj_gi (q := 4) (ki := 3) (v := 0) gD_Sp_28_2 rfl rfl g d_Sp_fail_1 rfl ?_
          refine Rj_if_ne (q := 7) (t := 19) d_Sp_fail_4 rfl (by decide) (by decide) (fun c => absurd c (by decide)) (fun _ => ?_)
          refine Rj_aload_n (q := 8) d_Sp_fail_7 rfl rfl rfl ?_
          refine Rj_iconst (q := 9) d_Sp_fail_8 rfl ?_
          refine Rj_bipush (q := 11) d_Sp_fail_9 rfl (by decide +kernel) ?_
          refine Rj_iload_n (q := 12) d_Sp_fail_11 rfl rfl rfl ?_
          refine Rj_imul (q := 13) d_Sp_fail_12 rfl ?_
          refine Rj_iadd (q := 14) d_Sp_fail_13 rfl ?_
          refine Rj_iload_n (q := 15) d_Sp_fail_14 rfl rfl rfl ?_
          refine Rj_iadd (q := 16) d_Sp_fail_15 rfl ?_
          refine Rj_pi (q := 19) (ki := 3) pD_Sp_28_2 rfl rfl d_Sp_fail_16 rfl ?_
          refine Rj_vret d_Sp_fail_19 rfl ?_
          refine Rj_iconst (q := 32) d_Sp_takeClauseBreak_31 rfl ?_
          refine Rj_bret0 d_Sp_takeClauseBreak_32 rfl ?_
          refine Rj_if_eq (q := 46) (t := 50) d_Sr_read_43 rfl (by decide) (by decide) (fun _ => ?_) (fun c => absurd c (by decide))
          refine Rj_iconst (q := 51) d_Sr_read_50 rfl ?_
          refine Rj_istore_n (q := 52) (ls' := [vA 83, vI 0, vI (σ.2.1)]) d_Sr_read_51 rfl rfl (by decide) rfl ?_
          refine Rj_iinc (q := 55) (ls' := [vA 83, vI 0, vI (σ.2.1 + 1)]) d_Sr_read_52 rfl rfl (by decide) rfl ?_
          refine Rj_goto (t := 11) d_Sr_read_55 (by decide) ?_
          refine Rj_iload_n (q := 12) d_Sr_read_11 rfl rfl rfl ?_
          refine Rj_bipush (q := 14) d_Sr_read_12 rfl (by decide +kernel) ?_
          refine Rj_icmp_gt (q := 17) (t := 58) d_Sr_read_14 rfl (by decide) (by first | exact ⟨by omega, by omega⟩ | (constructor <;> omega)) (by decide) (fun c14 => ?_) (fun c14 => ?_)
          · refine Rj_aload_n (q := 59) d_Sr_read_58 rfl rfl rfl ?_
            refine Rj_gr (q := 62) (zd := 12) gD_Sr_15_83 rfl rfl d_Sr_read_59 rfl ?_
            refine Rj_gi (q := 65) (ki := 0) (v := τ.2.2.1) gD_Sr_37_12 rfl rfl d.1 d_Sr_read_62 rfl ?_
            refine Rj_if_ne (q := 68) (t := 83) d_Sr_read_65 rfl (by decide) (by first | exact ⟨by omega, by omega⟩ | (constructor <;> omega)) (fun c65 => ?_) (fun c65 => ?_)
            · refine Rj_vret d_Sr_read_83 rfl ?_
              exact h2 (1 + 8 * sk A n τ.1 + 0) _ (stLoop_bad2 hsm (by omega)) (Fr.put (Fr.put fm (by decide)) (by decide)) rfl
            · refine Rj_aload_n (q := 69) d_Sr_read_68 rfl rfl rfl ?_
              refine Rj_gr (q := 72) (zd := 2) gD_Sr_9_83 rfl rfl d_Sr_read_69 rfl ?_
              refine Rj_aload_n (q := 73) d_Sr_read_72 rfl rfl rfl ?_
              refine Rj_gr (q := 76) (zd := 2) gD_Sr_9_83 rfl rfl d_Sr_read_73 rfl ?_
              refine Rj_gi (q := 79) (ki := 1) (v := n) gD_Sr_41_2 rfl rfl t23.2.1 d_Sr_read_76 rfl ?_
              refine Rj_iconst (q := 80) d_Sr_read_79 rfl ?_
              refine Rj_vov (q := 83) (z := y_Sp_fail) (as := [vI n, vI 0]) (rest := []) (la := [vA 2, vI n, vI 0]) oD_2_Sp_fail ml_Sr_44 mw_Sp_fail mv_Sp_fail rfl d_Sr_read_80 rfl rfl rfl rfl rfl ?_
              refine Rj_aload_n (q := 1) d_Sp_fail_0 rfl rfl rfl ?_
              refine Rj_gi (q := 4) (ki := 3) (v := (1 + (8 * (sk A n τ.1))) + 0) gD_Sp_28_2 rfl rfl rfl d_Sp_fail_1 rfl ?_
              refine Rj_if_ne (q := 7) (t := 19) d_Sp_fail_4 rfl (by decide) (by first | exact ⟨by omega, by omega⟩ | (constructor <;> omega)) (fun c80_4 => ?_) (fun c80_4 => ?_)
              · refine Rj_vret d_Sp_fail_19 rfl ?_
                refine Rj_vret d_Sr_read_83 rfl ?_
                exact h2 (1 + 8 * sk A n τ.1 + 0) _ (stLoop_bad2 hsm (by omega)) (Fr.put (Fr.put fm (by decide)) (by decide)) rfl
              · exact absurd c80_4 (by omega)
          · refine Rj_iload_n (q := 18) d_Sr_read_17 rfl rfl rfl ?_
            refine Rj_if_eq (q := 21) (t := 58) d_Sr_read_18 rfl (by decide) (by decide) (fun _ => ?_) (fun c => absurd c (by decide))
            refine Rj_aload_n (q := 59) d_Sr_read_58 rfl rfl rfl ?_
            refine Rj_gr (q := 62) (zd := 12) gD_Sr_15_83 rfl rfl d_Sr_read_59 rfl ?_
            refine Rj_gi (q := 65) (ki := 0) (v := τ.2.2.1) gD_Sr_37_12 rfl rfl d.1 d_Sr_read_62 rfl ?_
            refine Rj_if_ne (q := 68) (t := 83) d_Sr_read_65 rfl (by decide) (by first | exact ⟨by omega, by omega⟩ | (constructor <;> omega)) (fun c65 => ?_) (fun c65 => ?_)
            · refine Rj_vret d_Sr_read_83 rfl ?_
              exact h2 (1 + 8 * sk A n τ.1 + 0) _ (stLoop_bad2 hsm (by omega)) (Fr.put (Fr.put fm (by decide)) (by decide)) rfl
            · refine Rj_aload_n (q := 69) d_Sr_read_68 rfl rfl rfl ?_
              refine Rj_gr (q := 72) (zd := 2) gD_Sr_9_83 rfl rfl d_Sr_read_69 rfl ?_
              refine Rj_aload_n (q := 73) d_Sr_read_72 rfl rfl rfl ?_
              refine Rj_gr (q := 76) (zd := 2) gD_Sr_9_83 rfl rfl d_Sr_read_73 rfl ?_
              refine Rj_gi (q := 79) (ki := 1) (v := n) gD_Sr_41_2 rfl rfl t23.2.1 d_Sr_read_76 rfl ?_
              refine Rj_iconst (q := 80) d_Sr_read_79 rfl ?_
              refine Rj_vov (q := 83) (z := y_Sp_fail) (as := [vI n, vI 0]) (rest := []) (la := [vA 2, vI n, vI 0]) oD_2_Sp_fail ml_Sr_44 mw_Sp_fail mv_Sp_fail rfl d_Sr_read_80 rfl rfl rfl rfl rfl ?_
              refine Rj_aload_n (q := 1) d_Sp_fail_0 rfl rfl rfl ?_
              refine Rj_gi (q := 4) (ki := 3) (v := (1 + (8 * (sk A n τ.1))) + 0) gD_Sp_28_2 rfl rfl rfl d_Sp_fail_1 rfl ?_
              refine Rj_if_ne (q := 7) (t := 19) d_Sp_fail_4 rfl (by decide) (by first | exact ⟨by omega, by omega⟩ | (constructor <;> omega)) (fun c80_4 => ?_) (fun c80_4 => ?_)
              · refine Rj_vret d_Sp_fail_19 rfl ?_
                refine Rj_vret d_Sr_read_83 rfl ?_
                exact h2 (1 + 8 * sk A n τ.1 + 0) _ (stLoop_bad2 hsm (by omega)) (Fr.put (Fr.put fm (by decide)) (by decide)) rfl
              · exact absurd c80_4 (by omega)
    · have t23 : TD m A n := hT.keep (fm 2 1 (by omega)) (fm.row (fun i => by omega))
      have bw := stClause_err hO q
      have brr := rdR_er (f := f + 1) q
      have b12 : m 12 0 = σ.2.2.1 := (fm 12 0 (by unfold Wsc; omega)).trans hD.1
      refine Rj_aload_n (q := 27) d_Sr_read_26 rfl rfl rfl ?_
      refine Rj_gr (q := 30) (zd := 2) gD_Sr_9_83 rfl rfl d_Sr_read_27 rfl ?_
      refine Rj_vo (q := 33) (z := y_Sp_isSound) (as := []) (rest := []) (la := [vA 2]) oD_2_Sp_isSound ml_Sr_28 mw_Sp_isSound mv_Sp_isSound rfl d_Sr_read_30 rfl rfl rfl rfl rfl ?_
      refine Rj_aload_n (q := 1) d_Sp_isSound_0 rfl rfl rfl ?_
      refine Rj_gi (q := 4) (ki := 3) (v := wr) gD_Sp_28_2 rfl rfl g d_Sp_isSound_1 rfl ?_
      refine Rj_if_ne (q := 7) (t := 11) d_Sp_isSound_4 rfl (by decide) (by first | exact ⟨by omega, by omega⟩ | (constructor <;> omega)) (fun c30_4 => ?_) (fun c30_4 => ?_)
      · refine Rj_iconst (q := 12) d_Sp_isSound_11 rfl ?_
        refine Rj_bret0 d_Sp_isSound_12 rfl ?_
        refine Rj_if_eq (q := 36) (t := 50) d_Sr_read_33 rfl (by decide) (by decide) (fun _ => ?_) (fun c => absurd c (by decide))
        refine Rj_iconst (q := 51) d_Sr_read_50 rfl ?_
        refine Rj_istore_n (q := 52) (ls' := [vA 83, vI 0, vI (σ.2.1)]) d_Sr_read_51 rfl rfl (by decide) rfl ?_
        refine Rj_iinc (q := 55) (ls' := [vA 83, vI 0, vI (σ.2.1 + 1)]) d_Sr_read_52 rfl rfl (by decide) rfl ?_
        refine Rj_goto (t := 11) d_Sr_read_55 (by decide) ?_
        refine Rj_iload_n (q := 12) d_Sr_read_11 rfl rfl rfl ?_
        refine Rj_bipush (q := 14) d_Sr_read_12 rfl (by decide +kernel) ?_
        refine Rj_icmp_gt (q := 17) (t := 58) d_Sr_read_14 rfl (by decide) (by first | exact ⟨by omega, by omega⟩ | (constructor <;> omega)) (by decide) (fun c14 => ?_) (fun c14 => ?_)
        · refine Rj_aload_n (q := 59) d_Sr_read_58 rfl rfl rfl ?_
          refine Rj_gr (q := 62) (zd := 12) gD_Sr_15_83 rfl rfl d_Sr_read_59 rfl ?_
          refine Rj_gi (q := 65) (ki := 0) (v := σ.2.2.1) gD_Sr_37_12 rfl rfl b12 d_Sr_read_62 rfl ?_
          refine Rj_if_ne (q := 68) (t := 83) d_Sr_read_65 rfl (by decide) (by first | exact ⟨by omega, by omega⟩ | (constructor <;> omega)) (fun c65 => ?_) (fun c65 => ?_)
          · refine Rj_vret d_Sr_read_83 rfl ?_
            exact h2 wr m brr (Fr.wide fm wd_sc_rd) g
          · refine Rj_aload_n (q := 69) d_Sr_read_68 rfl rfl rfl ?_
            refine Rj_gr (q := 72) (zd := 2) gD_Sr_9_83 rfl rfl d_Sr_read_69 rfl ?_
            refine Rj_aload_n (q := 73) d_Sr_read_72 rfl rfl rfl ?_
            refine Rj_gr (q := 76) (zd := 2) gD_Sr_9_83 rfl rfl d_Sr_read_73 rfl ?_
            refine Rj_gi (q := 79) (ki := 1) (v := n) gD_Sr_41_2 rfl rfl t23.2.1 d_Sr_read_76 rfl ?_
            refine Rj_iconst (q := 80) d_Sr_read_79 rfl ?_
            refine Rj_vov (q := 83) (z := y_Sp_fail) (as := [vI n, vI 0]) (rest := []) (la := [vA 2, vI n, vI 0]) oD_2_Sp_fail ml_Sr_44 mw_Sp_fail mv_Sp_fail rfl d_Sr_read_80 rfl rfl rfl rfl rfl ?_
            refine Rj_aload_n (q := 1) d_Sp_fail_0 rfl rfl rfl ?_
            refine Rj_gi (q := 4) (ki := 3) (v := wr) gD_Sp_28_2 rfl rfl g d_Sp_fail_1 rfl ?_
            refine Rj_if_ne (q := 7) (t := 19) d_Sp_fail_4 rfl (by decide) (by first | exact ⟨by omega, by omega⟩ | (constructor <;> omega)) (fun c80_4 => ?_) (fun c80_4 => ?_)
            · refine Rj_vret d_Sp_fail_19 rfl ?_
              refine Rj_vret d_Sr_read_83 rfl ?_
              exact h2 wr m brr (Fr.wide fm wd_sc_rd) g
            · exact absurd c80_4 (by omega)
        · refine Rj_iload_n (q := 18) d_Sr_read_17 rfl rfl rfl ?_
          refine Rj_if_eq (q := 21) (t := 58) d_Sr_read_18 rfl (by decide) (by decide) (fun _ => ?_) (fun c => absurd c (by decide))
          refine Rj_aload_n (q := 59) d_Sr_read_58 rfl rfl rfl ?_
          refine Rj_gr (q := 62) (zd := 12) gD_Sr_15_83 rfl rfl d_Sr_read_59 rfl ?_
          refine Rj_gi (q := 65) (ki := 0) (v := σ.2.2.1) gD_Sr_37_12 rfl rfl b12 d_Sr_read_62 rfl ?_
          refine Rj_if_ne (q := 68) (t := 83) d_Sr_read_65 rfl (by decide) (by first | exact ⟨by omega, by omega⟩ | (constructor <;> omega)) (fun c65 => ?_) (fun c65 => ?_)
          · refine Rj_vret d_Sr_read_83 rfl ?_
            exact h2 wr m brr (Fr.wide fm wd_sc_rd) g
          · refine Rj_aload_n (q := 69) d_Sr_read_68 rfl rfl rfl ?_
            refine Rj_gr (q := 72) (zd := 2) gD_Sr_9_83 rfl rfl d_Sr_read_69 rfl ?_
            refine Rj_aload_n (q := 73) d_Sr_read_72 rfl rfl rfl ?_
            refine Rj_gr (q := 76) (zd := 2) gD_Sr_9_83 rfl rfl d_Sr_read_73 rfl ?_
            refine Rj_gi (q := 79) (ki := 1) (v := n) gD_Sr_41_2 rfl rfl t23.2.1 d_Sr_read_76 rfl ?_
            refine Rj_iconst (q := 80) d_Sr_read_79 rfl ?_
            refine Rj_vov (q := 83) (z := y_Sp_fail) (as := [vI n, vI 0]) (rest := []) (la := [vA 2, vI n, vI 0]) oD_2_Sp_fail ml_Sr_44 mw_Sp_fail mv_Sp_fail rfl d_Sr_read_80 rfl rfl rfl rfl rfl ?_
            refine Rj_aload_n (q := 1) d_Sp_fail_0 rfl rfl rfl ?_
            refine Rj_gi (q := 4) (ki := 3) (v := wr) gD_Sp_28_2 rfl rfl g d_Sp_fail_1 rfl ?_
            refine Rj_if_ne (q := 7) (t := 19) d_Sp_fail_4 rfl (by decide) (by first | exact ⟨by omega, by omega⟩ | (constructor <;> omega)) (fun c80_4 => ?_) (fun c80_4 => ?_)
            · refine Rj_vret d_Sp_fail_19 rfl ?_
              refine Rj_vret d_Sr_read_83 rfl ?_
              exact h2 wr m brr (Fr.wide fm wd_sc_rd) g
            · exact absurd c80_4 (by omega)
      · exact absurd c30_4 (by omega)
