theorem oM_0_M_isLetter : OI YM 0 y_M_isLetter := ⟨by decide, _, _, _, cM_0, rfl⟩
theorem oM_0_M_see : OI YM 0 y_M_see := ⟨by decide, _, _, _, cM_0, rfl⟩
theorem oM_0_M_isWord : OI YM 0 y_M_isWord := ⟨by decide, _, _, _, cM_0, rfl⟩
theorem oM_0_M_passWord : OI YM 0 y_M_passWord := ⟨by decide, _, _, _, cM_0, rfl⟩
theorem gM_M_107_0 : GI YM "DoorsOnCogsModel" 107 0 14 none := ⟨by decide, _, _, _, fl_M_107, cM_0, by decide, rfl⟩
theorem pM_M_107_0 : PI YM "DoorsOnCogsModel" 107 0 14 none .int := ⟨by decide, _, _, _, fl_M_107, fp_10_14, cM_0, by decide, rfl⟩
theorem oM_0_M_isDigit : OI YM 0 y_M_isDigit := ⟨by decide, _, _, _, cM_0, rfl⟩
theorem pM_M_135_0 : PI YM "DoorsOnCogsModel" 135 0 15 none .int := ⟨by decide, _, _, _, fl_M_135, fp_10_15, cM_0, by decide, rfl⟩
theorem oM_0_M_fails : OI YM 0 y_M_fails := ⟨by decide, _, _, _, cM_0, rfl⟩
/-! the reference: words, numbers, faults -/
set_option maxHeartbeats 4000000 in
theorem s_M_isWord_l : ∀ (f : Nat) {μ : Mem} {Q : PV → Mem → Prop} {A : Int → Int} {n k : Int} {w v c : Int}, ((n - (k + c)).toNat < f) → (TX A n) → (μ 1 = A) → (μ 0 1 = n) → (μ 0 13 = k) → (0 ≤ k ∧ k ≤ n) → (i64 w) → (0 ≤ c ∧ k + c ≤ lend A n k) → (v = lval A k (if c < 8 then c.toNat else 8)) → (Q (vI (bI (wat A n k w))) μ) → Rj YM y_M_isWord 10 [vA 0, vL w, vU, vL v, vU, vI c] [] μ Q := by
  intro f
  induction f with
  | zero => intro μ Q A n k w v c hf hX hA hn hk h0 hw hc hv hQ; exact absurd hf (by omega)
  | succ f ih =>
    intro μ Q A n k w v c hf hX hA hn hk h0 hw hc hv hQ
    subst hA; subst hn; subst hk
    obtain ⟨hX1, hX2⟩ := id hX
    have hle := lend_bd (μ 1) (n := μ 0 1) (k := μ 0 13) h0.2
    have hlb := lval_bd (A := μ 1) (n := μ 0 1) (k := μ 0 13) rfl
    have hv0 : 0 ≤ v ∧ v ≤ 9223372036854775807 := by
      rw [hv]
      have := hlb (if c < 8 then c.toNat else 8) (by split <;> omega)
      refine ⟨this.1, ?_⟩
      have h2 : (256 : Int) ^ (if c < 8 then c.toNat else 8) ≤ 256 ^ 8 := pow256 (by split <;> omega)
      omega
    refine Rj_aload_n (q := 11) d_M_isWord_10 rfl rfl rfl ?_
    refine Rj_aload_n (q := 12) d_M_isWord_11 rfl rfl rfl ?_
    refine Rj_gi (q := 15) (ki := 13) (v := μ 0 13) gM_M_110_0 rfl rfl rfl d_M_isWord_12 rfl ?_
    refine Rj_iload (q := 17) d_M_isWord_15 rfl rfl ?_
    refine Rj_iadd (q := 18) d_M_isWord_17 rfl ?_
    refine Rj_vo (q := 21) (z := y_M_isLetter) (as := [vI ((μ 0 13) + c)]) (rest := []) (la := [vA 0, vI ((μ 0 13) + c)]) oM_0_M_isLetter ml_M_117 mw_M_isLetter mv_M_isLetter rfl d_M_isWord_18 rfl rfl rfl rfl rfl ?_
    refine s_M_isLetter (μ := μ) (A := (μ 1)) (n := (μ 0 1)) (k := (μ 0 13) + c) hX rfl rfl (by omega) ?_
    refine Rj_b_eq (q := 24) (t := 56) d_M_isWord_21 rfl (by decide) (fun c21 => ?_) (fun c21 => ?_)
    · have he : lend (μ 1) (μ 0 1) (μ 0 13) = μ 0 13 + c := by
        rcases Int.lt_or_le (μ 0 13 + c) (lend (μ 1) (μ 0 1) (μ 0 13)) with h | h
        · have := rn_all (p := isLt (μ 1)) (n := μ 0 1) (k := μ 0 13) (j := μ 0 13 + c) (by omega) h
          simp only [decide_eq_false_iff_not] at c21
          exact absurd this c21
        · omega
      have hwt : wat (μ 1) (μ 0 1) (μ 0 13) w = decide (0 < c ∧ c < 8 ∧ lval (μ 1) (μ 0 13) c.toNat = w) := by
        unfold wat
        rw [he, show μ 0 13 + c - μ 0 13 = c by omega]
      rw [hwt] at hQ
      refine Rj_iload (q := 58) d_M_isWord_56 rfl rfl ?_
      refine Rj_if_le (q := 61) (t := 78) d_M_isWord_58 rfl (by decide) (by first | exact ⟨by omega, by omega⟩ | (have := hX2 (μ 0 13 + c) (by omega) (by omega); constructor <;> omega)) (fun c58 => ?_) (fun c58 => ?_)
      · refine Rj_iconst (q := 79) d_M_isWord_78 rfl ?_
        refine Rj_bret0 d_M_isWord_79 rfl ?_
        exact fin_I hQ (bF (by first | omega | (rw [hv, if_pos (by omega)] at c70; exact fun h => c70 h.2.2)))
      · refine Rj_iload (q := 63) d_M_isWord_61 rfl rfl ?_
        refine Rj_bipush (q := 65) d_M_isWord_63 rfl (by decide +kernel) ?_
        refine Rj_icmp_ge (q := 68) (t := 78) d_M_isWord_65 rfl (by decide) (by first | exact ⟨by omega, by omega⟩ | (have := hX2 (μ 0 13 + c) (by omega) (by omega); constructor <;> omega)) (by decide) (fun c65 => ?_) (fun c65 => ?_)
        · refine Rj_iconst (q := 79) d_M_isWord_78 rfl ?_
          refine Rj_bret0 d_M_isWord_79 rfl ?_
          exact fin_I hQ (bF (by first | omega | (rw [hv, if_pos (by omega)] at c70; exact fun h => c70 h.2.2)))
        · refine Rj_lload_n (q := 69) d_M_isWord_68 rfl rfl rfl ?_
          refine Rj_lload_n (q := 70) d_M_isWord_69 rfl rfl rfl ?_
          refine Rj_lc_ne (q := 71) (q2 := 74) (t := 78) d_M_isWord_70 rfl d_M_isWord_71 rfl (by decide) ⟨by omega, by omega⟩ ⟨by omega, by omega⟩ (fun c70 => ?_) (fun c70 => ?_)
          · refine Rj_iconst (q := 79) d_M_isWord_78 rfl ?_
            refine Rj_bret0 d_M_isWord_79 rfl ?_
            exact fin_I hQ (bF (by first | omega | (rw [hv, if_pos (by omega)] at c70; exact fun h => c70 h.2.2)))
          · refine Rj_iconst (q := 75) d_M_isWord_74 rfl ?_
            refine Rj_goto (t := 79) d_M_isWord_75 (by decide) ?_
            refine Rj_bret1 d_M_isWord_79 rfl ?_
            exact fin_I hQ (bT (by rw [hv, if_pos (by omega)] at c70; exact ⟨by omega, by omega, c70⟩))
    · simp only [decide_eq_true_eq] at c21
      refine Rj_iload (q := 26) d_M_isWord_24 rfl rfl ?_
      refine Rj_bipush (q := 28) d_M_isWord_26 rfl (by decide +kernel) ?_
      refine Rj_icmp_ge (q := 31) (t := 50) d_M_isWord_28 rfl (by decide) (by first | exact ⟨by omega, by omega⟩ | (have := hX2 (μ 0 13 + c) (by omega) (by omega); constructor <;> omega)) (by decide) (fun c28 => ?_) (fun c28 => ?_)
      · refine Rj_iinc (q := 53) (ls' := [vA 0, vL w, vU, vL v, vU, vI (c + 1)]) d_M_isWord_50 rfl rfl (by decide) rfl ?_
        refine Rj_goto (t := 10) d_M_isWord_53 (by decide) ?_
        have hn1 : μ 0 13 + (c + 1) ≤ lend (μ 1) (μ 0 1) (μ 0 13) := by
          rcases Int.lt_or_le (μ 0 13 + c) (lend (μ 1) (μ 0 1) (μ 0 13)) with h | h
          · omega
          · have he : lend (μ 1) (μ 0 1) (μ 0 13) = μ 0 13 + c := by omega
            have := rn_end (isLt (μ 1)) (μ 0 1) (μ 0 13)
            rw [show rn (isLt (μ 1)) (μ 0 1) (μ 0 13) = μ 0 13 + c from he] at this
            exact absurd ⟨c21.1, by simpa using c21.2⟩ this
        exact ih (by omega) hX rfl rfl rfl h0 hw ⟨by omega, hn1⟩ (by rw [hv, if_neg (by omega), if_neg (by omega)]) hQ
      · have hv55 : v < 36028797018963968 := by
          rw [hv, if_pos (by omega)]
          have := hlb c.toNat (by omega)
          have h2 : (256 : Int) ^ c.toNat ≤ 256 ^ 7 := pow256 (by omega)
          omega
        refine Rj_lload_n (q := 32) d_M_isWord_31 rfl rfl rfl ?_
        refine Rj_bipush (q := 34) d_M_isWord_32 rfl (by decide +kernel) ?_
        refine Rj_lshl (q := 35) (z := v * 256) d_M_isWord_34 rfl (zl_shl_8 (by omega) hv55) ?_
        refine Rj_aload_n (q := 36) d_M_isWord_35 rfl rfl rfl ?_
        refine Rj_gr (q := 39) (zd := 1) gM_M_7_0 rfl rfl d_M_isWord_36 rfl ?_
        refine Rj_aload_n (q := 40) d_M_isWord_39 rfl rfl rfl ?_
        refine Rj_gi (q := 43) (ki := 13) (v := μ 0 13) gM_M_110_0 rfl rfl rfl d_M_isWord_40 rfl ?_
        refine Rj_iload (q := 45) d_M_isWord_43 rfl rfl ?_
        refine Rj_iadd (q := 46) d_M_isWord_45 rfl ?_
        refine Rj_ba (q := 47) (v := μ 1 ((μ 0 13) + c)) aM_1 rfl (by omega) rfl d_M_isWord_46 rfl ?_
        refine Rj_i2l (q := 48) d_M_isWord_47 rfl (by first | exact ⟨by omega, by omega⟩ | (have := hX2 (μ 0 13 + c) (by omega) (by omega); constructor <;> omega)) ?_
        refine Rj_lor (q := 49) (z := 256 * v + μ 1 (μ 0 13 + c)) d_M_isWord_48 rfl (zl_or_b (by omega) hv55 (by omega) (by omega)) ?_
        refine Rj_lstore_n (q := 50) (ls' := [vA 0, vL w, vU, vL (256 * v + μ 1 (μ 0 13 + c)), vU, vI c]) d_M_isWord_49 rfl rfl (by decide) rfl ?_
        refine Rj_iinc (q := 53) (ls' := [vA 0, vL w, vU, vL (256 * v + μ 1 (μ 0 13 + c)), vU, vI (c + 1)]) d_M_isWord_50 rfl rfl (by decide) rfl ?_
        refine Rj_goto (t := 10) d_M_isWord_53 (by decide) ?_
        have hn1 : μ 0 13 + (c + 1) ≤ lend (μ 1) (μ 0 1) (μ 0 13) := by
          rcases Int.lt_or_le (μ 0 13 + c) (lend (μ 1) (μ 0 1) (μ 0 13)) with h | h
          · omega
          · have he : lend (μ 1) (μ 0 1) (μ 0 13) = μ 0 13 + c := by omega
            have := rn_end (isLt (μ 1)) (μ 0 1) (μ 0 13)
            rw [show rn (isLt (μ 1)) (μ 0 1) (μ 0 13) = μ 0 13 + c from he] at this
            exact absurd ⟨c21.1, by simpa using c21.2⟩ this
        exact ih (by omega) hX rfl rfl rfl h0 hw ⟨by omega, hn1⟩ (by
          rw [if_pos (by omega)] at hv
          by_cases h7 : c + 1 < 8
          · rw [if_pos h7, show (c + 1).toNat = c.toNat + 1 by omega]
            show _ = 256 * lval (μ 1) (μ 0 13) c.toNat + μ 1 (μ 0 13 + (c.toNat : Int))
            rw [← hv, show (c.toNat : Int) = c by omega]
          · rw [if_neg h7, show (8 : Nat) = c.toNat + 1 by omega]
            show _ = 256 * lval (μ 1) (μ 0 13) c.toNat + μ 1 (μ 0 13 + (c.toNat : Int))
            rw [← hv, show (c.toNat : Int) = c by omega]) hQ
set_option maxHeartbeats 4000000 in
theorem s_M_isWord {μ : Mem} {Q : PV → Mem → Prop} {A : Int → Int} {n : Int} (hX : TX A n) (hA : μ 1 = A) (hn : μ 0 1 = n) {k : Int} (hk : μ 0 13 = k) (h0 : 0 ≤ k ∧ k ≤ n) {w : Int} (hw : i64 w) (hQ : Q (vI (bI (wat A n (sk A n k) w))) (mset μ 0 13 (sk A n k))) : Rj YM y_M_isWord 0 [vA 0, vL w] [] μ Q := by
  subst hk
  obtain ⟨hX1, hX2⟩ := id hX
  refine Rj_aload_n (q := 1) d_M_isWord_0 rfl rfl rfl ?_
  refine Rj_vo (q := 4) (z := y_M_see) (as := []) (rest := []) (la := [vA 0]) oM_0_M_see ml_M_113 mw_M_see mv_M_see rfl d_M_isWord_1 rfl rfl rfl rfl rfl ?_
  refine s_M_see (μ := μ) (A := A) (n := n) (k := μ 0 13) hX hA hn rfl (by omega) ?_
  have r1 := sk_bd A (n := n) (k := μ 0 13) (by omega)
  refine Rj_pop (q := 5) d_M_isWord_4 rfl (by intro h; cases h) ?_
  refine Rj_lconst (q := 6) (z := 0) d_M_isWord_5 rfl rfl ?_
  refine Rj_lstore_n (q := 7) (ls' := [vA 0, vL w, vU, vL 0, vU]) d_M_isWord_6 rfl rfl (by decide) rfl ?_
  refine Rj_iconst (q := 8) d_M_isWord_7 rfl ?_
  refine Rj_istore (q := 10) (ls' := [vA 0, vL w, vU, vL 0, vU, vI 0]) d_M_isWord_8 rfl (by decide) rfl ?_
  exact s_M_isWord_l (k := sk A n (μ 0 13)) _ (Nat.lt_succ_self _) hX hA hn (mset_same _ _ _ _) (by omega) hw ⟨by omega, by have := lend_bd A (n := n) (k := sk A n (μ 0 13)) (by omega); omega⟩ rfl hQ
set_option maxHeartbeats 4000000 in
theorem s_M_passWord_f : ∀ (f : Nat) {μ : Mem} {Q : PV → Mem → Prop} {A : Int → Int} {n k : Int}, ((n - k).toNat < f) → (TX A n) → (μ 1 = A) → (μ 0 1 = n) → (μ 0 13 = k) → (0 ≤ k ∧ k ≤ n) → (Q vU (mset μ 0 13 (lend A n k))) → Rj YM y_M_passWord 0 [vA 0] [] μ Q := by
  intro f
  induction f with
  | zero => intro μ Q A n k hf hX hA hn hk h0 hQ; exact absurd hf (by omega)
  | succ f ih =>
    intro μ Q A n k hf hX hA hn hk h0 hQ
    subst hA; subst hn; subst hk
    obtain ⟨hX1, hX2⟩ := id hX
    refine Rj_aload_n (q := 1) d_M_passWord_0 rfl rfl rfl ?_
    refine Rj_aload_n (q := 2) d_M_passWord_1 rfl rfl rfl ?_
    refine Rj_gi (q := 5) (ki := 13) (v := μ 0 13) gM_M_110_0 rfl rfl rfl d_M_passWord_2 rfl ?_
    refine Rj_vo (q := 8) (z := y_M_isLetter) (as := [vI (μ 0 13)]) (rest := []) (la := [vA 0, vI (μ 0 13)]) oM_0_M_isLetter ml_M_117 mw_M_isLetter mv_M_isLetter rfl d_M_passWord_5 rfl rfl rfl rfl rfl ?_
    refine s_M_isLetter (μ := μ) (A := (μ 1)) (n := (μ 0 1)) (k := μ 0 13) hX rfl rfl (by omega) ?_
    refine Rj_b_eq (q := 11) (t := 24) d_M_passWord_8 rfl (by decide) (fun c8 => ?_) (fun c8 => ?_)
    · have e1 : lend (μ 1) (μ 0 1) (μ 0 13) = μ 0 13 := rn_stop (by simpa using c8)
      rw [e1, mset_id] at hQ
      refine Rj_vret d_M_passWord_24 rfl ?_
      exact hQ
    · simp only [decide_eq_true_eq] at c8
      refine Rj_aload_n (q := 12) d_M_passWord_11 rfl rfl rfl ?_
      refine Rj_dup (q := 13) d_M_passWord_12 rfl (by intro h; cases h) ?_
      refine Rj_gi (q := 16) (ki := 13) (v := μ 0 13) gM_M_110_0 rfl rfl rfl d_M_passWord_13 rfl ?_
      refine Rj_iconst (q := 17) d_M_passWord_16 rfl ?_
      refine Rj_iadd (q := 18) d_M_passWord_17 rfl ?_
      refine Rj_pi (q := 21) (ki := 13) pM_M_110_0 rfl rfl d_M_passWord_18 rfl ?_
      refine Rj_goto (t := 0) d_M_passWord_21 (by decide) ?_
      have e1 : lend (μ 1) (μ 0 1) (μ 0 13) = lend (μ 1) (μ 0 1) (μ 0 13 + 1) := rn_step c8.1 (by simpa using c8.2)
      rw [e1] at hQ
      exact ih (A := μ 1) (n := μ 0 1) (k := μ 0 13 + 1) (by omega) hX rfl rfl (mset_same _ _ _ _) (by omega) (by rw [mset_mset]; exact hQ)
theorem s_M_passWord {μ : Mem} {Q : PV → Mem → Prop} {A : Int → Int} {n : Int} (hX : TX A n) (hA : μ 1 = A) (hn : μ 0 1 = n) {k : Int} (hk : μ 0 13 = k) (h0 : 0 ≤ k ∧ k ≤ n) (hQ : Q vU (mset μ 0 13 (lend A n k))) : Rj YM y_M_passWord 0 [vA 0] [] μ Q := s_M_passWord_f _ (Nat.lt_succ_self _) hX hA hn hk h0 hQ
set_option maxHeartbeats 4000000 in
theorem s_M_takesWord {μ : Mem} {Q : PV → Mem → Prop} {A : Int → Int} {n : Int} (hX : TX A n) (hA : μ 1 = A) (hn : μ 0 1 = n) {k : Int} (hk : μ 0 13 = k) (h0 : 0 ≤ k ∧ k ≤ n) {w : Int} (hw : i64 w) (hQ : Q (vI (bI (wat A n (sk A n k) w))) (mset μ 0 13 (if wat A n (sk A n k) w = true then lend A n (sk A n k) else sk A n k))) : Rj YM y_M_takesWord 0 [vA 0, vL w] [] μ Q := by
  subst hk
  refine Rj_aload_n (q := 1) d_M_takesWord_0 rfl rfl rfl ?_
  refine Rj_lload_n (q := 2) d_M_takesWord_1 rfl rfl rfl ?_
  refine Rj_vo (q := 5) (z := y_M_isWord) (as := [vL w]) (rest := []) (la := [vA 0, vL w, vU]) oM_0_M_isWord ml_M_121 mw_M_isWord mv_M_isWord rfl d_M_takesWord_2 rfl rfl rfl rfl rfl ?_
  refine s_M_isWord (μ := μ) (A := A) (n := n) (k := μ 0 13) hX hA hn rfl (by omega) ⟨by omega, by omega⟩ ?_
  have r2 := sk_bd A (n := n) (k := μ 0 13) (by omega)
  refine Rj_b_ne (q := 8) (t := 10) d_M_takesWord_5 rfl (by decide) (fun c5 => ?_) (fun c5 => ?_)
  · rw [c5, if_pos rfl] at hQ
    refine Rj_aload_n (q := 11) d_M_takesWord_10 rfl rfl rfl ?_
    refine Rj_vov (q := 14) (z := y_M_passWord) (as := []) (rest := []) (la := [vA 0]) oM_0_M_passWord ml_M_125 mw_M_passWord mv_M_passWord rfl d_M_takesWord_11 rfl rfl rfl rfl rfl ?_
    refine s_M_passWord (μ := (mset μ 0 13 (sk A n (μ 0 13)))) (A := A) (n := n) (k := sk A n (μ 0 13)) hX hA hn rfl (by omega) ?_
    have r11 := lend_bd A (n := n) (k := sk A n (μ 0 13)) (by omega)
    rw [mset_mset]
    refine Rj_iconst (q := 15) d_M_takesWord_14 rfl ?_
    refine Rj_bret1 d_M_takesWord_15 rfl ?_
    exact hQ
  · rw [c5, if_neg (by decide)] at hQ
    refine Rj_iconst (q := 9) d_M_takesWord_8 rfl ?_
    refine Rj_bret0 d_M_takesWord_9 rfl ?_
    exact hQ
set_option maxHeartbeats 4000000 in
theorem s_M_fails {μ : Mem} {Q : PV → Mem → Prop} {kd at_ : Int} (h0 : μ 0 14 = 0) (hQ : Q (vI 0) (mset μ 0 14 (1 + 8 * at_ + kd))) : Rj YM y_M_fails 0 [vA 0, vI kd, vI at_] [] μ Q := by
  refine Rj_aload_n (q := 1) d_M_fails_0 rfl rfl rfl ?_
  refine Rj_gi (q := 4) (ki := 14) (v := μ 0 14) gM_M_107_0 rfl rfl rfl d_M_fails_1 rfl ?_
  refine Rj_if_ne (q := 7) (t := 19) d_M_fails_4 rfl (by decide) (by rw [h0]; decide) (fun c4 => ?_) (fun c4 => ?_)
  · exact absurd h0 c4
  · refine Rj_aload_n (q := 8) d_M_fails_7 rfl rfl rfl ?_
    refine Rj_iconst (q := 9) d_M_fails_8 rfl ?_
    refine Rj_bipush (q := 11) d_M_fails_9 rfl (by decide +kernel) ?_
    refine Rj_iload_n (q := 12) d_M_fails_11 rfl rfl rfl ?_
    refine Rj_imul (q := 13) d_M_fails_12 rfl ?_
    refine Rj_iadd (q := 14) d_M_fails_13 rfl ?_
    refine Rj_iload_n (q := 15) d_M_fails_14 rfl rfl rfl ?_
    refine Rj_iadd (q := 16) d_M_fails_15 rfl ?_
    refine Rj_pi (q := 19) (ki := 14) pM_M_107_0 rfl rfl d_M_fails_16 rfl ?_
    refine Rj_iconst (q := 20) d_M_fails_19 rfl ?_
    refine Rj_bret0 d_M_fails_20 rfl ?_
    exact hQ
/-- a number from k on, within bounds: a fault, or where it ends and what it is -/
def pNum (A : Int → Int) (n k lo hi : Int) : Except Int (Int × Int) :=
  if sk A n k < n ∧ isDg A (sk A n k) = true then
    (if dend A n (sk A n k) - sk A n k ≤ 5 ∧ lo ≤ dval A (sk A n k) (dend A n (sk A n k)) ∧ dval A (sk A n k) (dend A n (sk A n k)) ≤ hi then .ok (dend A n (sk A n k), dval A (sk A n k) (dend A n (sk A n k)))
     else .error (1 + 8 * sk A n k + 1))
  else .error (1 + 8 * sk A n k + 0)
theorem pNum_sk (A : Int → Int) (n k lo hi : Int) : pNum A n (sk A n k) lo hi = pNum A n k lo hi := by
  unfold pNum; rw [sk_idem]
theorem dval_bd {A : Int → Int} {n k : Int} : 0 ≤ dval A k (dend A n k) ∧ dval A k (dend A n k) ≤ 99999 := by
  have hge := rn_ge (isDg A) n k
  have hge : k ≤ dend A n k := hge
  have hb := dv_bd (A := A) (n := n) (k := k) rfl (if dend A n k - k < 5 then (dend A n k - k).toNat else 5) (by split <;> omega) (by split <;> omega)
  have h2 : (10 : Int) ^ (if dend A n k - k < 5 then (dend A n k - k).toNat else 5) ≤ 10 ^ 5 := ipow_le (c := 10) (by decide) (by split <;> omega)
  refine ⟨hb.1, ?_⟩
  have := hb.2
  show dv A k _ ≤ 99999
  omega
set_option maxHeartbeats 4000000 in
theorem s_M_num_l : ∀ (f : Nat) {μ : Mem} {Q : PV → Mem → Prop} {A : Int → Int} {n k : Int} {a v lo hi : Int}, ((n - k).toNat < f) → (TX A n) → (μ 1 = A) → (μ 0 1 = n) → (μ 0 13 = k) → (0 ≤ k ∧ k ≤ n) → (μ 0 14 = 0) → (0 ≤ a ∧ a ≤ k ∧ k ≤ dend A n a) → (i32 lo ∧ i32 hi) → (v = dval A a k) → (dend A n a - a ≤ 5 ∧ lo ≤ dval A a (dend A n a) ∧ dval A a (dend A n a) ≤ hi → Q (vI 1) (mset (mset μ 0 13 (dend A n a)) 0 15 (dval A a (dend A n a)))) → (¬ (dend A n a - a ≤ 5 ∧ lo ≤ dval A a (dend A n a) ∧ dval A a (dend A n a) ≤ hi) → Q (vI 0) (mset (mset (mset μ 0 13 (dend A n a)) 0 15 (dval A a (dend A n a))) 0 14 (1 + 8 * a + 1))) → Rj YM y_M_numberHere 34 [vA 0, vI lo, vI hi, vI a, vI v] [] μ Q := by
  intro f
  induction f with
  | zero => intro μ Q A n k a v lo hi hf hX hA hn hk h0 hw0 ha hl hv h1 h2; exact absurd hf (by omega)
  | succ f ih =>
    intro μ Q A n k a v lo hi hf hX hA hn hk h0 hw0 ha hl hv h1 h2
    subst hA; subst hn; subst hk
    obtain ⟨hX1, hX2⟩ := id hX
    obtain ⟨hl1, hl2⟩ := hl
    have hdb := dval_bd (A := μ 1) (n := μ 0 1) (k := a)
    have hle := dend_bd (μ 1) (n := μ 0 1) (k := a) (by omega)
    have hv0 : 0 ≤ v ∧ v ≤ 99999 := by
      rw [hv]
      have hb := dv_bd (A := μ 1) (n := μ 0 1) (k := a) rfl (if μ 0 13 - a < 5 then (μ 0 13 - a).toNat else 5) (by split <;> omega) (by split <;> omega)
      have h3 : (10 : Int) ^ (if μ 0 13 - a < 5 then (μ 0 13 - a).toNat else 5) ≤ 10 ^ 5 := ipow_le (c := 10) (by decide) (by split <;> omega)
      refine ⟨hb.1, ?_⟩
      have := hb.2
      show dv (μ 1) a _ ≤ 99999
      omega
    refine Rj_aload_n (q := 35) d_M_numberHere_34 rfl rfl rfl ?_
    refine Rj_aload_n (q := 36) d_M_numberHere_35 rfl rfl rfl ?_
    refine Rj_gi (q := 39) (ki := 13) (v := μ 0 13) gM_M_110_0 rfl rfl rfl d_M_numberHere_36 rfl ?_
    refine Rj_vo (q := 42) (z := y_M_isDigit) (as := [vI (μ 0 13)]) (rest := []) (la := [vA 0, vI (μ 0 13)]) oM_0_M_isDigit ml_M_128 mw_M_isDigit mv_M_isDigit rfl d_M_numberHere_39 rfl rfl rfl rfl rfl ?_
    refine s_M_isDigit (μ := μ) (A := (μ 1)) (n := (μ 0 1)) (k := μ 0 13) hX rfl rfl (by omega) ?_
    refine Rj_b_eq (q := 45) (t := 88) d_M_numberHere_42 rfl (by decide) (fun c42 => ?_) (fun c42 => ?_)
    · have he : dend (μ 1) (μ 0 1) a = μ 0 13 := by
        rcases Int.lt_or_le (μ 0 13) (dend (μ 1) (μ 0 1) a) with h | h
        · have := rn_all (p := isDg (μ 1)) (n := μ 0 1) (k := a) (j := μ 0 13) (by omega) h
          simp only [decide_eq_false_iff_not] at c42
          exact absurd this c42
        · omega
      rw [he, mset_id, ← hv] at h1 h2
      refine Rj_aload_n (q := 89) d_M_numberHere_88 rfl rfl rfl ?_
      refine Rj_iload (q := 91) d_M_numberHere_89 rfl rfl ?_
      refine Rj_pi (q := 94) (ki := 15) pM_M_135_0 rfl rfl d_M_numberHere_91 rfl ?_
      refine Rj_aload_n (q := 95) d_M_numberHere_94 rfl rfl rfl ?_
      refine Rj_gi (q := 98) (ki := 13) (v := μ 0 13) gM_M_110_0 rfl rfl rfl d_M_numberHere_95 rfl ?_
      refine Rj_iload_n (q := 99) d_M_numberHere_98 rfl rfl rfl ?_
      refine Rj_isub (q := 100) d_M_numberHere_99 rfl ?_
      refine Rj_iconst (q := 101) d_M_numberHere_100 rfl ?_
      refine Rj_icmp_gt (q := 104) (t := 117) d_M_numberHere_101 rfl (by decide) (by first | exact ⟨by omega, by omega⟩ | (have := hX2 (μ 0 13) (by omega) (by omega); constructor <;> omega)) (by decide) (fun c101 => ?_) (fun c101 => ?_)
      · refine Rj_aload_n (q := 118) d_M_numberHere_117 rfl rfl rfl ?_
        refine Rj_iconst (q := 119) d_M_numberHere_118 rfl ?_
        refine Rj_iload_n (q := 120) d_M_numberHere_119 rfl rfl rfl ?_
        refine Rj_vo (q := 123) (z := y_M_fails) (as := [vI 1, vI a]) (rest := []) (la := [vA 0, vI 1, vI a]) oM_0_M_fails ml_M_131 mw_M_fails mv_M_fails rfl d_M_numberHere_120 rfl rfl rfl rfl rfl ?_
        refine s_M_fails hw0 ?_
        refine Rj_if_eq (q := 126) (t := 130) d_M_numberHere_123 rfl (by decide) (by decide) (fun _ => ?_) (fun c => absurd c (by decide))
        refine Rj_iconst (q := 131) d_M_numberHere_130 rfl ?_
        refine Rj_bret0 d_M_numberHere_131 rfl ?_
        first | exact h1 ⟨by omega, by simpa using c114⟩ | exact h2 (fun h => by omega) | exact h2 (fun h => by simp [h.2.1, h.2.2] at c114)
      · refine Rj_iload (q := 106) d_M_numberHere_104 rfl rfl ?_
        refine Rj_i2l (q := 107) d_M_numberHere_106 rfl (by first | exact ⟨by omega, by omega⟩ | (have := hX2 (μ 0 13) (by omega) (by omega); constructor <;> omega)) ?_
        refine Rj_iload_n (q := 108) d_M_numberHere_107 rfl rfl rfl ?_
        refine Rj_i2l (q := 109) d_M_numberHere_108 rfl (by first | exact ⟨by omega, by omega⟩ | (have := hX2 (μ 0 13) (by omega) (by omega); constructor <;> omega)) ?_
        refine Rj_iload_n (q := 110) d_M_numberHere_109 rfl rfl rfl ?_
        refine Rj_i2l (q := 111) d_M_numberHere_110 rfl (by first | exact ⟨by omega, by omega⟩ | (have := hX2 (μ 0 13) (by omega) (by omega); constructor <;> omega)) ?_
        refine Rj_cs (q := 114) (z := y_M_in) (as := [vL v, vL lo, vL hi]) (rest := []) (la := [vL v, vU, vL lo, vU, vL hi, vU]) ml_M_138 mw_M_in ms_M_in d_M_numberHere_111 rfl rfl rfl rfl rfl ?_
        refine s_M_in ⟨by omega, by omega⟩ ⟨by omega, by omega⟩ ⟨by omega, by omega⟩ ?_
        refine Rj_b_ne (q := 117) (t := 126) d_M_numberHere_114 rfl (by decide) (fun c114 => ?_) (fun c114 => ?_)
        · refine Rj_iconst (q := 127) d_M_numberHere_126 rfl ?_
          refine Rj_goto (t := 131) d_M_numberHere_127 (by decide) ?_
          refine Rj_bret1 d_M_numberHere_131 rfl ?_
          first | exact h1 ⟨by omega, by simpa using c114⟩ | exact h2 (fun h => by omega) | exact h2 (fun h => by simp [h.2.1, h.2.2] at c114)
        · refine Rj_aload_n (q := 118) d_M_numberHere_117 rfl rfl rfl ?_
          refine Rj_iconst (q := 119) d_M_numberHere_118 rfl ?_
          refine Rj_iload_n (q := 120) d_M_numberHere_119 rfl rfl rfl ?_
          refine Rj_vo (q := 123) (z := y_M_fails) (as := [vI 1, vI a]) (rest := []) (la := [vA 0, vI 1, vI a]) oM_0_M_fails ml_M_131 mw_M_fails mv_M_fails rfl d_M_numberHere_120 rfl rfl rfl rfl rfl ?_
          refine s_M_fails hw0 ?_
          refine Rj_if_eq (q := 126) (t := 130) d_M_numberHere_123 rfl (by decide) (by decide) (fun _ => ?_) (fun c => absurd c (by decide))
          refine Rj_iconst (q := 131) d_M_numberHere_130 rfl ?_
          refine Rj_bret0 d_M_numberHere_131 rfl ?_
          first | exact h1 ⟨by omega, by simpa using c114⟩ | exact h2 (fun h => by omega) | exact h2 (fun h => by simp [h.2.1, h.2.2] at c114)
    · simp only [decide_eq_true_eq] at c42
      refine Rj_aload_n (q := 46) d_M_numberHere_45 rfl rfl rfl ?_
      refine Rj_gi (q := 49) (ki := 13) (v := μ 0 13) gM_M_110_0 rfl rfl rfl d_M_numberHere_46 rfl ?_
      refine Rj_iload_n (q := 50) d_M_numberHere_49 rfl rfl rfl ?_
      refine Rj_isub (q := 51) d_M_numberHere_50 rfl ?_
      refine Rj_iconst (q := 52) d_M_numberHere_51 rfl ?_
      refine Rj_icmp_ge (q := 55) (t := 75) d_M_numberHere_52 rfl (by decide) (by first | exact ⟨by omega, by omega⟩ | (have := hX2 (μ 0 13) (by omega) (by omega); constructor <;> omega)) (by decide) (fun c52 => ?_) (fun c52 => ?_)
      · refine Rj_aload_n (q := 76) d_M_numberHere_75 rfl rfl rfl ?_
        refine Rj_dup (q := 77) d_M_numberHere_76 rfl (by intro h; cases h) ?_
        refine Rj_gi (q := 80) (ki := 13) (v := μ 0 13) gM_M_110_0 rfl rfl rfl d_M_numberHere_77 rfl ?_
        refine Rj_iconst (q := 81) d_M_numberHere_80 rfl ?_
        refine Rj_iadd (q := 82) d_M_numberHere_81 rfl ?_
        refine Rj_pi (q := 85) (ki := 13) pM_M_110_0 rfl rfl d_M_numberHere_82 rfl ?_
        refine Rj_goto (t := 34) d_M_numberHere_85 (by decide) ?_
        have hn1 : μ 0 13 + 1 ≤ dend (μ 1) (μ 0 1) a := by
          rcases Int.lt_or_le (μ 0 13) (dend (μ 1) (μ 0 1) a) with h | h
          · omega
          · have he : dend (μ 1) (μ 0 1) a = μ 0 13 := by omega
            have := rn_end (isDg (μ 1)) (μ 0 1) a
            rw [show rn (isDg (μ 1)) (μ 0 1) a = μ 0 13 from he] at this
            exact absurd ⟨c42.1, by simpa using c42.2⟩ this
        exact ih (A := μ 1) (n := μ 0 1) (k := μ 0 13 + 1) (by omega) hX rfl rfl (mset_same _ _ _ _) (by omega) hw0 ⟨by omega, by omega, hn1⟩ ⟨hl1, hl2⟩ (by rw [hv]; unfold dval; rw [if_neg (by omega), if_neg (by omega)]) (by rw [mset_mset]; exact h1) (by rw [mset_mset]; exact h2)
      · refine Rj_bipush (q := 57) d_M_numberHere_55 rfl (by decide +kernel) ?_
        refine Rj_iload (q := 59) d_M_numberHere_57 rfl rfl ?_
        refine Rj_imul (q := 60) d_M_numberHere_59 rfl ?_
        refine Rj_aload_n (q := 61) d_M_numberHere_60 rfl rfl rfl ?_
        refine Rj_gr (q := 64) (zd := 1) gM_M_7_0 rfl rfl d_M_numberHere_61 rfl ?_
        refine Rj_aload_n (q := 65) d_M_numberHere_64 rfl rfl rfl ?_
        refine Rj_gi (q := 68) (ki := 13) (v := μ 0 13) gM_M_110_0 rfl rfl rfl d_M_numberHere_65 rfl ?_
        refine Rj_ba (q := 69) (v := μ 1 (μ 0 13)) aM_1 rfl (by omega) rfl d_M_numberHere_68 rfl ?_
        refine Rj_iadd (q := 70) d_M_numberHere_69 rfl ?_
        refine Rj_bipush (q := 72) d_M_numberHere_70 rfl (by decide +kernel) ?_
        refine Rj_isub (q := 73) d_M_numberHere_72 rfl ?_
        refine Rj_istore (q := 75) (ls' := [vA 0, vI lo, vI hi, vI a, vI (((10 * v) + (μ 1 (μ 0 13))) - 48)]) d_M_numberHere_73 rfl (by decide) rfl ?_
        refine Rj_aload_n (q := 76) d_M_numberHere_75 rfl rfl rfl ?_
        refine Rj_dup (q := 77) d_M_numberHere_76 rfl (by intro h; cases h) ?_
        refine Rj_gi (q := 80) (ki := 13) (v := μ 0 13) gM_M_110_0 rfl rfl rfl d_M_numberHere_77 rfl ?_
        refine Rj_iconst (q := 81) d_M_numberHere_80 rfl ?_
        refine Rj_iadd (q := 82) d_M_numberHere_81 rfl ?_
        refine Rj_pi (q := 85) (ki := 13) pM_M_110_0 rfl rfl d_M_numberHere_82 rfl ?_
        refine Rj_goto (t := 34) d_M_numberHere_85 (by decide) ?_
        have hn1 : μ 0 13 + 1 ≤ dend (μ 1) (μ 0 1) a := by
          rcases Int.lt_or_le (μ 0 13) (dend (μ 1) (μ 0 1) a) with h | h
          · omega
          · have he : dend (μ 1) (μ 0 1) a = μ 0 13 := by omega
            have := rn_end (isDg (μ 1)) (μ 0 1) a
            rw [show rn (isDg (μ 1)) (μ 0 1) a = μ 0 13 from he] at this
            exact absurd ⟨c42.1, by simpa using c42.2⟩ this
        exact ih (A := μ 1) (n := μ 0 1) (k := μ 0 13 + 1) (by omega) hX rfl rfl (mset_same _ _ _ _) (by omega) hw0 ⟨by omega, by omega, hn1⟩ ⟨hl1, hl2⟩ (by
          unfold dval at hv ⊢
          rw [if_pos (by omega)] at hv
          have e5 : (if μ 0 13 + 1 - a < 5 then (μ 0 13 + 1 - a).toNat else 5) = (μ 0 13 - a).toNat + 1 := by split <;> omega
          rw [e5]
          show _ = 10 * dv (μ 1) a (μ 0 13 - a).toNat + μ 1 (a + ((μ 0 13 - a).toNat : Int)) - 48
          rw [← hv, show a + ((μ 0 13 - a).toNat : Int) = μ 0 13 by omega]) (by rw [mset_mset]; exact h1) (by rw [mset_mset]; exact h2)
set_option maxHeartbeats 4000000 in
theorem s_M_numberHere {μ : Mem} {Q : PV → Mem → Prop} {A : Int → Int} {n : Int} (hX : TX A n) (hA : μ 1 = A) (hn : μ 0 1 = n) {k : Int} (hk : μ 0 13 = k) (h0 : 0 ≤ k ∧ k ≤ n) {lo hi : Int} (hw0 : μ 0 14 = 0) (hl : i32 lo ∧ i32 hi) (h1 : ∀ e v, pNum A n k lo hi = .ok (e, v) → lo ≤ v ∧ v ≤ hi → sk A n k < e ∧ e ≤ n → Q (vI 1) (mset (mset μ 0 13 e) 0 15 v)) (h2 : ∀ wr μ', pNum A n k lo hi = .error wr → Fr Wnum μ μ' → μ' 0 14 = wr → Q (vI 0) μ') : Rj YM y_M_numberHere 0 [vA 0, vI lo, vI hi] [] μ Q := by
  subst hk
  obtain ⟨hX1, hX2⟩ := id hX
  refine Rj_aload_n (q := 1) d_M_numberHere_0 rfl rfl rfl ?_
  refine Rj_vo (q := 4) (z := y_M_see) (as := []) (rest := []) (la := [vA 0]) oM_0_M_see ml_M_113 mw_M_see mv_M_see rfl d_M_numberHere_1 rfl rfl rfl rfl rfl ?_
  refine s_M_see (μ := μ) (A := A) (n := n) (k := μ 0 13) hX hA hn rfl (by omega) ?_
  have r1 := sk_bd A (n := n) (k := μ 0 13) (by omega)
  refine Rj_pop (q := 5) d_M_numberHere_4 rfl (by intro h; cases h) ?_
  refine Rj_aload_n (q := 6) d_M_numberHere_5 rfl rfl rfl ?_
  refine Rj_aload_n (q := 7) d_M_numberHere_6 rfl rfl rfl ?_
  refine Rj_gi (q := 10) (ki := 13) (v := sk A n (μ 0 13)) gM_M_110_0 rfl rfl rfl d_M_numberHere_7 rfl ?_
  refine Rj_vo (q := 13) (z := y_M_isDigit) (as := [vI (sk A n (μ 0 13))]) (rest := []) (la := [vA 0, vI (sk A n (μ 0 13))]) oM_0_M_isDigit ml_M_128 mw_M_isDigit mv_M_isDigit rfl d_M_numberHere_10 rfl rfl rfl rfl rfl ?_
  refine s_M_isDigit (μ := (mset μ 0 13 (sk A n (μ 0 13)))) (A := A) (n := n) (k := sk A n (μ 0 13)) hX hA hn (by omega) ?_
  refine Rj_b_ne (q := 16) (t := 26) d_M_numberHere_13 rfl (by decide) (fun c13 => ?_) (fun c13 => ?_)
  · simp only [decide_eq_true_eq] at c13
    refine Rj_aload_n (q := 27) d_M_numberHere_26 rfl rfl rfl ?_
    refine Rj_gi (q := 30) (ki := 13) (v := sk A n (μ 0 13)) gM_M_110_0 rfl rfl rfl d_M_numberHere_27 rfl ?_
    refine Rj_istore_n (q := 31) (ls' := [vA 0, vI lo, vI hi, vI (sk A n (μ 0 13))]) d_M_numberHere_30 rfl rfl (by decide) rfl ?_
    refine Rj_iconst (q := 32) d_M_numberHere_31 rfl ?_
    refine Rj_istore (q := 34) (ls' := [vA 0, vI lo, vI hi, vI (sk A n (μ 0 13)), vI 0]) d_M_numberHere_32 rfl (by decide) rfl ?_
    have hs1 : dend A n (sk A n (μ 0 13)) = dend A n (sk A n (μ 0 13) + 1) := rn_step c13.1 (by simpa using c13.2)
    have hb := dend_bd A (n := n) (k := sk A n (μ 0 13) + 1) (by omega)
    refine s_M_num_l (k := sk A n (μ 0 13)) _ (Nat.lt_succ_self _) hX hA hn (mset_same _ _ _ _) (by omega) hw0 ⟨by omega, by omega, by omega⟩ hl (by unfold dval; rw [if_pos (by omega), show (sk A n (μ 0 13) - sk A n (μ 0 13)).toNat = 0 by omega]; rfl) (fun h => ?_) (fun h => ?_)
    · rw [mset_mset]
      exact h1 _ _ (by unfold pNum; rw [if_pos (by simpa using c13), if_pos h]) h.2 (by omega)
    · rw [mset_mset]
      exact h2 _ _ (by unfold pNum; rw [if_pos (by simpa using c13), if_neg h]) ((((Fr.refl _ _).put (by decide)).put (by decide)).put (by decide)) (mset_same _ _ _ _)
  · simp only [decide_eq_false_iff_not] at c13
    refine Rj_aload_n (q := 17) d_M_numberHere_16 rfl rfl rfl ?_
    refine Rj_iconst (q := 18) d_M_numberHere_17 rfl ?_
    refine Rj_aload_n (q := 19) d_M_numberHere_18 rfl rfl rfl ?_
    refine Rj_gi (q := 22) (ki := 13) (v := sk A n (μ 0 13)) gM_M_110_0 rfl rfl rfl d_M_numberHere_19 rfl ?_
    refine Rj_vo (q := 25) (z := y_M_fails) (as := [vI 0, vI (sk A n (μ 0 13))]) (rest := []) (la := [vA 0, vI 0, vI (sk A n (μ 0 13))]) oM_0_M_fails ml_M_131 mw_M_fails mv_M_fails rfl d_M_numberHere_22 rfl rfl rfl rfl rfl ?_
    refine s_M_fails hw0 ?_
    refine Rj_bret0 d_M_numberHere_25 rfl ?_
    exact h2 _ _ (by unfold pNum; rw [if_neg (by simpa using c13)]) (((Fr.refl _ _).put (by decide)).put (by decide)) (mset_same _ _ _ _)
