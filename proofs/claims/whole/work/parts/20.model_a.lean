theorem gM_M_99_0 : GI YM "DoorsOnCogsModel" 99 0 1 none := ⟨by decide, _, _, _, fl_M_99, cM_0, by decide, rfl⟩
theorem gM_M_7_0 : GI YM "DoorsOnCogsModel" 7 0 0 (some (some 1)) := ⟨by decide, _, _, _, fl_M_7, cM_0, by decide, rfl⟩
theorem aM_1 : AI YM 1 (.byte) 400 := ⟨by decide, cM_1, by decide⟩
theorem gM_M_110_0 : GI YM "DoorsOnCogsModel" 110 0 13 none := ⟨by decide, _, _, _, fl_M_110, cM_0, by decide, rfl⟩
theorem pM_M_110_0 : PI YM "DoorsOnCogsModel" 110 0 13 none .int := ⟨by decide, _, _, _, fl_M_110, fp_10_13, cM_0, by decide, rfl⟩
/-! the reference: small functions -/
set_option maxHeartbeats 4000000 in
theorem s_M_in {μ : Mem} {Q : PV → Mem → Prop} {v lo hi : Int} (h1 : i64 v) (h2 : i64 lo) (h3 : i64 hi) (hQ : Q (vI (bI (decide (lo ≤ v ∧ v ≤ hi)))) μ) : Rj YM y_M_in 0 [vL v, vU, vL lo, vU, vL hi] [] μ Q := by
  refine Rj_lload_n (q := 1) d_M_in_0 rfl rfl rfl ?_
  refine Rj_lload_n (q := 2) d_M_in_1 rfl rfl rfl ?_
  refine Rj_lc_lt (q := 3) (q2 := 6) (t := 17) d_M_in_2 rfl d_M_in_3 rfl (by decide) ⟨by omega, by omega⟩ ⟨by omega, by omega⟩ (fun c2 => ?_) (fun c2 => ?_)
  · refine Rj_iconst (q := 18) d_M_in_17 rfl ?_
    refine Rj_bret0 d_M_in_18 rfl ?_
    exact fin_I hQ (bF (by omega))
  · refine Rj_lload_n (q := 7) d_M_in_6 rfl rfl rfl ?_
    refine Rj_lload (q := 9) d_M_in_7 rfl rfl ?_
    refine Rj_lc_gt (q := 10) (q2 := 13) (t := 17) d_M_in_9 rfl d_M_in_10 rfl (by decide) ⟨by omega, by omega⟩ ⟨by omega, by omega⟩ (fun c9 => ?_) (fun c9 => ?_)
    · refine Rj_iconst (q := 18) d_M_in_17 rfl ?_
      refine Rj_bret0 d_M_in_18 rfl ?_
      exact fin_I hQ (bF (by omega))
    · refine Rj_iconst (q := 14) d_M_in_13 rfl ?_
      refine Rj_goto (t := 18) d_M_in_14 (by decide) ?_
      refine Rj_bret1 d_M_in_18 rfl ?_
      exact fin_I hQ (bT (by omega))
set_option maxHeartbeats 4000000 in
theorem s_M_isOf {μ : Mem} {Q : PV → Mem → Prop} {a k : Int} (h1 : i32 a) (h2 : 0 ≤ k ∧ k < 32) (hQ : Q (vI (bI (decide (zbit a k = 1)))) μ) : Rj YM y_M_isOf 0 [vI a, vI k] [] μ Q := by
  refine Rj_iload_n (q := 1) d_M_isOf_0 rfl rfl rfl ?_
  refine Rj_iload_n (q := 2) d_M_isOf_1 rfl rfl rfl ?_
  refine Rj_ishr (q := 3) (z := z_shr a k) d_M_isOf_2 rfl rfl ?_
  refine Rj_iconst (q := 4) d_M_isOf_3 rfl ?_
  refine Rj_iand (q := 5) (z := zbit a k) d_M_isOf_4 rfl (z_bit h1 h2.1 h2.2) ?_
  refine Rj_iconst (q := 6) d_M_isOf_5 rfl ?_
  refine Rj_icmp_ne (q := 9) (t := 13) d_M_isOf_6 rfl (by decide) (by have := zbit_01 a k; constructor <;> omega) (by decide) (fun c6 => ?_) (fun c6 => ?_)
  · refine Rj_iconst (q := 14) d_M_isOf_13 rfl ?_
    refine Rj_bret0 d_M_isOf_14 rfl ?_
    exact fin_I hQ (bF (by omega))
  · refine Rj_iconst (q := 10) d_M_isOf_9 rfl ?_
    refine Rj_goto (t := 14) d_M_isOf_10 (by decide) ?_
    refine Rj_bret1 d_M_isOf_14 rfl ?_
    exact fin_I hQ (bT (by omega))
set_option maxHeartbeats 4000000 in
theorem s_M_bounded {μ : Mem} {Q : PV → Mem → Prop} {v lo hi : Int} (h1 : i64 v) (h2 : i64 lo) (h3 : i64 hi) (hQ : Q (vL (if v < lo then lo else if v > hi then hi else v)) μ) : Rj YM y_M_bounded 0 [vL v, vU, vL lo, vU, vL hi] [] μ Q := by
  refine Rj_lload_n (q := 1) d_M_bounded_0 rfl rfl rfl ?_
  refine Rj_lload_n (q := 2) d_M_bounded_1 rfl rfl rfl ?_
  refine Rj_lc_ge (q := 3) (q2 := 6) (t := 10) d_M_bounded_2 rfl d_M_bounded_3 rfl (by decide) ⟨by omega, by omega⟩ ⟨by omega, by omega⟩ (fun c2 => ?_) (fun c2 => ?_)
  · refine Rj_lload_n (q := 11) d_M_bounded_10 rfl rfl rfl ?_
    refine Rj_lload (q := 13) d_M_bounded_11 rfl rfl ?_
    refine Rj_lc_le (q := 14) (q2 := 17) (t := 22) d_M_bounded_13 rfl d_M_bounded_14 rfl (by decide) ⟨by omega, by omega⟩ ⟨by omega, by omega⟩ (fun c13 => ?_) (fun c13 => ?_)
    · refine Rj_lload_n (q := 23) d_M_bounded_22 rfl rfl rfl ?_
      refine Rj_lret d_M_bounded_23 rfl ?_
      exact fin_L hQ (by (repeat' split) <;> omega)
    · refine Rj_lload (q := 19) d_M_bounded_17 rfl rfl ?_
      refine Rj_goto (t := 23) d_M_bounded_19 (by decide) ?_
      refine Rj_lret d_M_bounded_23 rfl ?_
      exact fin_L hQ (by (repeat' split) <;> omega)
  · refine Rj_lload_n (q := 7) d_M_bounded_6 rfl rfl rfl ?_
    refine Rj_goto (t := 23) d_M_bounded_7 (by decide) ?_
    refine Rj_lret d_M_bounded_23 rfl ?_
    exact fin_L hQ (by (repeat' split) <;> omega)
/-- a text: so many bytes, signed -/
def TX (A : Int → Int) (n : Int) : Prop := (0 ≤ n ∧ n ≤ 400) ∧ ∀ j, 0 ≤ j → j < 400 → -128 ≤ A j ∧ A j ≤ 127
theorem sk_bd (A : Int → Int) {n k : Int} (h : k ≤ n) : k ≤ sk A n k ∧ sk A n k ≤ n := ⟨rn_ge _ _ _, rn_le h⟩
theorem lend_bd (A : Int → Int) {n k : Int} (h : k ≤ n) : k ≤ lend A n k ∧ lend A n k ≤ n := ⟨rn_ge _ _ _, rn_le h⟩
theorem dend_bd (A : Int → Int) {n k : Int} (h : k ≤ n) : k ≤ dend A n k ∧ dend A n k ≤ n := ⟨rn_ge _ _ _, rn_le h⟩
theorem sk_idem (A : Int → Int) (n k : Int) : sk A n (sk A n k) = sk A n k := rn_idem _ _ _
set_option maxHeartbeats 4000000 in
theorem s_M_isLetter {μ : Mem} {Q : PV → Mem → Prop} {A : Int → Int} {n : Int} (hX : TX A n) (hA : μ 1 = A) (hn : μ 0 1 = n) {k : Int} (h1 : 0 ≤ k ∧ k ≤ 1000) (hQ : Q (vI (bI (decide (k < n ∧ isLt A k = true)))) μ) : Rj YM y_M_isLetter 0 [vA 0, vI k] [] μ Q := by
  subst hA; subst hn
  obtain ⟨hX1, hX2⟩ := id hX
  refine Rj_iload_n (q := 1) d_M_isLetter_0 rfl rfl rfl ?_
  refine Rj_aload_n (q := 2) d_M_isLetter_1 rfl rfl rfl ?_
  refine Rj_gi (q := 5) (ki := 1) (v := μ 0 1) gM_M_99_0 rfl rfl rfl d_M_isLetter_2 rfl ?_
  refine Rj_icmp_ge (q := 8) (t := 34) d_M_isLetter_5 rfl (by decide) (by first | exact ⟨by omega, by omega⟩ | (have := hX2 k (by omega) (by omega); constructor <;> omega)) (by first | exact ⟨by omega, by omega⟩ | (have := hX2 k (by omega) (by omega); constructor <;> omega)) (fun c5 => ?_) (fun c5 => ?_)
  · refine Rj_iconst (q := 35) d_M_isLetter_34 rfl ?_
    refine Rj_bret0 d_M_isLetter_35 rfl ?_
    exact fin_I hQ (bF (by simp only [decide_eq_true_eq]; omega))
  · refine Rj_aload_n (q := 9) d_M_isLetter_8 rfl rfl rfl ?_
    refine Rj_gr (q := 12) (zd := 1) gM_M_7_0 rfl rfl d_M_isLetter_9 rfl ?_
    refine Rj_iload_n (q := 13) d_M_isLetter_12 rfl rfl rfl ?_
    refine Rj_ba (q := 14) (v := μ 1 k) aM_1 rfl (by omega) rfl d_M_isLetter_13 rfl ?_
    refine Rj_bipush (q := 16) d_M_isLetter_14 rfl (by decide +kernel) ?_
    refine Rj_icmp_lt (q := 19) (t := 34) d_M_isLetter_16 rfl (by decide) (by first | exact ⟨by omega, by omega⟩ | (have := hX2 k (by omega) (by omega); constructor <;> omega)) (by decide) (fun c16 => ?_) (fun c16 => ?_)
    · refine Rj_iconst (q := 35) d_M_isLetter_34 rfl ?_
      refine Rj_bret0 d_M_isLetter_35 rfl ?_
      exact fin_I hQ (bF (by simp only [decide_eq_true_eq]; omega))
    · refine Rj_aload_n (q := 20) d_M_isLetter_19 rfl rfl rfl ?_
      refine Rj_gr (q := 23) (zd := 1) gM_M_7_0 rfl rfl d_M_isLetter_20 rfl ?_
      refine Rj_iload_n (q := 24) d_M_isLetter_23 rfl rfl rfl ?_
      refine Rj_ba (q := 25) (v := μ 1 k) aM_1 rfl (by omega) rfl d_M_isLetter_24 rfl ?_
      refine Rj_bipush (q := 27) d_M_isLetter_25 rfl (by decide +kernel) ?_
      refine Rj_icmp_gt (q := 30) (t := 34) d_M_isLetter_27 rfl (by decide) (by first | exact ⟨by omega, by omega⟩ | (have := hX2 k (by omega) (by omega); constructor <;> omega)) (by decide) (fun c27 => ?_) (fun c27 => ?_)
      · refine Rj_iconst (q := 35) d_M_isLetter_34 rfl ?_
        refine Rj_bret0 d_M_isLetter_35 rfl ?_
        exact fin_I hQ (bF (by simp only [decide_eq_true_eq]; omega))
      · refine Rj_iconst (q := 31) d_M_isLetter_30 rfl ?_
        refine Rj_goto (t := 35) d_M_isLetter_31 (by decide) ?_
        refine Rj_bret1 d_M_isLetter_35 rfl ?_
        exact fin_I hQ (bT (by simp only [decide_eq_true_eq]; omega))
set_option maxHeartbeats 4000000 in
theorem s_M_isDigit {μ : Mem} {Q : PV → Mem → Prop} {A : Int → Int} {n : Int} (hX : TX A n) (hA : μ 1 = A) (hn : μ 0 1 = n) {k : Int} (h1 : 0 ≤ k ∧ k ≤ 1000) (hQ : Q (vI (bI (decide (k < n ∧ isDg A k = true)))) μ) : Rj YM y_M_isDigit 0 [vA 0, vI k] [] μ Q := by
  subst hA; subst hn
  obtain ⟨hX1, hX2⟩ := id hX
  refine Rj_iload_n (q := 1) d_M_isDigit_0 rfl rfl rfl ?_
  refine Rj_aload_n (q := 2) d_M_isDigit_1 rfl rfl rfl ?_
  refine Rj_gi (q := 5) (ki := 1) (v := μ 0 1) gM_M_99_0 rfl rfl rfl d_M_isDigit_2 rfl ?_
  refine Rj_icmp_ge (q := 8) (t := 34) d_M_isDigit_5 rfl (by decide) (by first | exact ⟨by omega, by omega⟩ | (have := hX2 k (by omega) (by omega); constructor <;> omega)) (by first | exact ⟨by omega, by omega⟩ | (have := hX2 k (by omega) (by omega); constructor <;> omega)) (fun c5 => ?_) (fun c5 => ?_)
  · refine Rj_iconst (q := 35) d_M_isDigit_34 rfl ?_
    refine Rj_bret0 d_M_isDigit_35 rfl ?_
    exact fin_I hQ (bF (by simp only [decide_eq_true_eq]; omega))
  · refine Rj_aload_n (q := 9) d_M_isDigit_8 rfl rfl rfl ?_
    refine Rj_gr (q := 12) (zd := 1) gM_M_7_0 rfl rfl d_M_isDigit_9 rfl ?_
    refine Rj_iload_n (q := 13) d_M_isDigit_12 rfl rfl rfl ?_
    refine Rj_ba (q := 14) (v := μ 1 k) aM_1 rfl (by omega) rfl d_M_isDigit_13 rfl ?_
    refine Rj_bipush (q := 16) d_M_isDigit_14 rfl (by decide +kernel) ?_
    refine Rj_icmp_lt (q := 19) (t := 34) d_M_isDigit_16 rfl (by decide) (by first | exact ⟨by omega, by omega⟩ | (have := hX2 k (by omega) (by omega); constructor <;> omega)) (by decide) (fun c16 => ?_) (fun c16 => ?_)
    · refine Rj_iconst (q := 35) d_M_isDigit_34 rfl ?_
      refine Rj_bret0 d_M_isDigit_35 rfl ?_
      exact fin_I hQ (bF (by simp only [decide_eq_true_eq]; omega))
    · refine Rj_aload_n (q := 20) d_M_isDigit_19 rfl rfl rfl ?_
      refine Rj_gr (q := 23) (zd := 1) gM_M_7_0 rfl rfl d_M_isDigit_20 rfl ?_
      refine Rj_iload_n (q := 24) d_M_isDigit_23 rfl rfl rfl ?_
      refine Rj_ba (q := 25) (v := μ 1 k) aM_1 rfl (by omega) rfl d_M_isDigit_24 rfl ?_
      refine Rj_bipush (q := 27) d_M_isDigit_25 rfl (by decide +kernel) ?_
      refine Rj_icmp_gt (q := 30) (t := 34) d_M_isDigit_27 rfl (by decide) (by first | exact ⟨by omega, by omega⟩ | (have := hX2 k (by omega) (by omega); constructor <;> omega)) (by decide) (fun c27 => ?_) (fun c27 => ?_)
      · refine Rj_iconst (q := 35) d_M_isDigit_34 rfl ?_
        refine Rj_bret0 d_M_isDigit_35 rfl ?_
        exact fin_I hQ (bF (by simp only [decide_eq_true_eq]; omega))
      · refine Rj_iconst (q := 31) d_M_isDigit_30 rfl ?_
        refine Rj_goto (t := 35) d_M_isDigit_31 (by decide) ?_
        refine Rj_bret1 d_M_isDigit_35 rfl ?_
        exact fin_I hQ (bT (by simp only [decide_eq_true_eq]; omega))
set_option maxHeartbeats 4000000 in
theorem s_M_see_f : ∀ (f : Nat) {μ : Mem} {Q : PV → Mem → Prop} {A : Int → Int} {n k : Int}, ((n - k).toNat < f) → (TX A n) → (μ 1 = A) → (μ 0 1 = n) → (μ 0 13 = k) → (0 ≤ k ∧ k ≤ n) → (Q (vI (if sk A n k < n then z_and (A (sk A n k)) 255 else -1)) (mset μ 0 13 (sk A n k))) → Rj YM y_M_see 0 [vA 0] [] μ Q := by
  intro f
  induction f with
  | zero => intro μ Q A n k hf hX hA hn hk h0 hQ; exact absurd hf (by omega)
  | succ f ih =>
    intro μ Q A n k hf hX hA hn hk h0 hQ
    subst hA; subst hn; subst hk
    obtain ⟨hX1, hX2⟩ := id hX
    refine Rj_aload_n (q := 1) d_M_see_0 rfl rfl rfl ?_
    refine Rj_gi (q := 4) (ki := 13) (v := μ 0 13) gM_M_110_0 rfl rfl rfl d_M_see_1 rfl ?_
    refine Rj_aload_n (q := 5) d_M_see_4 rfl rfl rfl ?_
    refine Rj_gi (q := 8) (ki := 1) (v := μ 0 1) gM_M_99_0 rfl rfl rfl d_M_see_5 rfl ?_
    refine Rj_icmp_ge (q := 11) (t := 38) d_M_see_8 rfl (by decide) (by first | exact ⟨by omega, by omega⟩ | (have := hX2 (μ 0 13) (by omega) (by omega); constructor <;> omega)) (by first | exact ⟨by omega, by omega⟩ | (have := hX2 (μ 0 13) (by omega) (by omega); constructor <;> omega)) (fun c8 => ?_) (fun c8 => ?_)
    · have e1 : sk (μ 1) (μ 0 1) (μ 0 13) = μ 0 13 := rn_stop (fun h => by omega)
      rw [e1, mset_id] at hQ
      rw [if_neg (by omega)] at hQ
      refine Rj_aload_n (q := 39) d_M_see_38 rfl rfl rfl ?_
      refine Rj_gi (q := 42) (ki := 13) (v := μ 0 13) gM_M_110_0 rfl rfl rfl d_M_see_39 rfl ?_
      refine Rj_aload_n (q := 43) d_M_see_42 rfl rfl rfl ?_
      refine Rj_gi (q := 46) (ki := 1) (v := μ 0 1) gM_M_99_0 rfl rfl rfl d_M_see_43 rfl ?_
      refine Rj_icmp_ge (q := 49) (t := 65) d_M_see_46 rfl (by decide) (by first | exact ⟨by omega, by omega⟩ | (have := hX2 (μ 0 13) (by omega) (by omega); constructor <;> omega)) (by first | exact ⟨by omega, by omega⟩ | (have := hX2 (μ 0 13) (by omega) (by omega); constructor <;> omega)) (fun c46 => ?_) (fun c46 => ?_)
      · refine Rj_iconst (q := 66) d_M_see_65 rfl ?_
        refine Rj_iret d_M_see_66 rfl ?_
        first | exact hQ | (exfalso; omega)
      · refine Rj_aload_n (q := 50) d_M_see_49 rfl rfl rfl ?_
        refine Rj_gr (q := 53) (zd := 1) gM_M_7_0 rfl rfl d_M_see_50 rfl ?_
        refine Rj_aload_n (q := 54) d_M_see_53 rfl rfl rfl ?_
        refine Rj_gi (q := 57) (ki := 13) (v := μ 0 13) gM_M_110_0 rfl rfl rfl d_M_see_54 rfl ?_
        refine Rj_ba (q := 58) (v := μ 1 (μ 0 13)) aM_1 rfl (by omega) rfl d_M_see_57 rfl ?_
        refine Rj_sipush (q := 61) d_M_see_58 rfl (by decide +kernel) ?_
        refine Rj_iand (q := 62) (z := z_and (μ 1 (μ 0 13)) 255) d_M_see_61 rfl rfl ?_
        refine Rj_goto (t := 66) d_M_see_62 (by decide) ?_
        refine Rj_iret d_M_see_66 rfl ?_
        first | exact hQ | (exfalso; omega)
    · refine Rj_aload_n (q := 12) d_M_see_11 rfl rfl rfl ?_
      refine Rj_gr (q := 15) (zd := 1) gM_M_7_0 rfl rfl d_M_see_12 rfl ?_
      refine Rj_aload_n (q := 16) d_M_see_15 rfl rfl rfl ?_
      refine Rj_gi (q := 19) (ki := 13) (v := μ 0 13) gM_M_110_0 rfl rfl rfl d_M_see_16 rfl ?_
      refine Rj_ba (q := 20) (v := μ 1 (μ 0 13)) aM_1 rfl (by omega) rfl d_M_see_19 rfl ?_
      refine Rj_bipush (q := 22) d_M_see_20 rfl (by decide +kernel) ?_
      refine Rj_icmp_ne (q := 25) (t := 38) d_M_see_22 rfl (by decide) (by first | exact ⟨by omega, by omega⟩ | (have := hX2 (μ 0 13) (by omega) (by omega); constructor <;> omega)) (by decide) (fun c22 => ?_) (fun c22 => ?_)
      · have e1 : sk (μ 1) (μ 0 1) (μ 0 13) = μ 0 13 := rn_stop (fun h => c22 (by simpa using h.2))
        rw [e1, mset_id, if_pos c8] at hQ
        refine Rj_aload_n (q := 39) d_M_see_38 rfl rfl rfl ?_
        refine Rj_gi (q := 42) (ki := 13) (v := μ 0 13) gM_M_110_0 rfl rfl rfl d_M_see_39 rfl ?_
        refine Rj_aload_n (q := 43) d_M_see_42 rfl rfl rfl ?_
        refine Rj_gi (q := 46) (ki := 1) (v := μ 0 1) gM_M_99_0 rfl rfl rfl d_M_see_43 rfl ?_
        refine Rj_icmp_ge (q := 49) (t := 65) d_M_see_46 rfl (by decide) (by first | exact ⟨by omega, by omega⟩ | (have := hX2 (μ 0 13) (by omega) (by omega); constructor <;> omega)) (by first | exact ⟨by omega, by omega⟩ | (have := hX2 (μ 0 13) (by omega) (by omega); constructor <;> omega)) (fun c46 => ?_) (fun c46 => ?_)
        · refine Rj_iconst (q := 66) d_M_see_65 rfl ?_
          refine Rj_iret d_M_see_66 rfl ?_
          first | exact hQ | (exfalso; omega)
        · refine Rj_aload_n (q := 50) d_M_see_49 rfl rfl rfl ?_
          refine Rj_gr (q := 53) (zd := 1) gM_M_7_0 rfl rfl d_M_see_50 rfl ?_
          refine Rj_aload_n (q := 54) d_M_see_53 rfl rfl rfl ?_
          refine Rj_gi (q := 57) (ki := 13) (v := μ 0 13) gM_M_110_0 rfl rfl rfl d_M_see_54 rfl ?_
          refine Rj_ba (q := 58) (v := μ 1 (μ 0 13)) aM_1 rfl (by omega) rfl d_M_see_57 rfl ?_
          refine Rj_sipush (q := 61) d_M_see_58 rfl (by decide +kernel) ?_
          refine Rj_iand (q := 62) (z := z_and (μ 1 (μ 0 13)) 255) d_M_see_61 rfl rfl ?_
          refine Rj_goto (t := 66) d_M_see_62 (by decide) ?_
          refine Rj_iret d_M_see_66 rfl ?_
          first | exact hQ | (exfalso; omega)
      · refine Rj_aload_n (q := 26) d_M_see_25 rfl rfl rfl ?_
        refine Rj_dup (q := 27) d_M_see_26 rfl (by intro h; cases h) ?_
        refine Rj_gi (q := 30) (ki := 13) (v := μ 0 13) gM_M_110_0 rfl rfl rfl d_M_see_27 rfl ?_
        refine Rj_iconst (q := 31) d_M_see_30 rfl ?_
        refine Rj_iadd (q := 32) d_M_see_31 rfl ?_
        refine Rj_pi (q := 35) (ki := 13) pM_M_110_0 rfl rfl d_M_see_32 rfl ?_
        refine Rj_goto (t := 0) d_M_see_35 (by decide) ?_
        have e1 : sk (μ 1) (μ 0 1) (μ 0 13) = sk (μ 1) (μ 0 1) (μ 0 13 + 1) := rn_step c8 (by simpa using c22)
        rw [e1] at hQ
        exact ih (A := μ 1) (n := μ 0 1) (k := μ 0 13 + 1) (by omega) hX rfl rfl (mset_same _ _ _ _) (by omega) (by rw [mset_mset]; exact hQ)
/-- the sign that is seen -/
def seeV (A : Int → Int) (n k : Int) : Int := if k < n then z_and (A k) 255 else -1
theorem z_and_255 {a : Int} (ha : i32 a) : z_and a 255 = a % 256 := by
  have h := z_byte ha (k := 0) (Or.inl rfl)
  have e : z_ush a 0 = a := by
    unfold z_ush
    obtain ⟨m, hm, he⟩ := wb_of32 (Int32.ofInt a)
    rw [he, show Int32.ofInt 0 = nI 0 from rfl, z_ush_n hm (by decide), Nat.pow_zero, Nat.div_one, ← he, o32 ha]
  rw [e] at h
  simpa using h
theorem seeV_eq {A : Int → Int} {n k : Int} (hX : TX A n) (h0 : 0 ≤ k) {c : Int} (hc : 0 ≤ c ∧ c ≤ 127) : seeV A n k = c ↔ k < n ∧ A k = c := by
  unfold seeV
  split
  · rename_i h
    have := hX.2 k h0 (by have := hX.1; omega)
    rw [z_and_255 ⟨by omega, by omega⟩]
    omega
  · omega
theorem seeV_none {A : Int → Int} {n k : Int} (hX : TX A n) (h0 : 0 ≤ k) : seeV A n k = -1 ↔ ¬ k < n := by
  unfold seeV
  split
  · rename_i h
    have := hX.2 k h0 (by have := hX.1; omega)
    rw [z_and_255 ⟨by omega, by omega⟩]
    omega
  · rename_i h; simp [h]
theorem seeV_32 {A : Int → Int} {n k : Int} (hX : TX A n) (h0 : 0 ≤ k) : i32 (seeV A n k) := by
  unfold seeV
  split
  · rename_i h
    have := hX.2 k h0 (by have := hX.1; omega)
    rw [z_and_255 ⟨by omega, by omega⟩]
    constructor <;> omega
  · decide
theorem s_M_see {μ : Mem} {Q : PV → Mem → Prop} {A : Int → Int} {n : Int} (hX : TX A n) (hA : μ 1 = A) (hn : μ 0 1 = n) {k : Int} (hk : μ 0 13 = k) (h0 : 0 ≤ k ∧ k ≤ n) (hQ : Q (vI (seeV A n (sk A n k))) (mset μ 0 13 (sk A n k))) : Rj YM y_M_see 0 [vA 0] [] μ Q := s_M_see_f _ (Nat.lt_succ_self _) hX hA hn hk h0 hQ
