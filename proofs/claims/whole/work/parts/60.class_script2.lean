theorem oD_2_Sp_isAtWord : OI YD 2 y_Sp_isAtWord := ⟨by decide, _, _, _, cD_2, rfl⟩
theorem oD_2_Sp_fail : OI YD 2 y_Sp_fail := ⟨by decide, _, _, _, cD_2, rfl⟩
theorem gD_Sp_28_2 : GI YD "DoorsOnCogs$Script" 28 2 3 none := ⟨by decide, _, _, _, fl_Sp_28, cD_2, by decide, rfl⟩
theorem pD_Sp_28_2 : PI YD "DoorsOnCogs$Script" 28 2 3 none .int := ⟨by decide, _, _, _, fl_Sp_28, fp_7_3, cD_2, by decide, rfl⟩
theorem oD_2_Sp_isAtDigit : OI YD 2 y_Sp_isAtDigit := ⟨by decide, _, _, _, cD_2, rfl⟩
/-! the class reads a text: words taken, numbers, what parts two clauses -/
theorem wN_0 : wN 0 = 1835365224 := by decide +kernel
theorem wN_1 : wN 1 = 1650814068 := by decide +kernel
theorem wN_2 : wN 2 = 1635282021 := by decide +kernel
theorem wN_3 : wN 3 = 1685024626 := by decide +kernel
theorem wN_4 : wN 4 = 439856162148 := by decide +kernel
theorem wN_5 : wN 5 = 1886745448 := by decide +kernel
theorem wN_6 : wN 6 = 7237492 := by decide +kernel
theorem wN_7 : wN 7 = 499917354088 := by decide +kernel
theorem wN_8 : wN 8 = 1936744814 := by decide +kernel
theorem wN_9 : wN 9 = 482854658917 := by decide +kernel
theorem wN_10 : wN 10 = 1869636974 := by decide +kernel
theorem wN_11 : wN 11 = 478627065459 := by decide +kernel
theorem wN_12 : wN 12 = 457135713907 := by decide +kernel
theorem wN_13 : wN 13 = 109330228145767 := by decide +kernel
theorem wN_14 : wN 14 = 26982 := by decide +kernel
theorem wN_15 : wN 15 = 6385252 := by decide +kernel
theorem wN_16 : wN 16 = 28530 := by decide +kernel
theorem sLn_0 : sLn 0 = 4 := by decide
theorem sLn_1 : sLn 1 = 4 := by decide
theorem sLn_2 : sLn 2 = 4 := by decide
theorem sLn_3 : sLn 3 = 4 := by decide
theorem sLn_4 : sLn 4 = 5 := by decide
theorem sLn_5 : sLn 5 = 4 := by decide
theorem sLn_6 : sLn 6 = 3 := by decide
theorem sLn_7 : sLn 7 = 5 := by decide
theorem sLn_8 : sLn 8 = 4 := by decide
theorem sLn_9 : sLn 9 = 5 := by decide
theorem sLn_10 : sLn 10 = 4 := by decide
theorem sLn_11 : sLn 11 = 5 := by decide
theorem sLn_12 : sLn 12 = 5 := by decide
theorem sLn_13 : sLn 13 = 6 := by decide
theorem sLn_14 : sLn 14 = 2 := by decide
theorem sLn_15 : sLn 15 = 3 := by decide
theorem sLn_16 : sLn 16 = 2 := by decide
set_option maxHeartbeats 4000000 in
theorem s_takeWord {μ : Mem} {Q : PV → Mem → Prop} {A : Int → Int} {n k : Int} (hT : TD μ A n) (hk : μ 2 2 = k) (h0 : 0 ≤ k ∧ k ≤ n) {w : Nat} {z : Int} (hz : z.toNat = w) (hw : w < 17) (hQ : Q (vI (bI (wat A n (sk A n k) (wN w)))) (mset μ 2 2 (if wat A n (sk A n k) (wN w) = true then lend A n (sk A n k) else sk A n k))) : Rj YD y_Sp_takeWord 0 [vA 2, vK z] [] μ Q := by
  have hn := hT.2.1
  have hX := hT.1.1
  refine Rj_aload_n (q := 1) d_Sp_takeWord_0 rfl rfl rfl ?_
  refine Rj_kload_n (q := 2) d_Sp_takeWord_1 rfl rfl rfl ?_
  refine Rj_vo (q := 5) (z := y_Sp_isAtWord) (as := [vK z]) (rest := []) (la := [vA 2, vK z]) oD_2_Sp_isAtWord ml_Sp_47 mw_Sp_isAtWord mv_Sp_isAtWord rfl d_Sp_takeWord_2 rfl rfl rfl rfl rfl ?_
  refine s_isAtWord (μ := μ) (A := A) (n := n) (k := k) (w := w) (hT.keep rfl rfl) hk (by omega) hz hw ?_
  have r2 := sk_bd A (n := n) (k := k) (by omega)
  refine Rj_b_ne (q := 8) (t := 10) d_Sp_takeWord_5 rfl (by decide) (fun c5 => ?_) (fun c5 => ?_)
  · rw [if_pos c5, WAT_end hw ((WAT_iff hw).mp c5)] at hQ
    refine Rj_aload_n (q := 11) d_Sp_takeWord_10 rfl rfl rfl ?_
    refine Rj_dup (q := 12) d_Sp_takeWord_11 rfl (by intro h; cases h) ?_
    refine Rj_gi (q := 15) (ki := 2) (v := sk A n k) gD_Sp_25_2 rfl rfl rfl d_Sp_takeWord_12 rfl ?_
    refine Rj_kload_n (q := 16) d_Sp_takeWord_15 rfl rfl rfl ?_
    refine Rj_ck (q := 19) (z := y_Jstr_length) (as := []) (rest := [vI (sk A n k), vA 2]) (la := [vK z]) ml_Sp_35 mw_Jstr_length mv_Jstr_length rfl hz hw d_Sp_takeWord_16 rfl rfl rfl rfl rfl ?_
    refine s_J_length hz hw ?_
    refine Rj_iadd (q := 20) d_Sp_takeWord_19 rfl ?_
    refine Rj_pi (q := 23) (ki := 2) pD_Sp_25_2 rfl rfl d_Sp_takeWord_20 rfl ?_
    rw [mset_mset]
    refine Rj_iconst (q := 24) d_Sp_takeWord_23 rfl ?_
    refine Rj_bret1 d_Sp_takeWord_24 rfl ?_
    exact fin_I hQ (bI_t c5)
  · rw [if_neg (by rw [c5]; decide)] at hQ
    refine Rj_iconst (q := 9) d_Sp_takeWord_8 rfl ?_
    refine Rj_bret0 d_Sp_takeWord_9 rfl ?_
    exact fin_I hQ (bI_f c5)
set_option maxHeartbeats 4000000 in
theorem s_takeNum_l : ∀ (f : Nat) {μ : Mem} {Q : PV → Mem → Prop} {A : Int → Int} {n k : Int} {a v : Int}, ((n - k).toNat < f) → (TD μ A n) → (μ 2 2 = k) → (0 ≤ k ∧ k ≤ n) → (μ 2 3 = 0) → (0 ≤ a ∧ a ≤ k ∧ k ≤ dend A n a) → (v = dval A a k) → (dend A n a - a ≤ 5 → Q (vI (dval A a (dend A n a))) (mset μ 2 2 (dend A n a))) → (¬ (dend A n a - a ≤ 5) → Q (vI (-1)) (mset (mset μ 2 2 (dend A n a)) 2 3 (1 + 8 * a + 1))) → Rj YD y_Sp_takeNumber 25 [vA 2, vI a, vI v] [] μ Q := by
  intro f
  induction f with
  | zero => intro μ Q A n k a v hf hT hk h0 hf0 ha hv h1 h3; exact absurd hf (by omega)
  | succ f ih =>
    intro μ Q A n k a v hf hT hk h0 hf0 ha hv h1 h3
    have hn := hT.2.1
    have hX := hT.1.1
    have hdb := dval_bd (A := A) (n := n) (k := a)
    have hle := dend_bd A (n := n) (k := a) (by omega)
    have hv0 : 0 ≤ v ∧ v ≤ 99999 := by
      rw [hv]
      have hb := dv_bd (A := A) (n := n) (k := a) rfl (if k - a < 5 then (k - a).toNat else 5) (by split <;> omega) (by split <;> omega)
      have h3 : (10 : Int) ^ (if k - a < 5 then (k - a).toNat else 5) ≤ 10 ^ 5 := ipow_le (c := 10) (by decide) (by split <;> omega)
      refine ⟨hb.1, ?_⟩
      have := hb.2
      show dv A a _ ≤ 99999
      omega
    refine Rj_aload_n (q := 26) d_Sp_takeNumber_25 rfl rfl rfl ?_
    refine Rj_gi (q := 29) (ki := 2) (v := k) gD_Sp_25_2 rfl rfl hk d_Sp_takeNumber_26 rfl ?_
    refine Rj_aload_n (q := 30) d_Sp_takeNumber_29 rfl rfl rfl ?_
    refine Rj_gi (q := 33) (ki := 1) (v := n) gD_Sp_21_2 rfl rfl hn d_Sp_takeNumber_30 rfl ?_
    refine Rj_icmp_ge (q := 36) (t := 105) d_Sp_takeNumber_33 rfl (by decide) (by first | exact ⟨by omega, by omega⟩ | (constructor <;> omega)) (by first | exact ⟨by omega, by omega⟩ | (constructor <;> omega)) (fun c33 => ?_) (fun c33 => ?_)
    · have hnd : ¬ (k < n ∧ isDg A k = true) := fun h => by have := of_decide_eq_true h.2; omega
      have he : dend A n a = k := by
        rcases Int.lt_or_le k (dend A n a) with h | h
        · exact absurd (rn_all (p := isDg A) (n := n) (k := a) (j := k) (by omega) h) hnd
        · omega
      rw [he, ← hk, mset_id, hk] at h1 h3
      rw [← hv] at h1
      refine Rj_aload_n (q := 106) d_Sp_takeNumber_105 rfl rfl rfl ?_
      refine Rj_gi (q := 109) (ki := 2) (v := k) gD_Sp_25_2 rfl rfl hk d_Sp_takeNumber_106 rfl ?_
      refine Rj_iload_n (q := 110) d_Sp_takeNumber_109 rfl rfl rfl ?_
      refine Rj_isub (q := 111) d_Sp_takeNumber_110 rfl ?_
      refine Rj_iconst (q := 112) d_Sp_takeNumber_111 rfl ?_
      refine Rj_icmp_le (q := 115) (t := 123) d_Sp_takeNumber_112 rfl (by decide) (by first | exact ⟨by omega, by omega⟩ | (constructor <;> omega)) (by decide) (fun c112 => ?_) (fun c112 => ?_)
      · refine Rj_iload_n (q := 124) d_Sp_takeNumber_123 rfl rfl rfl ?_
        refine Rj_iret d_Sp_takeNumber_124 rfl ?_
        first | exact h1 (by omega) | exact h3 (by omega)
      · refine Rj_aload_n (q := 116) d_Sp_takeNumber_115 rfl rfl rfl ?_
        refine Rj_iload_n (q := 117) d_Sp_takeNumber_116 rfl rfl rfl ?_
        refine Rj_iconst (q := 118) d_Sp_takeNumber_117 rfl ?_
        refine Rj_vov (q := 121) (z := y_Sp_fail) (as := [vI a, vI 1]) (rest := []) (la := [vA 2, vI a, vI 1]) oD_2_Sp_fail ml_Sp_55 mw_Sp_fail mv_Sp_fail rfl d_Sp_takeNumber_118 rfl rfl rfl rfl rfl ?_
        refine Rj_aload_n (q := 1) d_Sp_fail_0 rfl rfl rfl ?_
        refine Rj_gi (q := 4) (ki := 3) (v := 0) gD_Sp_28_2 rfl rfl hf0 d_Sp_fail_1 rfl ?_
        refine Rj_if_ne (q := 7) (t := 19) d_Sp_fail_4 rfl (by decide) (by decide) (fun c => absurd c (by decide)) (fun _ => ?_)
        refine Rj_aload_n (q := 8) d_Sp_fail_7 rfl rfl rfl ?_
        refine Rj_iconst (q := 9) d_Sp_fail_8 rfl ?_
        refine Rj_bipush (q := 11) d_Sp_fail_9 rfl (by decide +kernel) ?_
        refine Rj_iload_n (q := 12) d_Sp_fail_11 rfl rfl rfl ?_
        refine Rj_imul (q := 13) d_Sp_fail_12 rfl ?_
        refine Rj_iadd (q := 14) d_Sp_fail_13 rfl ?_
        refine Rj_iload_n (q := 15) d_Sp_fail_14 rfl rfl rfl ?_
        refine Rj_iadd (q := 16) d_Sp_fail_15 rfl ?_
        refine Rj_pi (q := 19) (ki := 3) pD_Sp_28_2 rfl rfl d_Sp_fail_16 rfl ?_
        refine Rj_vret d_Sp_fail_19 rfl ?_
        refine Rj_iconst (q := 122) d_Sp_takeNumber_121 rfl ?_
        refine Rj_iret d_Sp_takeNumber_122 rfl ?_
        first | exact h1 (by omega) | exact h3 (by omega)
    · have hat := hT.at h0.1 c33
      refine Rj_aload_n (q := 37) d_Sp_takeNumber_36 rfl rfl rfl ?_
      refine Rj_gr (q := 40) (zd := 1) gD_Sp_9_2 rfl rfl d_Sp_takeNumber_37 rfl ?_
      refine Rj_aload_n (q := 41) d_Sp_takeNumber_40 rfl rfl rfl ?_
      refine Rj_gi (q := 44) (ki := 2) (v := k) gD_Sp_25_2 rfl rfl hk d_Sp_takeNumber_41 rfl ?_
      refine Rj_ia (q := 45) (v := μ 1 k) aD_1 rfl (by omega) rfl d_Sp_takeNumber_44 rfl ?_
      refine Rj_bipush (q := 47) d_Sp_takeNumber_45 rfl (by decide +kernel) ?_
      refine Rj_icmp_lt (q := 50) (t := 105) d_Sp_takeNumber_47 rfl (by decide) (by first | exact ⟨by omega, by omega⟩ | (constructor <;> omega)) (by decide) (fun c47 => ?_) (fun c47 => ?_)
      · have hnd : ¬ (k < n ∧ isDg A k = true) := fun h => by have := of_decide_eq_true h.2; omega
        have he : dend A n a = k := by
          rcases Int.lt_or_le k (dend A n a) with h | h
          · exact absurd (rn_all (p := isDg A) (n := n) (k := a) (j := k) (by omega) h) hnd
          · omega
        rw [he, ← hk, mset_id, hk] at h1 h3
        rw [← hv] at h1
        refine Rj_aload_n (q := 106) d_Sp_takeNumber_105 rfl rfl rfl ?_
        refine Rj_gi (q := 109) (ki := 2) (v := k) gD_Sp_25_2 rfl rfl hk d_Sp_takeNumber_106 rfl ?_
        refine Rj_iload_n (q := 110) d_Sp_takeNumber_109 rfl rfl rfl ?_
        refine Rj_isub (q := 111) d_Sp_takeNumber_110 rfl ?_
        refine Rj_iconst (q := 112) d_Sp_takeNumber_111 rfl ?_
        refine Rj_icmp_le (q := 115) (t := 123) d_Sp_takeNumber_112 rfl (by decide) (by first | exact ⟨by omega, by omega⟩ | (constructor <;> omega)) (by decide) (fun c112 => ?_) (fun c112 => ?_)
        · refine Rj_iload_n (q := 124) d_Sp_takeNumber_123 rfl rfl rfl ?_
          refine Rj_iret d_Sp_takeNumber_124 rfl ?_
          first | exact h1 (by omega) | exact h3 (by omega)
        · refine Rj_aload_n (q := 116) d_Sp_takeNumber_115 rfl rfl rfl ?_
          refine Rj_iload_n (q := 117) d_Sp_takeNumber_116 rfl rfl rfl ?_
          refine Rj_iconst (q := 118) d_Sp_takeNumber_117 rfl ?_
          refine Rj_vov (q := 121) (z := y_Sp_fail) (as := [vI a, vI 1]) (rest := []) (la := [vA 2, vI a, vI 1]) oD_2_Sp_fail ml_Sp_55 mw_Sp_fail mv_Sp_fail rfl d_Sp_takeNumber_118 rfl rfl rfl rfl rfl ?_
          refine Rj_aload_n (q := 1) d_Sp_fail_0 rfl rfl rfl ?_
          refine Rj_gi (q := 4) (ki := 3) (v := 0) gD_Sp_28_2 rfl rfl hf0 d_Sp_fail_1 rfl ?_
          refine Rj_if_ne (q := 7) (t := 19) d_Sp_fail_4 rfl (by decide) (by decide) (fun c => absurd c (by decide)) (fun _ => ?_)
          refine Rj_aload_n (q := 8) d_Sp_fail_7 rfl rfl rfl ?_
          refine Rj_iconst (q := 9) d_Sp_fail_8 rfl ?_
          refine Rj_bipush (q := 11) d_Sp_fail_9 rfl (by decide +kernel) ?_
          refine Rj_iload_n (q := 12) d_Sp_fail_11 rfl rfl rfl ?_
          refine Rj_imul (q := 13) d_Sp_fail_12 rfl ?_
          refine Rj_iadd (q := 14) d_Sp_fail_13 rfl ?_
          refine Rj_iload_n (q := 15) d_Sp_fail_14 rfl rfl rfl ?_
          refine Rj_iadd (q := 16) d_Sp_fail_15 rfl ?_
          refine Rj_pi (q := 19) (ki := 3) pD_Sp_28_2 rfl rfl d_Sp_fail_16 rfl ?_
          refine Rj_vret d_Sp_fail_19 rfl ?_
          refine Rj_iconst (q := 122) d_Sp_takeNumber_121 rfl ?_
          refine Rj_iret d_Sp_takeNumber_122 rfl ?_
          first | exact h1 (by omega) | exact h3 (by omega)
      · refine Rj_aload_n (q := 51) d_Sp_takeNumber_50 rfl rfl rfl ?_
        refine Rj_gr (q := 54) (zd := 1) gD_Sp_9_2 rfl rfl d_Sp_takeNumber_51 rfl ?_
        refine Rj_aload_n (q := 55) d_Sp_takeNumber_54 rfl rfl rfl ?_
        refine Rj_gi (q := 58) (ki := 2) (v := k) gD_Sp_25_2 rfl rfl hk d_Sp_takeNumber_55 rfl ?_
        refine Rj_ia (q := 59) (v := μ 1 k) aD_1 rfl (by omega) rfl d_Sp_takeNumber_58 rfl ?_
        refine Rj_bipush (q := 61) d_Sp_takeNumber_59 rfl (by decide +kernel) ?_
        refine Rj_icmp_gt (q := 64) (t := 105) d_Sp_takeNumber_61 rfl (by decide) (by first | exact ⟨by omega, by omega⟩ | (constructor <;> omega)) (by decide) (fun c61 => ?_) (fun c61 => ?_)
        · have hnd : ¬ (k < n ∧ isDg A k = true) := fun h => by have := of_decide_eq_true h.2; omega
          have he : dend A n a = k := by
            rcases Int.lt_or_le k (dend A n a) with h | h
            · exact absurd (rn_all (p := isDg A) (n := n) (k := a) (j := k) (by omega) h) hnd
            · omega
          rw [he, ← hk, mset_id, hk] at h1 h3
          rw [← hv] at h1
          refine Rj_aload_n (q := 106) d_Sp_takeNumber_105 rfl rfl rfl ?_
          refine Rj_gi (q := 109) (ki := 2) (v := k) gD_Sp_25_2 rfl rfl hk d_Sp_takeNumber_106 rfl ?_
          refine Rj_iload_n (q := 110) d_Sp_takeNumber_109 rfl rfl rfl ?_
          refine Rj_isub (q := 111) d_Sp_takeNumber_110 rfl ?_
          refine Rj_iconst (q := 112) d_Sp_takeNumber_111 rfl ?_
          refine Rj_icmp_le (q := 115) (t := 123) d_Sp_takeNumber_112 rfl (by decide) (by first | exact ⟨by omega, by omega⟩ | (constructor <;> omega)) (by decide) (fun c112 => ?_) (fun c112 => ?_)
          · refine Rj_iload_n (q := 124) d_Sp_takeNumber_123 rfl rfl rfl ?_
            refine Rj_iret d_Sp_takeNumber_124 rfl ?_
            first | exact h1 (by omega) | exact h3 (by omega)
          · refine Rj_aload_n (q := 116) d_Sp_takeNumber_115 rfl rfl rfl ?_
            refine Rj_iload_n (q := 117) d_Sp_takeNumber_116 rfl rfl rfl ?_
            refine Rj_iconst (q := 118) d_Sp_takeNumber_117 rfl ?_
            refine Rj_vov (q := 121) (z := y_Sp_fail) (as := [vI a, vI 1]) (rest := []) (la := [vA 2, vI a, vI 1]) oD_2_Sp_fail ml_Sp_55 mw_Sp_fail mv_Sp_fail rfl d_Sp_takeNumber_118 rfl rfl rfl rfl rfl ?_
            refine Rj_aload_n (q := 1) d_Sp_fail_0 rfl rfl rfl ?_
            refine Rj_gi (q := 4) (ki := 3) (v := 0) gD_Sp_28_2 rfl rfl hf0 d_Sp_fail_1 rfl ?_
            refine Rj_if_ne (q := 7) (t := 19) d_Sp_fail_4 rfl (by decide) (by decide) (fun c => absurd c (by decide)) (fun _ => ?_)
            refine Rj_aload_n (q := 8) d_Sp_fail_7 rfl rfl rfl ?_
            refine Rj_iconst (q := 9) d_Sp_fail_8 rfl ?_
            refine Rj_bipush (q := 11) d_Sp_fail_9 rfl (by decide +kernel) ?_
            refine Rj_iload_n (q := 12) d_Sp_fail_11 rfl rfl rfl ?_
            refine Rj_imul (q := 13) d_Sp_fail_12 rfl ?_
            refine Rj_iadd (q := 14) d_Sp_fail_13 rfl ?_
            refine Rj_iload_n (q := 15) d_Sp_fail_14 rfl rfl rfl ?_
            refine Rj_iadd (q := 16) d_Sp_fail_15 rfl ?_
            refine Rj_pi (q := 19) (ki := 3) pD_Sp_28_2 rfl rfl d_Sp_fail_16 rfl ?_
            refine Rj_vret d_Sp_fail_19 rfl ?_
            refine Rj_iconst (q := 122) d_Sp_takeNumber_121 rfl ?_
            refine Rj_iret d_Sp_takeNumber_122 rfl ?_
            first | exact h1 (by omega) | exact h3 (by omega)
        · refine Rj_aload_n (q := 65) d_Sp_takeNumber_64 rfl rfl rfl ?_
          refine Rj_gi (q := 68) (ki := 2) (v := k) gD_Sp_25_2 rfl rfl hk d_Sp_takeNumber_65 rfl ?_
          refine Rj_iload_n (q := 69) d_Sp_takeNumber_68 rfl rfl rfl ?_
          refine Rj_isub (q := 70) d_Sp_takeNumber_69 rfl ?_
          refine Rj_iconst (q := 71) d_Sp_takeNumber_70 rfl ?_
          refine Rj_icmp_ge (q := 74) (t := 92) d_Sp_takeNumber_71 rfl (by decide) (by first | exact ⟨by omega, by omega⟩ | (constructor <;> omega)) (by decide) (fun c71 => ?_) (fun c71 => ?_)
          · refine Rj_aload_n (q := 93) d_Sp_takeNumber_92 rfl rfl rfl ?_
            refine Rj_dup (q := 94) d_Sp_takeNumber_93 rfl (by intro h; cases h) ?_
            refine Rj_gi (q := 97) (ki := 2) (v := k) gD_Sp_25_2 rfl rfl hk d_Sp_takeNumber_94 rfl ?_
            refine Rj_iconst (q := 98) d_Sp_takeNumber_97 rfl ?_
            refine Rj_iadd (q := 99) d_Sp_takeNumber_98 rfl ?_
            refine Rj_pi (q := 102) (ki := 2) pD_Sp_25_2 rfl rfl d_Sp_takeNumber_99 rfl ?_
            refine Rj_goto (t := 25) d_Sp_takeNumber_102 (by decide) ?_
            have hyd : k < n ∧ isDg A k = true := ⟨c33, decide_eq_true ⟨by omega, by omega⟩⟩
            have hn1 : k + 1 ≤ dend A n a := by
              rcases Int.lt_or_le k (dend A n a) with h | h
              · omega
              · have he : dend A n a = k := by omega
                have := rn_end (isDg A) n a
                rw [show rn (isDg A) n a = k from he] at this
                exact absurd hyd this
            exact ih (μ := mset μ 2 2 (k + 1)) (A := A) (n := n) (k := k + 1) (by omega) (hT.keep rfl rfl) (mset_same _ _ _ _) (by omega) hf0 ⟨by omega, by omega, hn1⟩ (by rw [hv]; unfold dval; rw [if_neg (by omega), if_neg (by omega)]) (by rw [mset_mset]; exact h1) (by rw [mset_mset]; exact h3)
          · refine Rj_iload_n (q := 75) d_Sp_takeNumber_74 rfl rfl rfl ?_
            refine Rj_bipush (q := 77) d_Sp_takeNumber_75 rfl (by decide +kernel) ?_
            refine Rj_imul (q := 78) d_Sp_takeNumber_77 rfl ?_
            refine Rj_aload_n (q := 79) d_Sp_takeNumber_78 rfl rfl rfl ?_
            refine Rj_gr (q := 82) (zd := 1) gD_Sp_9_2 rfl rfl d_Sp_takeNumber_79 rfl ?_
            refine Rj_aload_n (q := 83) d_Sp_takeNumber_82 rfl rfl rfl ?_
            refine Rj_gi (q := 86) (ki := 2) (v := k) gD_Sp_25_2 rfl rfl hk d_Sp_takeNumber_83 rfl ?_
            refine Rj_ia (q := 87) (v := μ 1 k) aD_1 rfl (by omega) rfl d_Sp_takeNumber_86 rfl ?_
            refine Rj_iadd (q := 88) d_Sp_takeNumber_87 rfl ?_
            refine Rj_bipush (q := 90) d_Sp_takeNumber_88 rfl (by decide +kernel) ?_
            refine Rj_isub (q := 91) d_Sp_takeNumber_90 rfl ?_
            refine Rj_istore_n (q := 92) (ls' := [vA 2, vI a, vI (((v * 10) + (μ 1 k)) - 48)]) d_Sp_takeNumber_91 rfl rfl (by decide) rfl ?_
            refine Rj_aload_n (q := 93) d_Sp_takeNumber_92 rfl rfl rfl ?_
            refine Rj_dup (q := 94) d_Sp_takeNumber_93 rfl (by intro h; cases h) ?_
            refine Rj_gi (q := 97) (ki := 2) (v := k) gD_Sp_25_2 rfl rfl hk d_Sp_takeNumber_94 rfl ?_
            refine Rj_iconst (q := 98) d_Sp_takeNumber_97 rfl ?_
            refine Rj_iadd (q := 99) d_Sp_takeNumber_98 rfl ?_
            refine Rj_pi (q := 102) (ki := 2) pD_Sp_25_2 rfl rfl d_Sp_takeNumber_99 rfl ?_
            refine Rj_goto (t := 25) d_Sp_takeNumber_102 (by decide) ?_
            have hyd : k < n ∧ isDg A k = true := ⟨c33, decide_eq_true ⟨by omega, by omega⟩⟩
            have hn1 : k + 1 ≤ dend A n a := by
              rcases Int.lt_or_le k (dend A n a) with h | h
              · omega
              · have he : dend A n a = k := by omega
                have := rn_end (isDg A) n a
                rw [show rn (isDg A) n a = k from he] at this
                exact absurd hyd this
            exact ih (μ := mset μ 2 2 (k + 1)) (A := A) (n := n) (k := k + 1) (by omega) (hT.keep rfl rfl) (mset_same _ _ _ _) (by omega) hf0 ⟨by omega, by omega, hn1⟩ (by
              unfold dval at hv ⊢
              rw [if_pos (by omega)] at hv
              have e5 : (if k + 1 - a < 5 then (k + 1 - a).toNat else 5) = (k - a).toNat + 1 := by split <;> omega
              rw [e5]
              show _ = 10 * dv A a (k - a).toNat + A (a + ((k - a).toNat : Int)) - 48
              rw [← hv, show a + ((k - a).toNat : Int) = k by omega]
              omega) (by rw [mset_mset]; exact h1) (by rw [mset_mset]; exact h3)
set_option maxHeartbeats 4000000 in
theorem s_takeNumber {μ : Mem} {Q : PV → Mem → Prop} {A : Int → Int} {n k : Int} (hT : TD μ A n) (hk : μ 2 2 = k) (h0 : 0 ≤ k ∧ k ≤ n) (hf0 : μ 2 3 = 0) (h1 : (sk A n k < n ∧ isDg A (sk A n k) = true) → dend A n (sk A n k) - sk A n k ≤ 5 → Q (vI (dval A (sk A n k) (dend A n (sk A n k)))) (mset μ 2 2 (dend A n (sk A n k)))) (h2 : ¬ (sk A n k < n ∧ isDg A (sk A n k) = true) → Q (vI (-1)) (mset (mset μ 2 2 (sk A n k)) 2 3 (1 + 8 * sk A n k + 0))) (h3 : (sk A n k < n ∧ isDg A (sk A n k) = true) → ¬ (dend A n (sk A n k) - sk A n k ≤ 5) → Q (vI (-1)) (mset (mset μ 2 2 (dend A n (sk A n k))) 2 3 (1 + 8 * sk A n k + 1))) : Rj YD y_Sp_takeNumber 0 [vA 2] [] μ Q := by
  have hn := hT.2.1
  have hX := hT.1.1
  refine Rj_aload_n (q := 1) d_Sp_takeNumber_0 rfl rfl rfl ?_
  refine Rj_vo (q := 4) (z := y_Sp_isAtDigit) (as := []) (rest := []) (la := [vA 2]) oD_2_Sp_isAtDigit ml_Sp_51 mw_Sp_isAtDigit mv_Sp_isAtDigit rfl d_Sp_takeNumber_1 rfl rfl rfl rfl rfl ?_
  refine Rj_aload_n (q := 1) d_Sp_isAtDigit_0 rfl rfl rfl ?_
  refine Rj_vo (q := 4) (z := y_Sp_nextSign) (as := []) (rest := []) (la := [vA 2]) oD_2_Sp_nextSign ml_Sp_31 mw_Sp_nextSign mv_Sp_nextSign rfl d_Sp_isAtDigit_1 rfl rfl rfl rfl rfl ?_
  refine s_next (μ := μ) (A := A) (n := n) (k := k) (hT.keep rfl rfl) hk (by omega) ?_
  have r1_1 := sk_bd A (n := n) (k := k) (by omega)
  have v1_1 := nsV_rng hT (k := sk A n k) (by omega)
  refine Rj_istore_n (q := 5) (ls' := [vA 2, vI (nsV μ n (sk A n k))]) d_Sp_isAtDigit_4 rfl rfl (by decide) rfl ?_
  refine Rj_iload_n (q := 6) d_Sp_isAtDigit_5 rfl rfl rfl ?_
  refine Rj_bipush (q := 8) d_Sp_isAtDigit_6 rfl (by decide +kernel) ?_
  refine Rj_icmp_lt (q := 11) (t := 21) d_Sp_isAtDigit_8 rfl (by decide) (by first | exact ⟨by omega, by omega⟩ | (constructor <;> omega)) (by decide) (fun c1_8 => ?_) (fun c1_8 => ?_)
  · refine Rj_iconst (q := 22) d_Sp_isAtDigit_21 rfl ?_
    refine Rj_bret0 d_Sp_isAtDigit_22 rfl ?_
    refine Rj_if_ne (q := 7) (t := 18) d_Sp_takeNumber_4 rfl (by decide) (by decide) (fun c => absurd c (by decide)) (fun _ => ?_)
    refine Rj_aload_n (q := 8) d_Sp_takeNumber_7 rfl rfl rfl ?_
    refine Rj_aload_n (q := 9) d_Sp_takeNumber_8 rfl rfl rfl ?_
    refine Rj_gi (q := 12) (ki := 2) (v := sk A n k) gD_Sp_25_2 rfl rfl rfl d_Sp_takeNumber_9 rfl ?_
    refine Rj_iconst (q := 13) d_Sp_takeNumber_12 rfl ?_
    refine Rj_vov (q := 16) (z := y_Sp_fail) (as := [vI (sk A n k), vI 0]) (rest := []) (la := [vA 2, vI (sk A n k), vI 0]) oD_2_Sp_fail ml_Sp_55 mw_Sp_fail mv_Sp_fail rfl d_Sp_takeNumber_13 rfl rfl rfl rfl rfl ?_
    refine Rj_aload_n (q := 1) d_Sp_fail_0 rfl rfl rfl ?_
    refine Rj_gi (q := 4) (ki := 3) (v := 0) gD_Sp_28_2 rfl rfl hf0 d_Sp_fail_1 rfl ?_
    refine Rj_if_ne (q := 7) (t := 19) d_Sp_fail_4 rfl (by decide) (by decide) (fun c => absurd c (by decide)) (fun _ => ?_)
    refine Rj_aload_n (q := 8) d_Sp_fail_7 rfl rfl rfl ?_
    refine Rj_iconst (q := 9) d_Sp_fail_8 rfl ?_
    refine Rj_bipush (q := 11) d_Sp_fail_9 rfl (by decide +kernel) ?_
    refine Rj_iload_n (q := 12) d_Sp_fail_11 rfl rfl rfl ?_
    refine Rj_imul (q := 13) d_Sp_fail_12 rfl ?_
    refine Rj_iadd (q := 14) d_Sp_fail_13 rfl ?_
    refine Rj_iload_n (q := 15) d_Sp_fail_14 rfl rfl rfl ?_
    refine Rj_iadd (q := 16) d_Sp_fail_15 rfl ?_
    refine Rj_pi (q := 19) (ki := 3) pD_Sp_28_2 rfl rfl d_Sp_fail_16 rfl ?_
    refine Rj_vret d_Sp_fail_19 rfl ?_
    refine Rj_iconst (q := 17) d_Sp_takeNumber_16 rfl ?_
    refine Rj_iret d_Sp_takeNumber_17 rfl ?_
    exact h2 (fun h => by have := of_decide_eq_true h.2; have := (v1_1.2.2 48 57 (by decide) (by decide)).mpr ⟨h.1, this.1, this.2⟩; omega)
  · refine Rj_iload_n (q := 12) d_Sp_isAtDigit_11 rfl rfl rfl ?_
    refine Rj_bipush (q := 14) d_Sp_isAtDigit_12 rfl (by decide +kernel) ?_
    refine Rj_icmp_gt (q := 17) (t := 21) d_Sp_isAtDigit_14 rfl (by decide) (by first | exact ⟨by omega, by omega⟩ | (constructor <;> omega)) (by decide) (fun c1_14 => ?_) (fun c1_14 => ?_)
    · refine Rj_iconst (q := 22) d_Sp_isAtDigit_21 rfl ?_
      refine Rj_bret0 d_Sp_isAtDigit_22 rfl ?_
      refine Rj_if_ne (q := 7) (t := 18) d_Sp_takeNumber_4 rfl (by decide) (by decide) (fun c => absurd c (by decide)) (fun _ => ?_)
      refine Rj_aload_n (q := 8) d_Sp_takeNumber_7 rfl rfl rfl ?_
      refine Rj_aload_n (q := 9) d_Sp_takeNumber_8 rfl rfl rfl ?_
      refine Rj_gi (q := 12) (ki := 2) (v := sk A n k) gD_Sp_25_2 rfl rfl rfl d_Sp_takeNumber_9 rfl ?_
      refine Rj_iconst (q := 13) d_Sp_takeNumber_12 rfl ?_
      refine Rj_vov (q := 16) (z := y_Sp_fail) (as := [vI (sk A n k), vI 0]) (rest := []) (la := [vA 2, vI (sk A n k), vI 0]) oD_2_Sp_fail ml_Sp_55 mw_Sp_fail mv_Sp_fail rfl d_Sp_takeNumber_13 rfl rfl rfl rfl rfl ?_
      refine Rj_aload_n (q := 1) d_Sp_fail_0 rfl rfl rfl ?_
      refine Rj_gi (q := 4) (ki := 3) (v := 0) gD_Sp_28_2 rfl rfl hf0 d_Sp_fail_1 rfl ?_
      refine Rj_if_ne (q := 7) (t := 19) d_Sp_fail_4 rfl (by decide) (by decide) (fun c => absurd c (by decide)) (fun _ => ?_)
      refine Rj_aload_n (q := 8) d_Sp_fail_7 rfl rfl rfl ?_
      refine Rj_iconst (q := 9) d_Sp_fail_8 rfl ?_
      refine Rj_bipush (q := 11) d_Sp_fail_9 rfl (by decide +kernel) ?_
      refine Rj_iload_n (q := 12) d_Sp_fail_11 rfl rfl rfl ?_
      refine Rj_imul (q := 13) d_Sp_fail_12 rfl ?_
      refine Rj_iadd (q := 14) d_Sp_fail_13 rfl ?_
      refine Rj_iload_n (q := 15) d_Sp_fail_14 rfl rfl rfl ?_
      refine Rj_iadd (q := 16) d_Sp_fail_15 rfl ?_
      refine Rj_pi (q := 19) (ki := 3) pD_Sp_28_2 rfl rfl d_Sp_fail_16 rfl ?_
      refine Rj_vret d_Sp_fail_19 rfl ?_
      refine Rj_iconst (q := 17) d_Sp_takeNumber_16 rfl ?_
      refine Rj_iret d_Sp_takeNumber_17 rfl ?_
      exact h2 (fun h => by have := of_decide_eq_true h.2; have := (v1_1.2.2 48 57 (by decide) (by decide)).mpr ⟨h.1, this.1, this.2⟩; omega)
    · refine Rj_iconst (q := 18) d_Sp_isAtDigit_17 rfl ?_
      refine Rj_goto (t := 22) d_Sp_isAtDigit_18 (by decide) ?_
      refine Rj_bret1 d_Sp_isAtDigit_22 rfl ?_
      refine Rj_if_ne (q := 7) (t := 18) d_Sp_takeNumber_4 rfl (by decide) (by decide) (fun _ => ?_) (fun c => absurd c (by decide))
      refine Rj_aload_n (q := 19) d_Sp_takeNumber_18 rfl rfl rfl ?_
      refine Rj_gi (q := 22) (ki := 2) (v := sk A n k) gD_Sp_25_2 rfl rfl rfl d_Sp_takeNumber_19 rfl ?_
      refine Rj_istore_n (q := 23) (ls' := [vA 2, vI (sk A n k)]) d_Sp_takeNumber_22 rfl rfl (by decide) rfl ?_
      refine Rj_iconst (q := 24) d_Sp_takeNumber_23 rfl ?_
      refine Rj_istore_n (q := 25) (ls' := [vA 2, vI (sk A n k), vI 0]) d_Sp_takeNumber_24 rfl rfl (by decide) rfl ?_
      have hd := (v1_1.2.2 48 57 (by decide) (by decide)).mp (by omega)
      have hyd : sk A n k < n ∧ isDg A (sk A n k) = true := ⟨hd.1, decide_eq_true hd.2⟩
      have hs1 : dend A n (sk A n k) = dend A n (sk A n k + 1) := rn_step hyd.1 hyd.2
      have hb := dend_bd A (n := n) (k := sk A n k + 1) (by omega)
      refine s_takeNum_l (k := sk A n k) _ (Nat.lt_succ_self _) (hT.keep rfl rfl) (mset_same _ _ _ _) (by omega) hf0 ⟨by omega, by omega, by omega⟩ (by unfold dval; rw [if_pos (by omega), show (sk A n k - sk A n k).toNat = 0 by omega]; rfl) (fun h => ?_) (fun h => ?_)
      · rw [mset_mset]; exact h1 hyd h
      · rw [mset_mset]; exact h3 hyd h
