theorem oM_0_M_without : OI YM 0 y_M_without := ⟨by decide, _, _, _, cM_0, rfl⟩
theorem gD_D_52_0 : GI YD "DoorsOnCogs" 52 0 8 (some (some 66)) := ⟨by decide, _, _, _, fl_D_52, cD_0, by decide, rfl⟩
theorem oD_66_Cu_fewest : OI YD 66 y_Cu_fewest := ⟨by decide, _, _, _, cD_66, rfl⟩
/-! the reference looks for the fewest joins to cut; the pairs cut, freed -/
theorem pcf_le : ∀ (f n : Nat), pcf f n ≤ f
  | 0, _ => by unfold pcf; omega
  | f + 1, n => by unfold pcf; have := pcf_le f (n / 2); omega
theorem pcn_le (w : Int) : pcn w ≤ 17 := pcf_le 17 _
set_option maxHeartbeats 4000000 in
theorem s_M_bits_l : ∀ (f : Nat) {μ : Mem} {Q : PV → Mem → Prop} {a k : Int} {s : Nat}, (s < f) → (s < 65536) → (0 ≤ k ∧ k + ((pcf 17 s : Nat) : Int) ≤ 100) → (Q (vI (k + ((pcf 17 s : Nat) : Int))) μ) → Rj YM y_M_bits 4 [vI a, vI k, vI ((s : Int))] [] μ Q := by
  intro f
  induction f with
  | zero => intro μ Q a k s hf hs hk hQ; exact absurd hf (by omega)
  | succ f ih =>
    intro μ Q a k s hf hs hk hQ
    refine Rj_iload_n (q := 5) d_M_bits_4 rfl rfl rfl ?_
    refine Rj_if_eq (q := 8) (t := 20) d_M_bits_5 rfl (by decide) ⟨by omega, by omega⟩ (fun c5 => ?_) (fun c5 => ?_)
    · have e0 : s = 0 := by omega
      subst e0
      refine Rj_iload_n (q := 21) d_M_bits_20 rfl rfl rfl ?_
      refine Rj_iret d_M_bits_21 rfl ?_
      exact fin_I hQ (by simp [pcf])
    · have hpos : 0 < s := by omega
      have hle : s &&& (s - 1) ≤ s - 1 := Nat.and_le_right
      have hpc := pcf_and 17 s hpos (by omega)
      refine Rj_iinc (q := 11) (ls' := [vI a, vI (k + 1), vI ((s : Int))]) d_M_bits_8 rfl rfl (by decide) rfl ?_
      refine Rj_iload_n (q := 12) d_M_bits_11 rfl rfl rfl ?_
      refine Rj_iload_n (q := 13) d_M_bits_12 rfl rfl rfl ?_
      refine Rj_iconst (q := 14) d_M_bits_13 rfl ?_
      refine Rj_isub (q := 15) d_M_bits_14 rfl ?_
      rw [show (s : Int) - 1 = ((s - 1 : Nat) : Int) from (by omega)]
      refine Rj_iand (q := 16) (z := ((s &&& (s - 1) : Nat) : Int)) d_M_bits_15 rfl (z_and_n (by omega)) ?_
      refine Rj_istore_n (q := 17) (ls' := [vI a, vI (k + 1), vI (((s &&& (s - 1) : Nat) : Int))]) d_M_bits_16 rfl rfl (by decide) rfl ?_
      refine Rj_goto (t := 4) d_M_bits_17 (by decide) ?_
      exact ih (by omega) (by omega) (by omega) (fin_I hQ (by omega))
theorem s_M_bits {μ : Mem} {Q : PV → Mem → Prop} {s : Int} (hs : 0 ≤ s ∧ s < 65536) (hQ : Q (vI ((pcn s : Nat) : Int)) μ) : Rj YM y_M_bits 0 [vI s] [] μ Q := by
  obtain ⟨k, rfl⟩ := set_nat hs.1
  refine Rj_iconst (q := 1) d_M_bits_0 rfl ?_
  refine Rj_istore_n (q := 2) (ls' := [vI (k : Int), vI 0]) d_M_bits_1 rfl rfl (by decide) rfl ?_
  refine Rj_iload_n (q := 3) d_M_bits_2 rfl rfl rfl ?_
  refine Rj_istore_n (q := 4) (ls' := [vI (k : Int), vI 0, vI (k : Int)]) d_M_bits_3 rfl rfl (by decide) rfl ?_
  have hle := pcf_le 17 k
  exact s_M_bits_l _ (Nat.lt_succ_self _) (by omega) (by omega) (fin_I hQ (by unfold pcn; rw [Int.toNat_natCast]; omega))
set_option maxHeartbeats 4000000 in
theorem s_M_wo_10 : ∀ (f : Nat) {μ : Mem} {Q : PV → Mem → Prop} {x y m s : Int}, ((2 ^ (μ 11 1).toNat - s).toNat < f) → (StrOK (μ 11)) → (0 ≤ x ∧ x < μ 11 0) → (-1 ≤ y ∧ y < μ 11 0) → (1 ≤ m ∧ m ≤ 3) → (1 ≤ s ∧ s ≤ 2 ^ (μ 11 1).toNat) → (∀ w, 0 < w → w < 2 ^ (μ 11 1).toNat → (pcn w : Int) < m → ¬ Enf (μ 11) x y w) → (∀ w, 0 < w → w < s → (pcn w : Int) = m → ¬ Enf (μ 11) x y w) → (∀ r μ', Fr Whw μ μ' → FW (μ 11) x y r → Q (vI r) μ') → ((∀ w, 0 < w → w < 2 ^ (μ 11 1).toNat → (pcn w : Int) < m + 1 → ¬ Enf (μ 11) x y w) → ∀ μ', Fr Whw μ μ' → Rj YM y_M_without 75 [vA 0, vI x, vI y, vI m] [] μ' Q) → Rj YM y_M_without 10 [vA 0, vI x, vI y, vI m, vI s] [] μ Q := by
  intro f
  induction f with
  | zero => intro μ Q x y m s hf hS hx hy hm hs hpv hp hQ hc; exact absurd hf (by omega)
  | succ f ih =>
    intro μ Q x y m s hf hS hx hy hm hs hpv hp hQ hc
    have hJ := hS.2.1
    have hz := hS.1
    have hpw := p16 hJ.2
    refine Rj_iload (q := 12) d_M_without_10 rfl rfl ?_
    refine Rj_iconst (q := 13) d_M_without_12 rfl ?_
    refine Rj_aload_n (q := 14) d_M_without_13 rfl rfl rfl ?_
    refine Rj_gr (q := 17) (zd := 11) gM_M_42_0 rfl rfl d_M_without_14 rfl ?_
    refine Rj_iconst (q := 18) d_M_without_17 rfl ?_
    refine Rj_ia (q := 19) (v := μ 11 1) aM_11 rfl (by decide) rfl d_M_without_18 rfl ?_
    refine Rj_ishl (q := 20) (z := 2 ^ (μ 11 1).toNat) d_M_without_19 rfl (z_shl_p ⟨by omega, by omega⟩) ?_
    refine Rj_icmp_ge (q := 23) (t := 75) d_M_without_20 rfl (by decide) ⟨by omega, by omega⟩ ⟨by omega, by omega⟩ (fun c20 => ?_) (fun c20 => ?_)
    · refine Rj_pre (ls' := [vA 0, vI x, vI y, vI m]) (t := [vI s]) rfl ?_
      exact hc (fun w w0 w1 w2 => by
        by_cases e : (pcn w : Int) < m
        · exact hpv w w0 w1 e
        · exact hp w w0 (by omega) (by omega)) μ (Fr.refl _ _)
    · refine Rj_iload (q := 25) d_M_without_23 rfl rfl ?_
      refine Rj_cs (q := 28) (z := y_M_bits) (as := [vI s]) (rest := []) (la := [vI s]) ml_M_439 mw_M_bits ms_M_bits d_M_without_25 rfl rfl rfl rfl rfl ?_
      refine s_M_bits (by omega) ?_
      have pb25 := pcn_le s
      refine Rj_iload_n (q := 29) d_M_without_28 rfl rfl rfl ?_
      refine Rj_icmp_eq (q := 32) (t := 35) d_M_without_29 rfl (by decide) ⟨by omega, by omega⟩ ⟨by omega, by omega⟩ (fun c29 => ?_) (fun c29 => ?_)
      · refine Rj_aload_n (q := 36) d_M_without_35 rfl rfl rfl ?_
        refine Rj_iload (q := 38) d_M_without_36 rfl rfl ?_
        refine Rj_vov (q := 41) (z := y_M_hangsWithout) (as := [vI s]) (rest := []) (la := [vA 0, vI s]) oM_0_M_hangsWithout ml_M_331 mw_M_hangsWithout mv_M_hangsWithout rfl d_M_without_38 rfl rfl rfl rfl rfl ?_
        refine s_M_hangsWithout (μ := μ) hS (by omega) (fun m38 f38 q38 l38 => ?_)
        have e11 : m38 11 = μ 11 := f38.row (fun i q => by unfold Whw at q; omega)
        obtain ⟨a1, a2, -⟩ := id q38
        have ex := a1 x hx.1 hx.2
        have hE := Enf_iff hS q38 hx hy.2
        refine Rj_iload_n (q := 42) d_M_without_41 rfl rfl rfl ?_
        refine Rj_if_ge (q := 45) (t := 57) d_M_without_42 rfl (by decide) ⟨by omega, by omega⟩ (fun c42 => ?_) (fun c42 => ?_)
        · rw [if_neg (by omega)] at hE
          have ey := a1 y (by omega) hy.2
          refine Rj_aload_n (q := 58) d_M_without_57 rfl rfl rfl ?_
          refine Rj_iload_n (q := 59) d_M_without_58 rfl rfl rfl ?_
          refine Rj_iload_n (q := 60) d_M_without_59 rfl rfl rfl ?_
          refine Rj_vo (q := 63) (z := y_M_areJoined) (as := [vI x, vI y]) (rest := []) (la := [vA 0, vI x, vI y]) oM_0_M_areJoined ml_M_363 mw_M_areJoined mv_M_areJoined rfl d_M_without_60 rfl rfl rfl rfl rfl ?_
          refine s_M_areJoined2 (by omega) (by omega) (show -1 ≤ m38 14 x ∧ m38 14 x < 12 by omega) (show -1 ≤ m38 14 y ∧ m38 14 y < 12 by omega) ?_
          refine Rj_b_ne (q := 66) (t := 69) d_M_without_63 rfl (by decide) (fun c63 => ?_) (fun c63 => ?_)
          · have c63 := of_decide_eq_true c63
            refine Rj_iinc (q := 72) (ls' := [vA 0, vI x, vI y, vI m, vI (s + 1)]) d_M_without_69 rfl rfl (by decide) rfl ?_
            refine Rj_goto (t := 10) d_M_without_72 (by decide) ?_
            refine ih (μ := m38) (by rw [e11]; omega) (by rw [e11]; exact hS) (by rw [e11]; exact hx) (by rw [e11]; exact hy) hm (by rw [e11]; omega) (by rw [e11]; exact hpv) (by
              rw [e11]
              intro w w0 w1 w2
              by_cases e : w = s
              · subst e
                intro q
                have q := hE.mp q
                first | exact q c63 | exact q (l01.2.mp (by omega))
              · exact hp w w0 (by omega) w2) (by rw [e11]; exact fun r m f => hQ r m (f38.trans f)) (by rw [e11]; exact fun h m f => hc h m (f38.trans f))
          · have c63 := of_decide_eq_false c63
            refine Rj_iload (q := 68) d_M_without_66 rfl rfl ?_
            refine Rj_iret d_M_without_68 rfl ?_
            refine hQ s m38 f38 (Or.inr ⟨⟨by omega, by omega⟩, by omega, ?_, fun w w0 w1 hq => ?_⟩)
            · exact hE.mpr (by first | exact c63 | (intro q; have := l01.2.mpr q; omega))
            · rcases hq with q | q
              · exact hpv w w0 w1 (by omega)
              · exact hp w w0 q.2 (by omega)
        · rw [if_pos (by omega)] at hE
          have l01 := l38 x hx.1 hx.2
          refine Rj_aload_n (q := 46) d_M_without_45 rfl rfl rfl ?_
          refine Rj_gr (q := 49) (zd := 17) gM_M_60_0 rfl rfl d_M_without_46 rfl ?_
          refine Rj_iload_n (q := 50) d_M_without_49 rfl rfl rfl ?_
          refine Rj_za (q := 51) (v := m38 17 x) aM_17 rfl (by omega) rfl d_M_without_50 rfl ?_
          refine Rj_if_ne (q := 54) (t := 69) d_M_without_51 rfl (by decide) ⟨by omega, by omega⟩ (fun c51 => ?_) (fun c51 => ?_)
          · refine Rj_iinc (q := 72) (ls' := [vA 0, vI x, vI y, vI m, vI (s + 1)]) d_M_without_69 rfl rfl (by decide) rfl ?_
            refine Rj_goto (t := 10) d_M_without_72 (by decide) ?_
            refine ih (μ := m38) (by rw [e11]; omega) (by rw [e11]; exact hS) (by rw [e11]; exact hx) (by rw [e11]; exact hy) hm (by rw [e11]; omega) (by rw [e11]; exact hpv) (by
              rw [e11]
              intro w w0 w1 w2
              by_cases e : w = s
              · subst e
                intro q
                have q := hE.mp q
                first | exact q c63 | exact q (l01.2.mp (by omega))
              · exact hp w w0 (by omega) w2) (by rw [e11]; exact fun r m f => hQ r m (f38.trans f)) (by rw [e11]; exact fun h m f => hc h m (f38.trans f))
          · refine Rj_goto (t := 66) d_M_without_54 (by decide) ?_
            refine Rj_iload (q := 68) d_M_without_66 rfl rfl ?_
            refine Rj_iret d_M_without_68 rfl ?_
            refine hQ s m38 f38 (Or.inr ⟨⟨by omega, by omega⟩, by omega, ?_, fun w w0 w1 hq => ?_⟩)
            · exact hE.mpr (by first | exact c63 | (intro q; have := l01.2.mpr q; omega))
            · rcases hq with q | q
              · exact hpv w w0 w1 (by omega)
              · exact hp w w0 q.2 (by omega)
      · refine Rj_goto (t := 69) d_M_without_32 (by decide) ?_
        refine Rj_iinc (q := 72) (ls' := [vA 0, vI x, vI y, vI m, vI (s + 1)]) d_M_without_69 rfl rfl (by decide) rfl ?_
        refine Rj_goto (t := 10) d_M_without_72 (by decide) ?_
        exact ih (by omega) hS hx hy hm (by omega) hpv (fun w w0 w1 w2 => by
          by_cases e : w = s
          · subst e; omega
          · exact hp w w0 (by omega) w2) hQ hc
set_option maxHeartbeats 4000000 in
theorem s_M_wo_4 {μ : Mem} {Q : PV → Mem → Prop} {x y : Int} (hS : StrOK (μ 11)) (hx : 0 ≤ x ∧ x < μ 11 0) (hy : -1 ≤ y ∧ y < μ 11 0) (hpv : ∀ w, 0 < w → w < 2 ^ (μ 11 1).toNat → (pcn w : Int) < 4 → ¬ Enf (μ 11) x y w) (hQ : ∀ r μ', Fr Whw μ μ' → FW (μ 11) x y r → Q (vI r) μ') : Rj YM y_M_without 2 [vA 0, vI x, vI y, vI 4] [] μ Q := by
  refine Rj_iload_n (q := 3) d_M_without_2 rfl rfl rfl ?_
  refine Rj_iconst (q := 4) d_M_without_3 rfl ?_
  refine Rj_icmp_ge (q := 7) (t := 81) d_M_without_4 rfl (by decide) (by decide) (by decide) (fun _ => ?_) (fun c => absurd c (by decide))
  refine Rj_bipush (q := 83) d_M_without_81 rfl (by decide +kernel) ?_
  refine Rj_iret d_M_without_83 rfl ?_
  exact hQ (-2) μ (Fr.refl _ _) (Or.inl ⟨rfl, fun w w0 w1 w2 => hpv w w0 w1 (by omega)⟩)
set_option maxHeartbeats 4000000 in
theorem s_M_wo_3 {μ : Mem} {Q : PV → Mem → Prop} {x y : Int} (hS : StrOK (μ 11)) (hx : 0 ≤ x ∧ x < μ 11 0) (hy : -1 ≤ y ∧ y < μ 11 0) (hpv : ∀ w, 0 < w → w < 2 ^ (μ 11 1).toNat → (pcn w : Int) < 3 → ¬ Enf (μ 11) x y w) (hQ : ∀ r μ', Fr Whw μ μ' → FW (μ 11) x y r → Q (vI r) μ') : Rj YM y_M_without 2 [vA 0, vI x, vI y, vI 3] [] μ Q := by
  have hJ := hS.2.1
  have hpw := p16 hJ.2
  refine Rj_iload_n (q := 3) d_M_without_2 rfl rfl rfl ?_
  refine Rj_iconst (q := 4) d_M_without_3 rfl ?_
  refine Rj_icmp_ge (q := 7) (t := 81) d_M_without_4 rfl (by decide) (by decide) (by decide) (fun c => absurd c (by decide)) (fun _ => ?_)
  refine Rj_iconst (q := 8) d_M_without_7 rfl ?_
  refine Rj_istore (q := 10) (ls' := [vA 0, vI x, vI y, vI 3, vI 1]) d_M_without_8 rfl (by decide) rfl ?_
  refine s_M_wo_10 _ (Nat.lt_succ_self _) hS hx hy (by decide) (by omega) hpv (fun w w0 w1 => by omega) hQ (fun hv m f => ?_)
  have e11 : m 11 = μ 11 := f.row (fun i q => by unfold Whw at q; omega)
  refine Rj_iinc (q := 78) (ls' := [vA 0, vI x, vI y, vI 4]) d_M_without_75 rfl rfl (by decide) rfl ?_
  refine Rj_goto (t := 2) d_M_without_78 (by decide) ?_
  exact s_M_wo_4 (by rw [e11]; exact hS) (by rw [e11]; exact hx) (by rw [e11]; exact hy) (by rw [e11]; exact hv) (by rw [e11]; exact fun r m2 f2 => hQ r m2 (f.trans f2))
set_option maxHeartbeats 4000000 in
theorem s_M_wo_2 {μ : Mem} {Q : PV → Mem → Prop} {x y : Int} (hS : StrOK (μ 11)) (hx : 0 ≤ x ∧ x < μ 11 0) (hy : -1 ≤ y ∧ y < μ 11 0) (hpv : ∀ w, 0 < w → w < 2 ^ (μ 11 1).toNat → (pcn w : Int) < 2 → ¬ Enf (μ 11) x y w) (hQ : ∀ r μ', Fr Whw μ μ' → FW (μ 11) x y r → Q (vI r) μ') : Rj YM y_M_without 2 [vA 0, vI x, vI y, vI 2] [] μ Q := by
  have hJ := hS.2.1
  have hpw := p16 hJ.2
  refine Rj_iload_n (q := 3) d_M_without_2 rfl rfl rfl ?_
  refine Rj_iconst (q := 4) d_M_without_3 rfl ?_
  refine Rj_icmp_ge (q := 7) (t := 81) d_M_without_4 rfl (by decide) (by decide) (by decide) (fun c => absurd c (by decide)) (fun _ => ?_)
  refine Rj_iconst (q := 8) d_M_without_7 rfl ?_
  refine Rj_istore (q := 10) (ls' := [vA 0, vI x, vI y, vI 2, vI 1]) d_M_without_8 rfl (by decide) rfl ?_
  refine s_M_wo_10 _ (Nat.lt_succ_self _) hS hx hy (by decide) (by omega) hpv (fun w w0 w1 => by omega) hQ (fun hv m f => ?_)
  have e11 : m 11 = μ 11 := f.row (fun i q => by unfold Whw at q; omega)
  refine Rj_iinc (q := 78) (ls' := [vA 0, vI x, vI y, vI 3]) d_M_without_75 rfl rfl (by decide) rfl ?_
  refine Rj_goto (t := 2) d_M_without_78 (by decide) ?_
  exact s_M_wo_3 (by rw [e11]; exact hS) (by rw [e11]; exact hx) (by rw [e11]; exact hy) (by rw [e11]; exact hv) (by rw [e11]; exact fun r m2 f2 => hQ r m2 (f.trans f2))
set_option maxHeartbeats 4000000 in
theorem s_M_wo_1 {μ : Mem} {Q : PV → Mem → Prop} {x y : Int} (hS : StrOK (μ 11)) (hx : 0 ≤ x ∧ x < μ 11 0) (hy : -1 ≤ y ∧ y < μ 11 0) (hpv : ∀ w, 0 < w → w < 2 ^ (μ 11 1).toNat → (pcn w : Int) < 1 → ¬ Enf (μ 11) x y w) (hQ : ∀ r μ', Fr Whw μ μ' → FW (μ 11) x y r → Q (vI r) μ') : Rj YM y_M_without 2 [vA 0, vI x, vI y, vI 1] [] μ Q := by
  have hJ := hS.2.1
  have hpw := p16 hJ.2
  refine Rj_iload_n (q := 3) d_M_without_2 rfl rfl rfl ?_
  refine Rj_iconst (q := 4) d_M_without_3 rfl ?_
  refine Rj_icmp_ge (q := 7) (t := 81) d_M_without_4 rfl (by decide) (by decide) (by decide) (fun c => absurd c (by decide)) (fun _ => ?_)
  refine Rj_iconst (q := 8) d_M_without_7 rfl ?_
  refine Rj_istore (q := 10) (ls' := [vA 0, vI x, vI y, vI 1, vI 1]) d_M_without_8 rfl (by decide) rfl ?_
  refine s_M_wo_10 _ (Nat.lt_succ_self _) hS hx hy (by decide) (by omega) hpv (fun w w0 w1 => by omega) hQ (fun hv m f => ?_)
  have e11 : m 11 = μ 11 := f.row (fun i q => by unfold Whw at q; omega)
  refine Rj_iinc (q := 78) (ls' := [vA 0, vI x, vI y, vI 2]) d_M_without_75 rfl rfl (by decide) rfl ?_
  refine Rj_goto (t := 2) d_M_without_78 (by decide) ?_
  exact s_M_wo_2 (by rw [e11]; exact hS) (by rw [e11]; exact hx) (by rw [e11]; exact hy) (by rw [e11]; exact hv) (by rw [e11]; exact fun r m2 f2 => hQ r m2 (f.trans f2))
set_option maxHeartbeats 4000000 in
theorem s_M_without {μ : Mem} {Q : PV → Mem → Prop} {x y : Int} (hS : StrOK (μ 11)) (hx : 0 ≤ x ∧ x < μ 11 0) (hy : -1 ≤ y ∧ y < μ 11 0) (hQ : ∀ r μ', Fr Whw μ μ' → FW (μ 11) x y r → Q (vI r) μ') : Rj YM y_M_without 0 [vA 0, vI x, vI y] [] μ Q := by
  have hJ := hS.2.1
  have hpw := p16 hJ.2
  refine Rj_iconst (q := 1) d_M_without_0 rfl ?_
  refine Rj_istore_n (q := 2) (ls' := [vA 0, vI x, vI y, vI 1]) d_M_without_1 rfl rfl (by decide) rfl ?_
  refine s_M_wo_1 hS hx hy (fun w w0 w1 w2 => ?_) hQ
  have := pc_0 w0 (by omega)
  omega
theorem Cor.rehang {n : Nat} {μ ν μ' ν' : Mem} (hC : Cor n μ ν) (f : Fr Wcu μ μ') (g : Fr Whw ν ν') (hH : Hung (ν 11) 0 (ν' 14) (ν' 15) (ν' 16) (ν' 17)) : Cor (n + 1) μ' ν' ∧ Kp μ μ' ∧ Kq ν ν' := by
  obtain ⟨hTP, hK, hSc, hG, hM, hSB, hBK, hIM⟩ := hC.next
  have r : ∀ c, (c < 14 ∨ 17 < c) → ν' c = ν c := fun c h => g.row (fun i q => by unfold Whw at q; omega)
  refine ⟨⟨hTP.keep (f 0 1 (by unfold Wcu; omega)) (f.row (fun i => by unfold Wcu; omega)) (by rw [r 0 (by omega)]) (r 1 (by omega)), by rw [r 11 (by omega)]; exact hK, by rw [r 11 (by omega)]; exact hSc.keep (fun c i q1 q2 => f c i (by unfold Wcu; omega)), ?_, ?_, by rw [r 11 (by omega), r 12 (by omega)]; exact hSB, by rw [r 12 (by omega)]; exact hBK, hIM.keep (fun c i q1 q2 => f c i (by unfold Wcu; omega)) (r 24 (by omega)) (r 25 (by omega)) (r 26 (by omega))⟩, fun c i q => f c i (by unfold Wcu; omega), fun c i q => g c i (by unfold Whw; omega)⟩
  · rw [r 11 (by omega), r 12 (by omega)]
    exact (hG.keep (fun c i q => f c i (by unfold gxc at q; unfold Wcu; omega))).re hH
  · unfold MX
    rw [r 11 (by omega), r 12 (by omega), r 0 (by omega)]
    exact ⟨hM.1, hH, hM.2.2.1, hM.2.2.2.1, hM.2.2.2.2⟩
theorem FW_32 {S : Int → Int} {x y r : Int} (h : S 1 ≤ 16) (q : FW S x y r) : i32 r := by
  have := p16 h
  rcases q with ⟨q, -⟩ | ⟨q, -⟩
  · rw [q]; decide
  · exact ⟨by omega, by omega⟩
set_option maxHeartbeats 8000000 in
theorem C_cut {n : Nat} {μ ν : Mem} {a b : Int} (hC : Cor n μ ν) (hn : n ≤ 511) (ha : i32 a) (hb : i32 b)  : Rj YD y_D_cut 0 [vA 0, vI a, vI b] [] μ (fun r μ' => Rj YM y_M_cut 0 [vA 0, vI a, vI b] [] ν (fun r' ν' => Sm 1 r' r ∧ Cor (n + 1) μ' ν' ∧ Kp μ μ' ∧ Kq ν ν')) := by
  obtain ⟨hTP, hK, hSc, h, hM, hSB, hBK, hIM⟩ := id hC
  have hC1 := hC.next
  obtain ⟨z0, z1, z2, z3, z4, z5, z6, z7⟩ := h.z
  obtain ⟨hS, hH, hP, hB, hFx⟩ := id hM
  have hD := z0
  have hJ := z1
  refine Rj_aload_n (q := 1) d_D_cut_0 rfl rfl rfl ?_
  refine Rj_gr (q := 4) (zd := 3) gD_D_25_0 rfl rfl d_D_cut_1 rfl ?_
  refine Rj_iload_n (q := 5) d_D_cut_4 rfl rfl rfl ?_
  refine Rj_vo (q := 8) (z := y_Sc_isDoor) (as := [vI a]) (rest := []) (la := [vA 3, vI a]) oD_3_Sc_isDoor ml_D_144 mw_Sc_isDoor mv_Sc_isDoor rfl d_D_cut_5 rfl rfl rfl rfl rfl ?_
  refine Rj_iload_n (q := 1) d_Sc_isDoor_0 rfl rfl rfl ?_
  refine Rj_if_lt (q := 4) (t := 16) d_Sc_isDoor_1 rfl (by decide) (by first | assumption | exact ⟨by omega, by omega⟩) (fun c5_1 => ?_) (fun c5_1 => ?_)
  · refine Rj_iconst (q := 17) d_Sc_isDoor_16 rfl ?_
    refine Rj_bret0 d_Sc_isDoor_17 rfl ?_
    refine Rj_if_eq (q := 11) (t := 27) d_D_cut_8 rfl (by decide) (by decide) (fun _ => ?_) (fun c => absurd c (by decide))
    refine Rj_iconst (q := 28) d_D_cut_27 rfl ?_
    refine Rj_iret d_D_cut_28 rfl ?_
    refine Rj_aload_n (q := 1) d_M_cut_0 rfl rfl rfl ?_
    refine Rj_iload_n (q := 2) d_M_cut_1 rfl rfl rfl ?_
    refine Rj_vo (q := 5) (z := y_M_isDoor) (as := [vI a]) (rest := []) (la := [vA 0, vI a]) oM_0_M_isDoor ml_M_353 mw_M_isDoor mv_M_isDoor rfl d_M_cut_2 rfl rfl rfl rfl rfl ?_
    refine s_M_isDoor hD (by first | assumption | omega) ?_
    refine Rj_b_eq (q := 8) (t := 30) d_M_cut_5 rfl (by decide) (fun c5 => ?_) (fun c5 => ?_)
    · have c5 := of_decide_eq_false c5
      refine Rj_iconst (q := 31) d_M_cut_30 rfl ?_
      refine Rj_iret d_M_cut_31 rfl ?_
      exact ⟨sm_I rfl, hC1, kp0 _, kq0 _⟩
    · have c5 := of_decide_eq_true c5
      refine Rj_aload_n (q := 9) d_M_cut_8 rfl rfl rfl ?_
      refine Rj_iload_n (q := 10) d_M_cut_9 rfl rfl rfl ?_
      refine Rj_vo (q := 13) (z := y_M_isDoor) (as := [vI b]) (rest := []) (la := [vA 0, vI b]) oM_0_M_isDoor ml_M_353 mw_M_isDoor mv_M_isDoor rfl d_M_cut_10 rfl rfl rfl rfl rfl ?_
      refine s_M_isDoor hD (by first | assumption | omega) ?_
      refine Rj_b_eq (q := 16) (t := 30) d_M_cut_13 rfl (by decide) (fun c13 => ?_) (fun c13 => ?_)
      · have c13 := of_decide_eq_false c13
        refine Rj_iconst (q := 31) d_M_cut_30 rfl ?_
        refine Rj_iret d_M_cut_31 rfl ?_
        exact ⟨sm_I rfl, hC1, kp0 _, kq0 _⟩
      · have c13 := of_decide_eq_true c13
        refine Rj_iload_n (q := 17) d_M_cut_16 rfl rfl rfl ?_
        refine Rj_iload_n (q := 18) d_M_cut_17 rfl rfl rfl ?_
        refine Rj_icmp_eq (q := 21) (t := 30) d_M_cut_18 rfl (by decide) (by first | assumption | exact ⟨by omega, by omega⟩) (by first | assumption | exact ⟨by omega, by omega⟩) (fun c18 => ?_) (fun c18 => ?_)
        · refine Rj_iconst (q := 31) d_M_cut_30 rfl ?_
          refine Rj_iret d_M_cut_31 rfl ?_
          exact ⟨sm_I rfl, hC1, kp0 _, kq0 _⟩
        · refine Rj_aload_n (q := 22) d_M_cut_21 rfl rfl rfl ?_
          refine Rj_iload_n (q := 23) d_M_cut_22 rfl rfl rfl ?_
          refine Rj_iload_n (q := 24) d_M_cut_23 rfl rfl rfl ?_
          refine Rj_vo (q := 27) (z := y_M_areJoined) (as := [vI a, vI b]) (rest := []) (la := [vA 0, vI a, vI b]) oM_0_M_areJoined ml_M_363 mw_M_areJoined mv_M_areJoined rfl d_M_cut_24 rfl rfl rfl rfl rfl ?_
          refine s_M_areJoined2 (by omega) (by omega) (show -1 ≤ ν 14 a ∧ ν 14 a < 12 by omega) (show -1 ≤ ν 14 b ∧ ν 14 b < 12 by omega) ?_
          refine Rj_b_ne (q := 30) (t := 32) d_M_cut_27 rfl (by decide) (fun c27 => ?_) (fun c27 => ?_)
          · have c27 := of_decide_eq_true c27
            refine Rj_aload_n (q := 33) d_M_cut_32 rfl rfl rfl ?_
            refine Rj_iload_n (q := 34) d_M_cut_33 rfl rfl rfl ?_
            refine Rj_iload_n (q := 35) d_M_cut_34 rfl rfl rfl ?_
            refine Rj_vo (q := 38) (z := y_M_without) (as := [vI a, vI b]) (rest := []) (la := [vA 0, vI a, vI b]) oM_0_M_without ml_M_442 mw_M_without mv_M_without rfl d_M_cut_35 rfl rfl rfl rfl rfl ?_
            refine s_M_without hS ⟨by omega, by omega⟩ ⟨by omega, by omega⟩ (fun k35 l35 g35 p35 => ?_)
            have e11 : l35 11 = ν 11 := g35.row (fun i q => by unfold Whw at q; omega)
            refine Rj_istore_n (q := 39) (ls' := [vA 0, vI a, vI b, vI k35]) d_M_cut_38 rfl rfl (by decide) rfl ?_
            refine Rj_aload_n (q := 40) d_M_cut_39 rfl rfl rfl ?_
            refine Rj_iconst (q := 41) d_M_cut_40 rfl ?_
            refine Rj_vov (q := 44) (z := y_M_hangsWithout) (as := [vI 0]) (rest := []) (la := [vA 0, vI 0]) oM_0_M_hangsWithout ml_M_331 mw_M_hangsWithout mv_M_hangsWithout rfl d_M_cut_41 rfl rfl rfl rfl rfl ?_
            refine s_M_hangsWithout (μ := l35) (by rw [e11]; exact hS) (by decide) (fun m41 f41 q41 l41 => ?_)
            refine Rj_iload_n (q := 45) d_M_cut_44 rfl rfl rfl ?_
            refine Rj_iret d_M_cut_45 rfl ?_
            exfalso; omega
          · have c27 := of_decide_eq_false c27
            refine Rj_iconst (q := 31) d_M_cut_30 rfl ?_
            refine Rj_iret d_M_cut_31 rfl ?_
            exact ⟨sm_I rfl, hC1, kp0 _, kq0 _⟩
  · refine Rj_iload_n (q := 5) d_Sc_isDoor_4 rfl rfl rfl ?_
    refine Rj_aload_n (q := 6) d_Sc_isDoor_5 rfl rfl rfl ?_
    refine Rj_gi (q := 9) (ki := 0) (v := ν 11 0) gD_Sc_37_3 rfl rfl z2 d_Sc_isDoor_6 rfl ?_
    refine Rj_icmp_ge (q := 12) (t := 16) d_Sc_isDoor_9 rfl (by decide) (by first | assumption | exact ⟨by omega, by omega⟩) (by first | assumption | exact ⟨by omega, by omega⟩) (fun c5_9 => ?_) (fun c5_9 => ?_)
    · refine Rj_iconst (q := 17) d_Sc_isDoor_16 rfl ?_
      refine Rj_bret0 d_Sc_isDoor_17 rfl ?_
      refine Rj_if_eq (q := 11) (t := 27) d_D_cut_8 rfl (by decide) (by decide) (fun _ => ?_) (fun c => absurd c (by decide))
      refine Rj_iconst (q := 28) d_D_cut_27 rfl ?_
      refine Rj_iret d_D_cut_28 rfl ?_
      refine Rj_aload_n (q := 1) d_M_cut_0 rfl rfl rfl ?_
      refine Rj_iload_n (q := 2) d_M_cut_1 rfl rfl rfl ?_
      refine Rj_vo (q := 5) (z := y_M_isDoor) (as := [vI a]) (rest := []) (la := [vA 0, vI a]) oM_0_M_isDoor ml_M_353 mw_M_isDoor mv_M_isDoor rfl d_M_cut_2 rfl rfl rfl rfl rfl ?_
      refine s_M_isDoor hD (by first | assumption | omega) ?_
      refine Rj_b_eq (q := 8) (t := 30) d_M_cut_5 rfl (by decide) (fun c5 => ?_) (fun c5 => ?_)
      · have c5 := of_decide_eq_false c5
        refine Rj_iconst (q := 31) d_M_cut_30 rfl ?_
        refine Rj_iret d_M_cut_31 rfl ?_
        exact ⟨sm_I rfl, hC1, kp0 _, kq0 _⟩
      · have c5 := of_decide_eq_true c5
        refine Rj_aload_n (q := 9) d_M_cut_8 rfl rfl rfl ?_
        refine Rj_iload_n (q := 10) d_M_cut_9 rfl rfl rfl ?_
        refine Rj_vo (q := 13) (z := y_M_isDoor) (as := [vI b]) (rest := []) (la := [vA 0, vI b]) oM_0_M_isDoor ml_M_353 mw_M_isDoor mv_M_isDoor rfl d_M_cut_10 rfl rfl rfl rfl rfl ?_
        refine s_M_isDoor hD (by first | assumption | omega) ?_
        refine Rj_b_eq (q := 16) (t := 30) d_M_cut_13 rfl (by decide) (fun c13 => ?_) (fun c13 => ?_)
        · have c13 := of_decide_eq_false c13
          refine Rj_iconst (q := 31) d_M_cut_30 rfl ?_
          refine Rj_iret d_M_cut_31 rfl ?_
          exact ⟨sm_I rfl, hC1, kp0 _, kq0 _⟩
        · have c13 := of_decide_eq_true c13
          refine Rj_iload_n (q := 17) d_M_cut_16 rfl rfl rfl ?_
          refine Rj_iload_n (q := 18) d_M_cut_17 rfl rfl rfl ?_
          refine Rj_icmp_eq (q := 21) (t := 30) d_M_cut_18 rfl (by decide) (by first | assumption | exact ⟨by omega, by omega⟩) (by first | assumption | exact ⟨by omega, by omega⟩) (fun c18 => ?_) (fun c18 => ?_)
          · refine Rj_iconst (q := 31) d_M_cut_30 rfl ?_
            refine Rj_iret d_M_cut_31 rfl ?_
            exact ⟨sm_I rfl, hC1, kp0 _, kq0 _⟩
          · refine Rj_aload_n (q := 22) d_M_cut_21 rfl rfl rfl ?_
            refine Rj_iload_n (q := 23) d_M_cut_22 rfl rfl rfl ?_
            refine Rj_iload_n (q := 24) d_M_cut_23 rfl rfl rfl ?_
            refine Rj_vo (q := 27) (z := y_M_areJoined) (as := [vI a, vI b]) (rest := []) (la := [vA 0, vI a, vI b]) oM_0_M_areJoined ml_M_363 mw_M_areJoined mv_M_areJoined rfl d_M_cut_24 rfl rfl rfl rfl rfl ?_
            refine s_M_areJoined2 (by omega) (by omega) (show -1 ≤ ν 14 a ∧ ν 14 a < 12 by omega) (show -1 ≤ ν 14 b ∧ ν 14 b < 12 by omega) ?_
            refine Rj_b_ne (q := 30) (t := 32) d_M_cut_27 rfl (by decide) (fun c27 => ?_) (fun c27 => ?_)
            · have c27 := of_decide_eq_true c27
              refine Rj_aload_n (q := 33) d_M_cut_32 rfl rfl rfl ?_
              refine Rj_iload_n (q := 34) d_M_cut_33 rfl rfl rfl ?_
              refine Rj_iload_n (q := 35) d_M_cut_34 rfl rfl rfl ?_
              refine Rj_vo (q := 38) (z := y_M_without) (as := [vI a, vI b]) (rest := []) (la := [vA 0, vI a, vI b]) oM_0_M_without ml_M_442 mw_M_without mv_M_without rfl d_M_cut_35 rfl rfl rfl rfl rfl ?_
              refine s_M_without hS ⟨by omega, by omega⟩ ⟨by omega, by omega⟩ (fun k35 l35 g35 p35 => ?_)
              have e11 : l35 11 = ν 11 := g35.row (fun i q => by unfold Whw at q; omega)
              refine Rj_istore_n (q := 39) (ls' := [vA 0, vI a, vI b, vI k35]) d_M_cut_38 rfl rfl (by decide) rfl ?_
              refine Rj_aload_n (q := 40) d_M_cut_39 rfl rfl rfl ?_
              refine Rj_iconst (q := 41) d_M_cut_40 rfl ?_
              refine Rj_vov (q := 44) (z := y_M_hangsWithout) (as := [vI 0]) (rest := []) (la := [vA 0, vI 0]) oM_0_M_hangsWithout ml_M_331 mw_M_hangsWithout mv_M_hangsWithout rfl d_M_cut_41 rfl rfl rfl rfl rfl ?_
              refine s_M_hangsWithout (μ := l35) (by rw [e11]; exact hS) (by decide) (fun m41 f41 q41 l41 => ?_)
              refine Rj_iload_n (q := 45) d_M_cut_44 rfl rfl rfl ?_
              refine Rj_iret d_M_cut_45 rfl ?_
              exfalso; omega
            · have c27 := of_decide_eq_false c27
              refine Rj_iconst (q := 31) d_M_cut_30 rfl ?_
              refine Rj_iret d_M_cut_31 rfl ?_
              exact ⟨sm_I rfl, hC1, kp0 _, kq0 _⟩
    · refine Rj_iconst (q := 13) d_Sc_isDoor_12 rfl ?_
      refine Rj_goto (t := 17) d_Sc_isDoor_13 (by decide) ?_
      refine Rj_bret1 d_Sc_isDoor_17 rfl ?_
      refine Rj_if_eq (q := 11) (t := 27) d_D_cut_8 rfl (by decide) (by decide) (fun c => absurd c (by decide)) (fun _ => ?_)
      refine Rj_aload_n (q := 12) d_D_cut_11 rfl rfl rfl ?_
      refine Rj_gr (q := 15) (zd := 3) gD_D_25_0 rfl rfl d_D_cut_12 rfl ?_
      refine Rj_iload_n (q := 16) d_D_cut_15 rfl rfl rfl ?_
      refine Rj_vo (q := 19) (z := y_Sc_isDoor) (as := [vI b]) (rest := []) (la := [vA 3, vI b]) oD_3_Sc_isDoor ml_D_144 mw_Sc_isDoor mv_Sc_isDoor rfl d_D_cut_16 rfl rfl rfl rfl rfl ?_
      refine Rj_iload_n (q := 1) d_Sc_isDoor_0 rfl rfl rfl ?_
      refine Rj_if_lt (q := 4) (t := 16) d_Sc_isDoor_1 rfl (by decide) (by first | assumption | exact ⟨by omega, by omega⟩) (fun c16_1 => ?_) (fun c16_1 => ?_)
      · refine Rj_iconst (q := 17) d_Sc_isDoor_16 rfl ?_
        refine Rj_bret0 d_Sc_isDoor_17 rfl ?_
        refine Rj_if_eq (q := 22) (t := 27) d_D_cut_19 rfl (by decide) (by decide) (fun _ => ?_) (fun c => absurd c (by decide))
        refine Rj_iconst (q := 28) d_D_cut_27 rfl ?_
        refine Rj_iret d_D_cut_28 rfl ?_
        refine Rj_aload_n (q := 1) d_M_cut_0 rfl rfl rfl ?_
        refine Rj_iload_n (q := 2) d_M_cut_1 rfl rfl rfl ?_
        refine Rj_vo (q := 5) (z := y_M_isDoor) (as := [vI a]) (rest := []) (la := [vA 0, vI a]) oM_0_M_isDoor ml_M_353 mw_M_isDoor mv_M_isDoor rfl d_M_cut_2 rfl rfl rfl rfl rfl ?_
        refine s_M_isDoor hD (by first | assumption | omega) ?_
        refine Rj_b_eq (q := 8) (t := 30) d_M_cut_5 rfl (by decide) (fun c5 => ?_) (fun c5 => ?_)
        · have c5 := of_decide_eq_false c5
          refine Rj_iconst (q := 31) d_M_cut_30 rfl ?_
          refine Rj_iret d_M_cut_31 rfl ?_
          exact ⟨sm_I rfl, hC1, kp0 _, kq0 _⟩
        · have c5 := of_decide_eq_true c5
          refine Rj_aload_n (q := 9) d_M_cut_8 rfl rfl rfl ?_
          refine Rj_iload_n (q := 10) d_M_cut_9 rfl rfl rfl ?_
          refine Rj_vo (q := 13) (z := y_M_isDoor) (as := [vI b]) (rest := []) (la := [vA 0, vI b]) oM_0_M_isDoor ml_M_353 mw_M_isDoor mv_M_isDoor rfl d_M_cut_10 rfl rfl rfl rfl rfl ?_
          refine s_M_isDoor hD (by first | assumption | omega) ?_
          refine Rj_b_eq (q := 16) (t := 30) d_M_cut_13 rfl (by decide) (fun c13 => ?_) (fun c13 => ?_)
          · have c13 := of_decide_eq_false c13
            refine Rj_iconst (q := 31) d_M_cut_30 rfl ?_
            refine Rj_iret d_M_cut_31 rfl ?_
            exact ⟨sm_I rfl, hC1, kp0 _, kq0 _⟩
          · have c13 := of_decide_eq_true c13
            refine Rj_iload_n (q := 17) d_M_cut_16 rfl rfl rfl ?_
            refine Rj_iload_n (q := 18) d_M_cut_17 rfl rfl rfl ?_
            refine Rj_icmp_eq (q := 21) (t := 30) d_M_cut_18 rfl (by decide) (by first | assumption | exact ⟨by omega, by omega⟩) (by first | assumption | exact ⟨by omega, by omega⟩) (fun c18 => ?_) (fun c18 => ?_)
            · refine Rj_iconst (q := 31) d_M_cut_30 rfl ?_
              refine Rj_iret d_M_cut_31 rfl ?_
              exact ⟨sm_I rfl, hC1, kp0 _, kq0 _⟩
            · refine Rj_aload_n (q := 22) d_M_cut_21 rfl rfl rfl ?_
              refine Rj_iload_n (q := 23) d_M_cut_22 rfl rfl rfl ?_
              refine Rj_iload_n (q := 24) d_M_cut_23 rfl rfl rfl ?_
              refine Rj_vo (q := 27) (z := y_M_areJoined) (as := [vI a, vI b]) (rest := []) (la := [vA 0, vI a, vI b]) oM_0_M_areJoined ml_M_363 mw_M_areJoined mv_M_areJoined rfl d_M_cut_24 rfl rfl rfl rfl rfl ?_
              refine s_M_areJoined2 (by omega) (by omega) (show -1 ≤ ν 14 a ∧ ν 14 a < 12 by omega) (show -1 ≤ ν 14 b ∧ ν 14 b < 12 by omega) ?_
              refine Rj_b_ne (q := 30) (t := 32) d_M_cut_27 rfl (by decide) (fun c27 => ?_) (fun c27 => ?_)
              · have c27 := of_decide_eq_true c27
                refine Rj_aload_n (q := 33) d_M_cut_32 rfl rfl rfl ?_
                refine Rj_iload_n (q := 34) d_M_cut_33 rfl rfl rfl ?_
                refine Rj_iload_n (q := 35) d_M_cut_34 rfl rfl rfl ?_
                refine Rj_vo (q := 38) (z := y_M_without) (as := [vI a, vI b]) (rest := []) (la := [vA 0, vI a, vI b]) oM_0_M_without ml_M_442 mw_M_without mv_M_without rfl d_M_cut_35 rfl rfl rfl rfl rfl ?_
                refine s_M_without hS ⟨by omega, by omega⟩ ⟨by omega, by omega⟩ (fun k35 l35 g35 p35 => ?_)
                have e11 : l35 11 = ν 11 := g35.row (fun i q => by unfold Whw at q; omega)
                refine Rj_istore_n (q := 39) (ls' := [vA 0, vI a, vI b, vI k35]) d_M_cut_38 rfl rfl (by decide) rfl ?_
                refine Rj_aload_n (q := 40) d_M_cut_39 rfl rfl rfl ?_
                refine Rj_iconst (q := 41) d_M_cut_40 rfl ?_
                refine Rj_vov (q := 44) (z := y_M_hangsWithout) (as := [vI 0]) (rest := []) (la := [vA 0, vI 0]) oM_0_M_hangsWithout ml_M_331 mw_M_hangsWithout mv_M_hangsWithout rfl d_M_cut_41 rfl rfl rfl rfl rfl ?_
                refine s_M_hangsWithout (μ := l35) (by rw [e11]; exact hS) (by decide) (fun m41 f41 q41 l41 => ?_)
                refine Rj_iload_n (q := 45) d_M_cut_44 rfl rfl rfl ?_
                refine Rj_iret d_M_cut_45 rfl ?_
                exfalso; omega
              · have c27 := of_decide_eq_false c27
                refine Rj_iconst (q := 31) d_M_cut_30 rfl ?_
                refine Rj_iret d_M_cut_31 rfl ?_
                exact ⟨sm_I rfl, hC1, kp0 _, kq0 _⟩
      · refine Rj_iload_n (q := 5) d_Sc_isDoor_4 rfl rfl rfl ?_
        refine Rj_aload_n (q := 6) d_Sc_isDoor_5 rfl rfl rfl ?_
        refine Rj_gi (q := 9) (ki := 0) (v := ν 11 0) gD_Sc_37_3 rfl rfl z2 d_Sc_isDoor_6 rfl ?_
        refine Rj_icmp_ge (q := 12) (t := 16) d_Sc_isDoor_9 rfl (by decide) (by first | assumption | exact ⟨by omega, by omega⟩) (by first | assumption | exact ⟨by omega, by omega⟩) (fun c16_9 => ?_) (fun c16_9 => ?_)
        · refine Rj_iconst (q := 17) d_Sc_isDoor_16 rfl ?_
          refine Rj_bret0 d_Sc_isDoor_17 rfl ?_
          refine Rj_if_eq (q := 22) (t := 27) d_D_cut_19 rfl (by decide) (by decide) (fun _ => ?_) (fun c => absurd c (by decide))
          refine Rj_iconst (q := 28) d_D_cut_27 rfl ?_
          refine Rj_iret d_D_cut_28 rfl ?_
          refine Rj_aload_n (q := 1) d_M_cut_0 rfl rfl rfl ?_
          refine Rj_iload_n (q := 2) d_M_cut_1 rfl rfl rfl ?_
          refine Rj_vo (q := 5) (z := y_M_isDoor) (as := [vI a]) (rest := []) (la := [vA 0, vI a]) oM_0_M_isDoor ml_M_353 mw_M_isDoor mv_M_isDoor rfl d_M_cut_2 rfl rfl rfl rfl rfl ?_
          refine s_M_isDoor hD (by first | assumption | omega) ?_
          refine Rj_b_eq (q := 8) (t := 30) d_M_cut_5 rfl (by decide) (fun c5 => ?_) (fun c5 => ?_)
          · have c5 := of_decide_eq_false c5
            refine Rj_iconst (q := 31) d_M_cut_30 rfl ?_
            refine Rj_iret d_M_cut_31 rfl ?_
            exact ⟨sm_I rfl, hC1, kp0 _, kq0 _⟩
          · have c5 := of_decide_eq_true c5
            refine Rj_aload_n (q := 9) d_M_cut_8 rfl rfl rfl ?_
            refine Rj_iload_n (q := 10) d_M_cut_9 rfl rfl rfl ?_
            refine Rj_vo (q := 13) (z := y_M_isDoor) (as := [vI b]) (rest := []) (la := [vA 0, vI b]) oM_0_M_isDoor ml_M_353 mw_M_isDoor mv_M_isDoor rfl d_M_cut_10 rfl rfl rfl rfl rfl ?_
            refine s_M_isDoor hD (by first | assumption | omega) ?_
            refine Rj_b_eq (q := 16) (t := 30) d_M_cut_13 rfl (by decide) (fun c13 => ?_) (fun c13 => ?_)
            · have c13 := of_decide_eq_false c13
              refine Rj_iconst (q := 31) d_M_cut_30 rfl ?_
              refine Rj_iret d_M_cut_31 rfl ?_
              exact ⟨sm_I rfl, hC1, kp0 _, kq0 _⟩
            · have c13 := of_decide_eq_true c13
              refine Rj_iload_n (q := 17) d_M_cut_16 rfl rfl rfl ?_
              refine Rj_iload_n (q := 18) d_M_cut_17 rfl rfl rfl ?_
              refine Rj_icmp_eq (q := 21) (t := 30) d_M_cut_18 rfl (by decide) (by first | assumption | exact ⟨by omega, by omega⟩) (by first | assumption | exact ⟨by omega, by omega⟩) (fun c18 => ?_) (fun c18 => ?_)
              · refine Rj_iconst (q := 31) d_M_cut_30 rfl ?_
                refine Rj_iret d_M_cut_31 rfl ?_
                exact ⟨sm_I rfl, hC1, kp0 _, kq0 _⟩
              · refine Rj_aload_n (q := 22) d_M_cut_21 rfl rfl rfl ?_
                refine Rj_iload_n (q := 23) d_M_cut_22 rfl rfl rfl ?_
                refine Rj_iload_n (q := 24) d_M_cut_23 rfl rfl rfl ?_
                refine Rj_vo (q := 27) (z := y_M_areJoined) (as := [vI a, vI b]) (rest := []) (la := [vA 0, vI a, vI b]) oM_0_M_areJoined ml_M_363 mw_M_areJoined mv_M_areJoined rfl d_M_cut_24 rfl rfl rfl rfl rfl ?_
                refine s_M_areJoined2 (by omega) (by omega) (show -1 ≤ ν 14 a ∧ ν 14 a < 12 by omega) (show -1 ≤ ν 14 b ∧ ν 14 b < 12 by omega) ?_
                refine Rj_b_ne (q := 30) (t := 32) d_M_cut_27 rfl (by decide) (fun c27 => ?_) (fun c27 => ?_)
                · have c27 := of_decide_eq_true c27
                  refine Rj_aload_n (q := 33) d_M_cut_32 rfl rfl rfl ?_
                  refine Rj_iload_n (q := 34) d_M_cut_33 rfl rfl rfl ?_
                  refine Rj_iload_n (q := 35) d_M_cut_34 rfl rfl rfl ?_
                  refine Rj_vo (q := 38) (z := y_M_without) (as := [vI a, vI b]) (rest := []) (la := [vA 0, vI a, vI b]) oM_0_M_without ml_M_442 mw_M_without mv_M_without rfl d_M_cut_35 rfl rfl rfl rfl rfl ?_
                  refine s_M_without hS ⟨by omega, by omega⟩ ⟨by omega, by omega⟩ (fun k35 l35 g35 p35 => ?_)
                  have e11 : l35 11 = ν 11 := g35.row (fun i q => by unfold Whw at q; omega)
                  refine Rj_istore_n (q := 39) (ls' := [vA 0, vI a, vI b, vI k35]) d_M_cut_38 rfl rfl (by decide) rfl ?_
                  refine Rj_aload_n (q := 40) d_M_cut_39 rfl rfl rfl ?_
                  refine Rj_iconst (q := 41) d_M_cut_40 rfl ?_
                  refine Rj_vov (q := 44) (z := y_M_hangsWithout) (as := [vI 0]) (rest := []) (la := [vA 0, vI 0]) oM_0_M_hangsWithout ml_M_331 mw_M_hangsWithout mv_M_hangsWithout rfl d_M_cut_41 rfl rfl rfl rfl rfl ?_
                  refine s_M_hangsWithout (μ := l35) (by rw [e11]; exact hS) (by decide) (fun m41 f41 q41 l41 => ?_)
                  refine Rj_iload_n (q := 45) d_M_cut_44 rfl rfl rfl ?_
                  refine Rj_iret d_M_cut_45 rfl ?_
                  exfalso; omega
                · have c27 := of_decide_eq_false c27
                  refine Rj_iconst (q := 31) d_M_cut_30 rfl ?_
                  refine Rj_iret d_M_cut_31 rfl ?_
                  exact ⟨sm_I rfl, hC1, kp0 _, kq0 _⟩
        · obtain ⟨dta, dspa, tra, sra, bra, bpa, sca, lra, lqa, mra, pra, kra, zka⟩ := h.d (d := a) ⟨by omega, by omega⟩
          obtain ⟨dt, dsp, tr, sr, br, bp, sc, lr, lq, mr, pr, kr, zk⟩ := h.d (d := b) ⟨by omega, by omega⟩
          refine Rj_iconst (q := 13) d_Sc_isDoor_12 rfl ?_
          refine Rj_goto (t := 17) d_Sc_isDoor_13 (by decide) ?_
          refine Rj_bret1 d_Sc_isDoor_17 rfl ?_
          refine Rj_if_eq (q := 22) (t := 27) d_D_cut_19 rfl (by decide) (by decide) (fun c => absurd c (by decide)) (fun _ => ?_)
          refine Rj_iload_n (q := 23) d_D_cut_22 rfl rfl rfl ?_
          refine Rj_iload_n (q := 24) d_D_cut_23 rfl rfl rfl ?_
          refine Rj_icmp_ne (q := 27) (t := 29) d_D_cut_24 rfl (by decide) (by first | assumption | exact ⟨by omega, by omega⟩) (by first | assumption | exact ⟨by omega, by omega⟩) (fun c24 => ?_) (fun c24 => ?_)
          · refine Rj_aload_n (q := 30) d_D_cut_29 rfl rfl rfl ?_
            refine Rj_gr (q := 33) (zd := 59) gD_D_45_0 rfl rfl d_D_cut_30 rfl ?_
            refine Rj_gr (q := 36) (zd := 60) gD_D_167_59 rfl rfl d_D_cut_33 rfl ?_
            refine Rj_iload_n (q := 37) d_D_cut_36 rfl rfl rfl ?_
            refine Rj_ia (q := 38) (v := μ 60 a) aD_60 rfl (by omega) rfl d_D_cut_37 rfl ?_
            refine Rj_aload_n (q := 39) d_D_cut_38 rfl rfl rfl ?_
            refine Rj_gr (q := 42) (zd := 59) gD_D_45_0 rfl rfl d_D_cut_39 rfl ?_
            refine Rj_gr (q := 45) (zd := 60) gD_D_167_59 rfl rfl d_D_cut_42 rfl ?_
            refine Rj_iload_n (q := 46) d_D_cut_45 rfl rfl rfl ?_
            refine Rj_ia (q := 47) (v := μ 60 b) aD_60 rfl (by omega) rfl d_D_cut_46 rfl ?_
            refine Rj_icmp_eq (q := 50) (t := 52) d_D_cut_47 rfl (by decide) (by first | assumption | exact ⟨by omega, by omega⟩) (by first | assumption | exact ⟨by omega, by omega⟩) (fun c47 => ?_) (fun c47 => ?_)
            · refine Rj_aload_n (q := 53) d_D_cut_52 rfl rfl rfl ?_
              refine Rj_gr (q := 56) (zd := 66) gD_D_52_0 rfl rfl d_D_cut_53 rfl ?_
              refine Rj_iload_n (q := 57) d_D_cut_56 rfl rfl rfl ?_
              refine Rj_iload_n (q := 58) d_D_cut_57 rfl rfl rfl ?_
              refine Rj_vo (q := 61) (z := y_Cu_fewest) (as := [vI a, vI b]) (rest := []) (la := [vA 66, vI a, vI b]) oD_66_Cu_fewest ml_D_239 mw_Cu_fewest mv_Cu_fewest rfl d_D_cut_58 rfl rfl rfl rfl rfl ?_
              refine s_fewest (S := ν 11) hS h.2.1.1 ⟨by omega, by omega⟩ ⟨by omega, by omega⟩ (fun r58 m58 f58 q58 => ?_)
              have rr58 : i32 r58 := FW_32 z1.2 q58
              refine Rj_iret d_D_cut_61 rfl ?_
              refine Rj_aload_n (q := 1) d_M_cut_0 rfl rfl rfl ?_
              refine Rj_iload_n (q := 2) d_M_cut_1 rfl rfl rfl ?_
              refine Rj_vo (q := 5) (z := y_M_isDoor) (as := [vI a]) (rest := []) (la := [vA 0, vI a]) oM_0_M_isDoor ml_M_353 mw_M_isDoor mv_M_isDoor rfl d_M_cut_2 rfl rfl rfl rfl rfl ?_
              refine s_M_isDoor hD (by first | assumption | omega) ?_
              refine Rj_b_eq (q := 8) (t := 30) d_M_cut_5 rfl (by decide) (fun c5 => ?_) (fun c5 => ?_)
              · have c5 := of_decide_eq_false c5
                refine Rj_iconst (q := 31) d_M_cut_30 rfl ?_
                refine Rj_iret d_M_cut_31 rfl ?_
                exfalso; omega
              · have c5 := of_decide_eq_true c5
                refine Rj_aload_n (q := 9) d_M_cut_8 rfl rfl rfl ?_
                refine Rj_iload_n (q := 10) d_M_cut_9 rfl rfl rfl ?_
                refine Rj_vo (q := 13) (z := y_M_isDoor) (as := [vI b]) (rest := []) (la := [vA 0, vI b]) oM_0_M_isDoor ml_M_353 mw_M_isDoor mv_M_isDoor rfl d_M_cut_10 rfl rfl rfl rfl rfl ?_
                refine s_M_isDoor hD (by first | assumption | omega) ?_
                refine Rj_b_eq (q := 16) (t := 30) d_M_cut_13 rfl (by decide) (fun c13 => ?_) (fun c13 => ?_)
                · have c13 := of_decide_eq_false c13
                  refine Rj_iconst (q := 31) d_M_cut_30 rfl ?_
                  refine Rj_iret d_M_cut_31 rfl ?_
                  exfalso; omega
                · have c13 := of_decide_eq_true c13
                  refine Rj_iload_n (q := 17) d_M_cut_16 rfl rfl rfl ?_
                  refine Rj_iload_n (q := 18) d_M_cut_17 rfl rfl rfl ?_
                  refine Rj_icmp_eq (q := 21) (t := 30) d_M_cut_18 rfl (by decide) (by first | assumption | exact ⟨by omega, by omega⟩) (by first | assumption | exact ⟨by omega, by omega⟩) (fun c18 => ?_) (fun c18 => ?_)
                  · refine Rj_iconst (q := 31) d_M_cut_30 rfl ?_
                    refine Rj_iret d_M_cut_31 rfl ?_
                    exfalso; omega
                  · refine Rj_aload_n (q := 22) d_M_cut_21 rfl rfl rfl ?_
                    refine Rj_iload_n (q := 23) d_M_cut_22 rfl rfl rfl ?_
                    refine Rj_iload_n (q := 24) d_M_cut_23 rfl rfl rfl ?_
                    refine Rj_vo (q := 27) (z := y_M_areJoined) (as := [vI a, vI b]) (rest := []) (la := [vA 0, vI a, vI b]) oM_0_M_areJoined ml_M_363 mw_M_areJoined mv_M_areJoined rfl d_M_cut_24 rfl rfl rfl rfl rfl ?_
                    refine s_M_areJoined2 (by omega) (by omega) (show -1 ≤ ν 14 a ∧ ν 14 a < 12 by omega) (show -1 ≤ ν 14 b ∧ ν 14 b < 12 by omega) ?_
                    refine Rj_b_ne (q := 30) (t := 32) d_M_cut_27 rfl (by decide) (fun c27 => ?_) (fun c27 => ?_)
                    · have c27 := of_decide_eq_true c27
                      refine Rj_aload_n (q := 33) d_M_cut_32 rfl rfl rfl ?_
                      refine Rj_iload_n (q := 34) d_M_cut_33 rfl rfl rfl ?_
                      refine Rj_iload_n (q := 35) d_M_cut_34 rfl rfl rfl ?_
                      refine Rj_vo (q := 38) (z := y_M_without) (as := [vI a, vI b]) (rest := []) (la := [vA 0, vI a, vI b]) oM_0_M_without ml_M_442 mw_M_without mv_M_without rfl d_M_cut_35 rfl rfl rfl rfl rfl ?_
                      refine s_M_without hS ⟨by omega, by omega⟩ ⟨by omega, by omega⟩ (fun k35 l35 g35 p35 => ?_)
                      have e11 : l35 11 = ν 11 := g35.row (fun i q => by unfold Whw at q; omega)
                      refine Rj_istore_n (q := 39) (ls' := [vA 0, vI a, vI b, vI k35]) d_M_cut_38 rfl rfl (by decide) rfl ?_
                      refine Rj_aload_n (q := 40) d_M_cut_39 rfl rfl rfl ?_
                      refine Rj_iconst (q := 41) d_M_cut_40 rfl ?_
                      refine Rj_vov (q := 44) (z := y_M_hangsWithout) (as := [vI 0]) (rest := []) (la := [vA 0, vI 0]) oM_0_M_hangsWithout ml_M_331 mw_M_hangsWithout mv_M_hangsWithout rfl d_M_cut_41 rfl rfl rfl rfl rfl ?_
                      refine s_M_hangsWithout (μ := l35) (by rw [e11]; exact hS) (by decide) (fun m41 f41 q41 l41 => ?_)
                      refine Rj_iload_n (q := 45) d_M_cut_44 rfl rfl rfl ?_
                      refine Rj_iret d_M_cut_45 rfl ?_
                      rw [e11] at q41 l41
                      exact ⟨sm_I (FW_uniq q58 p35), hC.rehang f58 (g35.trans f41) ⟨q41, l41⟩⟩
                    · have c27 := of_decide_eq_false c27
                      refine Rj_iconst (q := 31) d_M_cut_30 rfl ?_
                      refine Rj_iret d_M_cut_31 rfl ?_
                      exfalso; omega
            · refine Rj_iconst (q := 51) d_D_cut_50 rfl ?_
              refine Rj_iret d_D_cut_51 rfl ?_
              refine Rj_aload_n (q := 1) d_M_cut_0 rfl rfl rfl ?_
              refine Rj_iload_n (q := 2) d_M_cut_1 rfl rfl rfl ?_
              refine Rj_vo (q := 5) (z := y_M_isDoor) (as := [vI a]) (rest := []) (la := [vA 0, vI a]) oM_0_M_isDoor ml_M_353 mw_M_isDoor mv_M_isDoor rfl d_M_cut_2 rfl rfl rfl rfl rfl ?_
              refine s_M_isDoor hD (by first | assumption | omega) ?_
              refine Rj_b_eq (q := 8) (t := 30) d_M_cut_5 rfl (by decide) (fun c5 => ?_) (fun c5 => ?_)
              · have c5 := of_decide_eq_false c5
                refine Rj_iconst (q := 31) d_M_cut_30 rfl ?_
                refine Rj_iret d_M_cut_31 rfl ?_
                exact ⟨sm_I rfl, hC1, kp0 _, kq0 _⟩
              · have c5 := of_decide_eq_true c5
                refine Rj_aload_n (q := 9) d_M_cut_8 rfl rfl rfl ?_
                refine Rj_iload_n (q := 10) d_M_cut_9 rfl rfl rfl ?_
                refine Rj_vo (q := 13) (z := y_M_isDoor) (as := [vI b]) (rest := []) (la := [vA 0, vI b]) oM_0_M_isDoor ml_M_353 mw_M_isDoor mv_M_isDoor rfl d_M_cut_10 rfl rfl rfl rfl rfl ?_
                refine s_M_isDoor hD (by first | assumption | omega) ?_
                refine Rj_b_eq (q := 16) (t := 30) d_M_cut_13 rfl (by decide) (fun c13 => ?_) (fun c13 => ?_)
                · have c13 := of_decide_eq_false c13
                  refine Rj_iconst (q := 31) d_M_cut_30 rfl ?_
                  refine Rj_iret d_M_cut_31 rfl ?_
                  exact ⟨sm_I rfl, hC1, kp0 _, kq0 _⟩
                · have c13 := of_decide_eq_true c13
                  refine Rj_iload_n (q := 17) d_M_cut_16 rfl rfl rfl ?_
                  refine Rj_iload_n (q := 18) d_M_cut_17 rfl rfl rfl ?_
                  refine Rj_icmp_eq (q := 21) (t := 30) d_M_cut_18 rfl (by decide) (by first | assumption | exact ⟨by omega, by omega⟩) (by first | assumption | exact ⟨by omega, by omega⟩) (fun c18 => ?_) (fun c18 => ?_)
                  · refine Rj_iconst (q := 31) d_M_cut_30 rfl ?_
                    refine Rj_iret d_M_cut_31 rfl ?_
                    exact ⟨sm_I rfl, hC1, kp0 _, kq0 _⟩
                  · refine Rj_aload_n (q := 22) d_M_cut_21 rfl rfl rfl ?_
                    refine Rj_iload_n (q := 23) d_M_cut_22 rfl rfl rfl ?_
                    refine Rj_iload_n (q := 24) d_M_cut_23 rfl rfl rfl ?_
                    refine Rj_vo (q := 27) (z := y_M_areJoined) (as := [vI a, vI b]) (rest := []) (la := [vA 0, vI a, vI b]) oM_0_M_areJoined ml_M_363 mw_M_areJoined mv_M_areJoined rfl d_M_cut_24 rfl rfl rfl rfl rfl ?_
                    refine s_M_areJoined2 (by omega) (by omega) (show -1 ≤ ν 14 a ∧ ν 14 a < 12 by omega) (show -1 ≤ ν 14 b ∧ ν 14 b < 12 by omega) ?_
                    refine Rj_b_ne (q := 30) (t := 32) d_M_cut_27 rfl (by decide) (fun c27 => ?_) (fun c27 => ?_)
                    · have c27 := of_decide_eq_true c27
                      refine Rj_aload_n (q := 33) d_M_cut_32 rfl rfl rfl ?_
                      refine Rj_iload_n (q := 34) d_M_cut_33 rfl rfl rfl ?_
                      refine Rj_iload_n (q := 35) d_M_cut_34 rfl rfl rfl ?_
                      refine Rj_vo (q := 38) (z := y_M_without) (as := [vI a, vI b]) (rest := []) (la := [vA 0, vI a, vI b]) oM_0_M_without ml_M_442 mw_M_without mv_M_without rfl d_M_cut_35 rfl rfl rfl rfl rfl ?_
                      refine s_M_without hS ⟨by omega, by omega⟩ ⟨by omega, by omega⟩ (fun k35 l35 g35 p35 => ?_)
                      have e11 : l35 11 = ν 11 := g35.row (fun i q => by unfold Whw at q; omega)
                      refine Rj_istore_n (q := 39) (ls' := [vA 0, vI a, vI b, vI k35]) d_M_cut_38 rfl rfl (by decide) rfl ?_
                      refine Rj_aload_n (q := 40) d_M_cut_39 rfl rfl rfl ?_
                      refine Rj_iconst (q := 41) d_M_cut_40 rfl ?_
                      refine Rj_vov (q := 44) (z := y_M_hangsWithout) (as := [vI 0]) (rest := []) (la := [vA 0, vI 0]) oM_0_M_hangsWithout ml_M_331 mw_M_hangsWithout mv_M_hangsWithout rfl d_M_cut_41 rfl rfl rfl rfl rfl ?_
                      refine s_M_hangsWithout (μ := l35) (by rw [e11]; exact hS) (by decide) (fun m41 f41 q41 l41 => ?_)
                      refine Rj_iload_n (q := 45) d_M_cut_44 rfl rfl rfl ?_
                      refine Rj_iret d_M_cut_45 rfl ?_
                      exfalso; omega
                    · have c27 := of_decide_eq_false c27
                      refine Rj_iconst (q := 31) d_M_cut_30 rfl ?_
                      refine Rj_iret d_M_cut_31 rfl ?_
                      exact ⟨sm_I rfl, hC1, kp0 _, kq0 _⟩
          · refine Rj_iconst (q := 28) d_D_cut_27 rfl ?_
            refine Rj_iret d_D_cut_28 rfl ?_
            refine Rj_aload_n (q := 1) d_M_cut_0 rfl rfl rfl ?_
            refine Rj_iload_n (q := 2) d_M_cut_1 rfl rfl rfl ?_
            refine Rj_vo (q := 5) (z := y_M_isDoor) (as := [vI a]) (rest := []) (la := [vA 0, vI a]) oM_0_M_isDoor ml_M_353 mw_M_isDoor mv_M_isDoor rfl d_M_cut_2 rfl rfl rfl rfl rfl ?_
            refine s_M_isDoor hD (by first | assumption | omega) ?_
            refine Rj_b_eq (q := 8) (t := 30) d_M_cut_5 rfl (by decide) (fun c5 => ?_) (fun c5 => ?_)
            · have c5 := of_decide_eq_false c5
              refine Rj_iconst (q := 31) d_M_cut_30 rfl ?_
              refine Rj_iret d_M_cut_31 rfl ?_
              exact ⟨sm_I rfl, hC1, kp0 _, kq0 _⟩
            · have c5 := of_decide_eq_true c5
              refine Rj_aload_n (q := 9) d_M_cut_8 rfl rfl rfl ?_
              refine Rj_iload_n (q := 10) d_M_cut_9 rfl rfl rfl ?_
              refine Rj_vo (q := 13) (z := y_M_isDoor) (as := [vI b]) (rest := []) (la := [vA 0, vI b]) oM_0_M_isDoor ml_M_353 mw_M_isDoor mv_M_isDoor rfl d_M_cut_10 rfl rfl rfl rfl rfl ?_
              refine s_M_isDoor hD (by first | assumption | omega) ?_
              refine Rj_b_eq (q := 16) (t := 30) d_M_cut_13 rfl (by decide) (fun c13 => ?_) (fun c13 => ?_)
              · have c13 := of_decide_eq_false c13
                refine Rj_iconst (q := 31) d_M_cut_30 rfl ?_
                refine Rj_iret d_M_cut_31 rfl ?_
                exact ⟨sm_I rfl, hC1, kp0 _, kq0 _⟩
              · have c13 := of_decide_eq_true c13
                refine Rj_iload_n (q := 17) d_M_cut_16 rfl rfl rfl ?_
                refine Rj_iload_n (q := 18) d_M_cut_17 rfl rfl rfl ?_
                refine Rj_icmp_eq (q := 21) (t := 30) d_M_cut_18 rfl (by decide) (by first | assumption | exact ⟨by omega, by omega⟩) (by first | assumption | exact ⟨by omega, by omega⟩) (fun c18 => ?_) (fun c18 => ?_)
                · refine Rj_iconst (q := 31) d_M_cut_30 rfl ?_
                  refine Rj_iret d_M_cut_31 rfl ?_
                  exact ⟨sm_I rfl, hC1, kp0 _, kq0 _⟩
                · refine Rj_aload_n (q := 22) d_M_cut_21 rfl rfl rfl ?_
                  refine Rj_iload_n (q := 23) d_M_cut_22 rfl rfl rfl ?_
                  refine Rj_iload_n (q := 24) d_M_cut_23 rfl rfl rfl ?_
                  refine Rj_vo (q := 27) (z := y_M_areJoined) (as := [vI a, vI b]) (rest := []) (la := [vA 0, vI a, vI b]) oM_0_M_areJoined ml_M_363 mw_M_areJoined mv_M_areJoined rfl d_M_cut_24 rfl rfl rfl rfl rfl ?_
                  refine s_M_areJoined2 (by omega) (by omega) (show -1 ≤ ν 14 a ∧ ν 14 a < 12 by omega) (show -1 ≤ ν 14 b ∧ ν 14 b < 12 by omega) ?_
                  refine Rj_b_ne (q := 30) (t := 32) d_M_cut_27 rfl (by decide) (fun c27 => ?_) (fun c27 => ?_)
                  · have c27 := of_decide_eq_true c27
                    refine Rj_aload_n (q := 33) d_M_cut_32 rfl rfl rfl ?_
                    refine Rj_iload_n (q := 34) d_M_cut_33 rfl rfl rfl ?_
                    refine Rj_iload_n (q := 35) d_M_cut_34 rfl rfl rfl ?_
                    refine Rj_vo (q := 38) (z := y_M_without) (as := [vI a, vI b]) (rest := []) (la := [vA 0, vI a, vI b]) oM_0_M_without ml_M_442 mw_M_without mv_M_without rfl d_M_cut_35 rfl rfl rfl rfl rfl ?_
                    refine s_M_without hS ⟨by omega, by omega⟩ ⟨by omega, by omega⟩ (fun k35 l35 g35 p35 => ?_)
                    have e11 : l35 11 = ν 11 := g35.row (fun i q => by unfold Whw at q; omega)
                    refine Rj_istore_n (q := 39) (ls' := [vA 0, vI a, vI b, vI k35]) d_M_cut_38 rfl rfl (by decide) rfl ?_
                    refine Rj_aload_n (q := 40) d_M_cut_39 rfl rfl rfl ?_
                    refine Rj_iconst (q := 41) d_M_cut_40 rfl ?_
                    refine Rj_vov (q := 44) (z := y_M_hangsWithout) (as := [vI 0]) (rest := []) (la := [vA 0, vI 0]) oM_0_M_hangsWithout ml_M_331 mw_M_hangsWithout mv_M_hangsWithout rfl d_M_cut_41 rfl rfl rfl rfl rfl ?_
                    refine s_M_hangsWithout (μ := l35) (by rw [e11]; exact hS) (by decide) (fun m41 f41 q41 l41 => ?_)
                    refine Rj_iload_n (q := 45) d_M_cut_44 rfl rfl rfl ?_
                    refine Rj_iret d_M_cut_45 rfl ?_
                    exfalso; omega
                  · have c27 := of_decide_eq_false c27
                    refine Rj_iconst (q := 31) d_M_cut_30 rfl ?_
                    refine Rj_iret d_M_cut_31 rfl ?_
                    exact ⟨sm_I rfl, hC1, kp0 _, kq0 _⟩
set_option maxHeartbeats 8000000 in
theorem C_freed {n : Nat} {μ ν : Mem} {a : Int} (hC : Cor n μ ν) (hn : n ≤ 511) (ha : i32 a)  : Rj YD y_D_freed 0 [vA 0, vI a] [] μ (fun r μ' => Rj YM y_M_freed 0 [vA 0, vI a] [] ν (fun r' ν' => Sm 1 r' r ∧ Cor (n + 1) μ' ν' ∧ Kp μ μ' ∧ Kq ν ν')) := by
  obtain ⟨hTP, hK, hSc, h, hM, hSB, hBK, hIM⟩ := id hC
  have hC1 := hC.next
  obtain ⟨z0, z1, z2, z3, z4, z5, z6, z7⟩ := h.z
  obtain ⟨hS, hH, hP, hB, hFx⟩ := id hM
  have hD := z0
  have hJ := z1
  refine Rj_aload_n (q := 1) d_D_freed_0 rfl rfl rfl ?_
  refine Rj_gr (q := 4) (zd := 3) gD_D_25_0 rfl rfl d_D_freed_1 rfl ?_
  refine Rj_iload_n (q := 5) d_D_freed_4 rfl rfl rfl ?_
  refine Rj_vo (q := 8) (z := y_Sc_isDoor) (as := [vI a]) (rest := []) (la := [vA 3, vI a]) oD_3_Sc_isDoor ml_D_144 mw_Sc_isDoor mv_Sc_isDoor rfl d_D_freed_5 rfl rfl rfl rfl rfl ?_
  refine Rj_iload_n (q := 1) d_Sc_isDoor_0 rfl rfl rfl ?_
  refine Rj_if_lt (q := 4) (t := 16) d_Sc_isDoor_1 rfl (by decide) (by first | assumption | exact ⟨by omega, by omega⟩) (fun c5_1 => ?_) (fun c5_1 => ?_)
  · refine Rj_iconst (q := 17) d_Sc_isDoor_16 rfl ?_
    refine Rj_bret0 d_Sc_isDoor_17 rfl ?_
    refine Rj_if_eq (q := 11) (t := 25) d_D_freed_8 rfl (by decide) (by decide) (fun _ => ?_) (fun c => absurd c (by decide))
    refine Rj_iconst (q := 26) d_D_freed_25 rfl ?_
    refine Rj_iret d_D_freed_26 rfl ?_
    refine Rj_aload_n (q := 1) d_M_freed_0 rfl rfl rfl ?_
    refine Rj_iload_n (q := 2) d_M_freed_1 rfl rfl rfl ?_
    refine Rj_vo (q := 5) (z := y_M_isDoor) (as := [vI a]) (rest := []) (la := [vA 0, vI a]) oM_0_M_isDoor ml_M_353 mw_M_isDoor mv_M_isDoor rfl d_M_freed_2 rfl rfl rfl rfl rfl ?_
    refine s_M_isDoor hD (by first | assumption | omega) ?_
    refine Rj_b_eq (q := 8) (t := 17) d_M_freed_5 rfl (by decide) (fun c5 => ?_) (fun c5 => ?_)
    · have c5 := of_decide_eq_false c5
      refine Rj_iconst (q := 18) d_M_freed_17 rfl ?_
      refine Rj_iret d_M_freed_18 rfl ?_
      exact ⟨sm_I rfl, hC1, kp0 _, kq0 _⟩
    · have c5 := of_decide_eq_true c5
      refine Rj_aload_n (q := 9) d_M_freed_8 rfl rfl rfl ?_
      refine Rj_gr (q := 12) (zd := 17) gM_M_60_0 rfl rfl d_M_freed_9 rfl ?_
      refine Rj_iload_n (q := 13) d_M_freed_12 rfl rfl rfl ?_
      refine Rj_za (q := 14) (v := ν 17 a) aM_17 rfl (by omega) rfl d_M_freed_13 rfl ?_
      refine Rj_if_ne (q := 17) (t := 19) d_M_freed_14 rfl (by decide) (by first | assumption | exact ⟨by omega, by omega⟩) (fun c14 => ?_) (fun c14 => ?_)
      · refine Rj_aload_n (q := 20) d_M_freed_19 rfl rfl rfl ?_
        refine Rj_iload_n (q := 21) d_M_freed_20 rfl rfl rfl ?_
        refine Rj_iconst (q := 22) d_M_freed_21 rfl ?_
        refine Rj_vo (q := 25) (z := y_M_without) (as := [vI a, vI (-1)]) (rest := []) (la := [vA 0, vI a, vI (-1)]) oM_0_M_without ml_M_442 mw_M_without mv_M_without rfl d_M_freed_22 rfl rfl rfl rfl rfl ?_
        refine s_M_without hS ⟨by omega, by omega⟩ ⟨by omega, by omega⟩ (fun k22 l22 g22 p22 => ?_)
        have e11 : l22 11 = ν 11 := g22.row (fun i q => by unfold Whw at q; omega)
        refine Rj_istore_n (q := 26) (ls' := [vA 0, vI a, vI k22]) d_M_freed_25 rfl rfl (by decide) rfl ?_
        refine Rj_aload_n (q := 27) d_M_freed_26 rfl rfl rfl ?_
        refine Rj_iconst (q := 28) d_M_freed_27 rfl ?_
        refine Rj_vov (q := 31) (z := y_M_hangsWithout) (as := [vI 0]) (rest := []) (la := [vA 0, vI 0]) oM_0_M_hangsWithout ml_M_331 mw_M_hangsWithout mv_M_hangsWithout rfl d_M_freed_28 rfl rfl rfl rfl rfl ?_
        refine s_M_hangsWithout (μ := l22) (by rw [e11]; exact hS) (by decide) (fun m28 f28 q28 l28 => ?_)
        refine Rj_iload_n (q := 32) d_M_freed_31 rfl rfl rfl ?_
        refine Rj_iret d_M_freed_32 rfl ?_
        exfalso; omega
      · refine Rj_iconst (q := 18) d_M_freed_17 rfl ?_
        refine Rj_iret d_M_freed_18 rfl ?_
        exact ⟨sm_I rfl, hC1, kp0 _, kq0 _⟩
  · refine Rj_iload_n (q := 5) d_Sc_isDoor_4 rfl rfl rfl ?_
    refine Rj_aload_n (q := 6) d_Sc_isDoor_5 rfl rfl rfl ?_
    refine Rj_gi (q := 9) (ki := 0) (v := ν 11 0) gD_Sc_37_3 rfl rfl z2 d_Sc_isDoor_6 rfl ?_
    refine Rj_icmp_ge (q := 12) (t := 16) d_Sc_isDoor_9 rfl (by decide) (by first | assumption | exact ⟨by omega, by omega⟩) (by first | assumption | exact ⟨by omega, by omega⟩) (fun c5_9 => ?_) (fun c5_9 => ?_)
    · refine Rj_iconst (q := 17) d_Sc_isDoor_16 rfl ?_
      refine Rj_bret0 d_Sc_isDoor_17 rfl ?_
      refine Rj_if_eq (q := 11) (t := 25) d_D_freed_8 rfl (by decide) (by decide) (fun _ => ?_) (fun c => absurd c (by decide))
      refine Rj_iconst (q := 26) d_D_freed_25 rfl ?_
      refine Rj_iret d_D_freed_26 rfl ?_
      refine Rj_aload_n (q := 1) d_M_freed_0 rfl rfl rfl ?_
      refine Rj_iload_n (q := 2) d_M_freed_1 rfl rfl rfl ?_
      refine Rj_vo (q := 5) (z := y_M_isDoor) (as := [vI a]) (rest := []) (la := [vA 0, vI a]) oM_0_M_isDoor ml_M_353 mw_M_isDoor mv_M_isDoor rfl d_M_freed_2 rfl rfl rfl rfl rfl ?_
      refine s_M_isDoor hD (by first | assumption | omega) ?_
      refine Rj_b_eq (q := 8) (t := 17) d_M_freed_5 rfl (by decide) (fun c5 => ?_) (fun c5 => ?_)
      · have c5 := of_decide_eq_false c5
        refine Rj_iconst (q := 18) d_M_freed_17 rfl ?_
        refine Rj_iret d_M_freed_18 rfl ?_
        exact ⟨sm_I rfl, hC1, kp0 _, kq0 _⟩
      · have c5 := of_decide_eq_true c5
        refine Rj_aload_n (q := 9) d_M_freed_8 rfl rfl rfl ?_
        refine Rj_gr (q := 12) (zd := 17) gM_M_60_0 rfl rfl d_M_freed_9 rfl ?_
        refine Rj_iload_n (q := 13) d_M_freed_12 rfl rfl rfl ?_
        refine Rj_za (q := 14) (v := ν 17 a) aM_17 rfl (by omega) rfl d_M_freed_13 rfl ?_
        refine Rj_if_ne (q := 17) (t := 19) d_M_freed_14 rfl (by decide) (by first | assumption | exact ⟨by omega, by omega⟩) (fun c14 => ?_) (fun c14 => ?_)
        · refine Rj_aload_n (q := 20) d_M_freed_19 rfl rfl rfl ?_
          refine Rj_iload_n (q := 21) d_M_freed_20 rfl rfl rfl ?_
          refine Rj_iconst (q := 22) d_M_freed_21 rfl ?_
          refine Rj_vo (q := 25) (z := y_M_without) (as := [vI a, vI (-1)]) (rest := []) (la := [vA 0, vI a, vI (-1)]) oM_0_M_without ml_M_442 mw_M_without mv_M_without rfl d_M_freed_22 rfl rfl rfl rfl rfl ?_
          refine s_M_without hS ⟨by omega, by omega⟩ ⟨by omega, by omega⟩ (fun k22 l22 g22 p22 => ?_)
          have e11 : l22 11 = ν 11 := g22.row (fun i q => by unfold Whw at q; omega)
          refine Rj_istore_n (q := 26) (ls' := [vA 0, vI a, vI k22]) d_M_freed_25 rfl rfl (by decide) rfl ?_
          refine Rj_aload_n (q := 27) d_M_freed_26 rfl rfl rfl ?_
          refine Rj_iconst (q := 28) d_M_freed_27 rfl ?_
          refine Rj_vov (q := 31) (z := y_M_hangsWithout) (as := [vI 0]) (rest := []) (la := [vA 0, vI 0]) oM_0_M_hangsWithout ml_M_331 mw_M_hangsWithout mv_M_hangsWithout rfl d_M_freed_28 rfl rfl rfl rfl rfl ?_
          refine s_M_hangsWithout (μ := l22) (by rw [e11]; exact hS) (by decide) (fun m28 f28 q28 l28 => ?_)
          refine Rj_iload_n (q := 32) d_M_freed_31 rfl rfl rfl ?_
          refine Rj_iret d_M_freed_32 rfl ?_
          exfalso; omega
        · refine Rj_iconst (q := 18) d_M_freed_17 rfl ?_
          refine Rj_iret d_M_freed_18 rfl ?_
          exact ⟨sm_I rfl, hC1, kp0 _, kq0 _⟩
    · obtain ⟨dt, dsp, tr, sr, br, bp, sc, lr, lq, mr, pr, kr, zk⟩ := h.d ⟨by omega, by omega⟩
      have zb := zbit_01 (μ 59 7) a
      refine Rj_iconst (q := 13) d_Sc_isDoor_12 rfl ?_
      refine Rj_goto (t := 17) d_Sc_isDoor_13 (by decide) ?_
      refine Rj_bret1 d_Sc_isDoor_17 rfl ?_
      refine Rj_if_eq (q := 11) (t := 25) d_D_freed_8 rfl (by decide) (by decide) (fun c => absurd c (by decide)) (fun _ => ?_)
      refine Rj_aload_n (q := 12) d_D_freed_11 rfl rfl rfl ?_
      refine Rj_gr (q := 15) (zd := 59) gD_D_45_0 rfl rfl d_D_freed_12 rfl ?_
      refine Rj_gi (q := 18) (ki := 7) (v := μ 59 7) gD_D_164_59 rfl rfl rfl d_D_freed_15 rfl ?_
      refine Rj_iload_n (q := 19) d_D_freed_18 rfl rfl rfl ?_
      refine Rj_cs (q := 22) (z := y_D_bitOf) (as := [vI (μ 59 7), vI a]) (rest := []) (la := [vI (μ 59 7), vI a]) ml_D_157 mw_D_bitOf ms_D_bitOf d_D_freed_19 rfl rfl rfl rfl rfl ?_
      refine s_D_bitOf (by omega) (by omega) ?_
      refine Rj_if_ne (q := 25) (t := 27) d_D_freed_22 rfl (by decide) (by first | assumption | exact ⟨by omega, by omega⟩) (fun c22 => ?_) (fun c22 => ?_)
      · refine Rj_aload_n (q := 28) d_D_freed_27 rfl rfl rfl ?_
        refine Rj_gr (q := 31) (zd := 66) gD_D_52_0 rfl rfl d_D_freed_28 rfl ?_
        refine Rj_iload_n (q := 32) d_D_freed_31 rfl rfl rfl ?_
        refine Rj_iconst (q := 33) d_D_freed_32 rfl ?_
        refine Rj_vo (q := 36) (z := y_Cu_fewest) (as := [vI a, vI (-1)]) (rest := []) (la := [vA 66, vI a, vI (-1)]) oD_66_Cu_fewest ml_D_239 mw_Cu_fewest mv_Cu_fewest rfl d_D_freed_33 rfl rfl rfl rfl rfl ?_
        refine s_fewest (S := ν 11) hS h.2.1.1 ⟨by omega, by omega⟩ ⟨by omega, by omega⟩ (fun r33 m33 f33 q33 => ?_)
        have rr33 : i32 r33 := FW_32 z1.2 q33
        refine Rj_iret d_D_freed_36 rfl ?_
        refine Rj_aload_n (q := 1) d_M_freed_0 rfl rfl rfl ?_
        refine Rj_iload_n (q := 2) d_M_freed_1 rfl rfl rfl ?_
        refine Rj_vo (q := 5) (z := y_M_isDoor) (as := [vI a]) (rest := []) (la := [vA 0, vI a]) oM_0_M_isDoor ml_M_353 mw_M_isDoor mv_M_isDoor rfl d_M_freed_2 rfl rfl rfl rfl rfl ?_
        refine s_M_isDoor hD (by first | assumption | omega) ?_
        refine Rj_b_eq (q := 8) (t := 17) d_M_freed_5 rfl (by decide) (fun c5 => ?_) (fun c5 => ?_)
        · have c5 := of_decide_eq_false c5
          refine Rj_iconst (q := 18) d_M_freed_17 rfl ?_
          refine Rj_iret d_M_freed_18 rfl ?_
          exfalso; omega
        · have c5 := of_decide_eq_true c5
          refine Rj_aload_n (q := 9) d_M_freed_8 rfl rfl rfl ?_
          refine Rj_gr (q := 12) (zd := 17) gM_M_60_0 rfl rfl d_M_freed_9 rfl ?_
          refine Rj_iload_n (q := 13) d_M_freed_12 rfl rfl rfl ?_
          refine Rj_za (q := 14) (v := ν 17 a) aM_17 rfl (by omega) rfl d_M_freed_13 rfl ?_
          refine Rj_if_ne (q := 17) (t := 19) d_M_freed_14 rfl (by decide) (by first | assumption | exact ⟨by omega, by omega⟩) (fun c14 => ?_) (fun c14 => ?_)
          · refine Rj_aload_n (q := 20) d_M_freed_19 rfl rfl rfl ?_
            refine Rj_iload_n (q := 21) d_M_freed_20 rfl rfl rfl ?_
            refine Rj_iconst (q := 22) d_M_freed_21 rfl ?_
            refine Rj_vo (q := 25) (z := y_M_without) (as := [vI a, vI (-1)]) (rest := []) (la := [vA 0, vI a, vI (-1)]) oM_0_M_without ml_M_442 mw_M_without mv_M_without rfl d_M_freed_22 rfl rfl rfl rfl rfl ?_
            refine s_M_without hS ⟨by omega, by omega⟩ ⟨by omega, by omega⟩ (fun k22 l22 g22 p22 => ?_)
            have e11 : l22 11 = ν 11 := g22.row (fun i q => by unfold Whw at q; omega)
            refine Rj_istore_n (q := 26) (ls' := [vA 0, vI a, vI k22]) d_M_freed_25 rfl rfl (by decide) rfl ?_
            refine Rj_aload_n (q := 27) d_M_freed_26 rfl rfl rfl ?_
            refine Rj_iconst (q := 28) d_M_freed_27 rfl ?_
            refine Rj_vov (q := 31) (z := y_M_hangsWithout) (as := [vI 0]) (rest := []) (la := [vA 0, vI 0]) oM_0_M_hangsWithout ml_M_331 mw_M_hangsWithout mv_M_hangsWithout rfl d_M_freed_28 rfl rfl rfl rfl rfl ?_
            refine s_M_hangsWithout (μ := l22) (by rw [e11]; exact hS) (by decide) (fun m28 f28 q28 l28 => ?_)
            refine Rj_iload_n (q := 32) d_M_freed_31 rfl rfl rfl ?_
            refine Rj_iret d_M_freed_32 rfl ?_
            rw [e11] at q28 l28
            exact ⟨sm_I (FW_uniq q33 p22), hC.rehang f33 (g22.trans f28) ⟨q28, l28⟩⟩
          · refine Rj_iconst (q := 18) d_M_freed_17 rfl ?_
            refine Rj_iret d_M_freed_18 rfl ?_
            exfalso; omega
      · refine Rj_iconst (q := 26) d_D_freed_25 rfl ?_
        refine Rj_iret d_D_freed_26 rfl ?_
        refine Rj_aload_n (q := 1) d_M_freed_0 rfl rfl rfl ?_
        refine Rj_iload_n (q := 2) d_M_freed_1 rfl rfl rfl ?_
        refine Rj_vo (q := 5) (z := y_M_isDoor) (as := [vI a]) (rest := []) (la := [vA 0, vI a]) oM_0_M_isDoor ml_M_353 mw_M_isDoor mv_M_isDoor rfl d_M_freed_2 rfl rfl rfl rfl rfl ?_
        refine s_M_isDoor hD (by first | assumption | omega) ?_
        refine Rj_b_eq (q := 8) (t := 17) d_M_freed_5 rfl (by decide) (fun c5 => ?_) (fun c5 => ?_)
        · have c5 := of_decide_eq_false c5
          refine Rj_iconst (q := 18) d_M_freed_17 rfl ?_
          refine Rj_iret d_M_freed_18 rfl ?_
          exact ⟨sm_I rfl, hC1, kp0 _, kq0 _⟩
        · have c5 := of_decide_eq_true c5
          refine Rj_aload_n (q := 9) d_M_freed_8 rfl rfl rfl ?_
          refine Rj_gr (q := 12) (zd := 17) gM_M_60_0 rfl rfl d_M_freed_9 rfl ?_
          refine Rj_iload_n (q := 13) d_M_freed_12 rfl rfl rfl ?_
          refine Rj_za (q := 14) (v := ν 17 a) aM_17 rfl (by omega) rfl d_M_freed_13 rfl ?_
          refine Rj_if_ne (q := 17) (t := 19) d_M_freed_14 rfl (by decide) (by first | assumption | exact ⟨by omega, by omega⟩) (fun c14 => ?_) (fun c14 => ?_)
          · refine Rj_aload_n (q := 20) d_M_freed_19 rfl rfl rfl ?_
            refine Rj_iload_n (q := 21) d_M_freed_20 rfl rfl rfl ?_
            refine Rj_iconst (q := 22) d_M_freed_21 rfl ?_
            refine Rj_vo (q := 25) (z := y_M_without) (as := [vI a, vI (-1)]) (rest := []) (la := [vA 0, vI a, vI (-1)]) oM_0_M_without ml_M_442 mw_M_without mv_M_without rfl d_M_freed_22 rfl rfl rfl rfl rfl ?_
            refine s_M_without hS ⟨by omega, by omega⟩ ⟨by omega, by omega⟩ (fun k22 l22 g22 p22 => ?_)
            have e11 : l22 11 = ν 11 := g22.row (fun i q => by unfold Whw at q; omega)
            refine Rj_istore_n (q := 26) (ls' := [vA 0, vI a, vI k22]) d_M_freed_25 rfl rfl (by decide) rfl ?_
            refine Rj_aload_n (q := 27) d_M_freed_26 rfl rfl rfl ?_
            refine Rj_iconst (q := 28) d_M_freed_27 rfl ?_
            refine Rj_vov (q := 31) (z := y_M_hangsWithout) (as := [vI 0]) (rest := []) (la := [vA 0, vI 0]) oM_0_M_hangsWithout ml_M_331 mw_M_hangsWithout mv_M_hangsWithout rfl d_M_freed_28 rfl rfl rfl rfl rfl ?_
            refine s_M_hangsWithout (μ := l22) (by rw [e11]; exact hS) (by decide) (fun m28 f28 q28 l28 => ?_)
            refine Rj_iload_n (q := 32) d_M_freed_31 rfl rfl rfl ?_
            refine Rj_iret d_M_freed_32 rfl ?_
            exfalso; omega
          · refine Rj_iconst (q := 18) d_M_freed_17 rfl ?_
            refine Rj_iret d_M_freed_18 rfl ?_
            exact ⟨sm_I rfl, hC1, kp0 _, kq0 _⟩
