theorem gM_M_35_0 : GI YM "DoorsOnCogsModel" 35 0 22 (some (some 9)) := ⟨by decide, _, _, _, fl_M_35, cM_0, by decide, rfl⟩
theorem gM_M_282_0 : GI YM "DoorsOnCogsModel" 282 0 23 none := ⟨by decide, _, _, _, fl_M_282, cM_0, by decide, rfl⟩
theorem aM_9 : AI YM 9 (.long) 64 := ⟨by decide, cM_9, by decide⟩
theorem pM_M_282_0 : PI YM "DoorsOnCogsModel" 282 0 23 none .int := ⟨by decide, _, _, _, fl_M_282, fp_10_23, cM_0, by decide, rfl⟩
theorem oM_0_M_pop : OI YM 0 y_M_pop := ⟨by decide, _, _, _, cM_0, rfl⟩
theorem oM_0_M_heaps : OI YM 0 y_M_heaps := ⟨by decide, _, _, _, cM_0, rfl⟩
theorem gM_M_39_0 : GI YM "DoorsOnCogsModel" 39 0 24 (some (some 10)) := ⟨by decide, _, _, _, fl_M_39, cM_0, by decide, rfl⟩
theorem aM_10 : AI YM 10 (.long) 8 := ⟨by decide, cM_10, by decide⟩
/-! the reference: a rule's code run -/
def SSM (μ : Mem) (st : List Int) : Prop := μ 0 23 = (st.length : Int) ∧ WST (μ 9) st
abbrev Wsn (c : Nat) (i : Int) : Prop := (c = 0 ∧ i = 23) ∨ c = 9
theorem z_and_15 {a : Int} (h0 : 0 ≤ a) (h1 : a < 2147483648) : z_and a 15 = a % 16 := by
  obtain ⟨k, rfl⟩ := set_nat h0
  have := z_and_n (a := k) (b := 15) (by omega)
  rw [Nat.and_two_pow_sub_one_eq_mod k 4] at this
  have e : z_and (k : Int) 15 = ((k % 2 ^ 4 : Nat) : Int) := this
  rw [e]
  omega
theorem z_shr_4 {a : Int} (h : i32 a) : z_shr a 4 = a / 16 := by
  have := z_shr_g h (k := 4) (by decide)
  exact this
theorem enc_k {op n a : Int} (q : hst op n = some a) : (enc op % 16 = 0 ↔ 32 ≤ op) ∧ (enc op % 16 = 1 ↔ op ≤ 7) ∧ (enc op % 16 = 11 ↔ op = 19) ∧ (32 ≤ op → enc op / 16 = op - 32) ∧ (op ≤ 7 → enc op / 16 = op) ∧ (0 ≤ enc op ∧ enc op ≤ 2000000) ∧ (8 ≤ op → op ≤ 18 → enc op % 16 = enc op) := by
  have r : (0 ≤ op ∧ op ≤ 19) ∨ (32 ≤ op ∧ op ≤ 100031) := by
    rcases hst_some q with ⟨h1, h2, h3⟩ | ⟨h1, h2, h3⟩ | ⟨h1, h2, h3⟩ <;> omega
  have e : (32 ≤ op ∧ enc op = 16 * (op - 32)) ∨ (op ≤ 7 ∧ enc op = 1 + 16 * op) ∨ ((8 ≤ op ∧ op ≤ 16) ∧ enc op = op - 6) ∨ (op = 17 ∧ enc op = 12) ∨ (op = 18 ∧ enc op = 13) ∨ (op = 19 ∧ enc op = 11) := by
    unfold enc
    rcases r with r | r
    · rw [if_neg (by omega)]
      by_cases e1 : op ≤ 7
      · rw [if_pos e1]; omega
      · rw [if_neg e1]
        by_cases e2 : op ≤ 16
        · rw [if_pos e2]; omega
        · rw [if_neg e2]
          by_cases e3 : op = 17
          · rw [if_pos e3]; omega
          · rw [if_neg e3]
            by_cases e4 : op = 18
            · rw [if_pos e4]; omega
            · rw [if_neg e4, if_pos (by omega)]; omega
    · rw [if_pos r.1]; omega
  omega
theorem enc_b {op : Int} (h : 8 ≤ op ∧ op ≤ 18) : (op ≤ 16 ∧ enc op = op - 6) ∨ (op = 17 ∧ enc op = 12) ∨ (op = 18 ∧ enc op = 13) := by
  unfold enc
  rw [if_neg (by omega), if_neg (by omega)]
  by_cases e2 : op ≤ 16
  · rw [if_pos e2]; omega
  · rw [if_neg e2]
    by_cases e3 : op = 17
    · rw [if_pos e3]; omega
    · rw [if_neg e3, if_pos (by omega)]; omega
set_option maxHeartbeats 4000000 in
theorem s_M_heaps {μ : Mem} {Q : PV → Mem → Prop} {v : Int} {st : List Int} (h : SSM μ st) (hl : (st.length : Int) < 64) (hQ : ∀ μ', Fr Wsn μ μ' → SSM μ' (v :: st) → Q vU μ') : Rj YM y_M_heaps 0 [vA 0, vL v, vU] [] μ Q := by
  refine Rj_aload_n (q := 1) d_M_heaps_0 rfl rfl rfl ?_
  refine Rj_gr (q := 4) (zd := 9) gM_M_35_0 rfl rfl d_M_heaps_1 rfl ?_
  refine Rj_aload_n (q := 5) d_M_heaps_4 rfl rfl rfl ?_
  refine Rj_gi (q := 8) (ki := 23) (v := (st.length : Int)) gM_M_282_0 rfl rfl h.1 d_M_heaps_5 rfl ?_
  refine Rj_lload_n (q := 9) d_M_heaps_8 rfl rfl rfl ?_
  refine Rj_lst (q := 10) aM_9 rfl (by omega) d_M_heaps_9 rfl ?_
  refine Rj_aload_n (q := 11) d_M_heaps_10 rfl rfl rfl ?_
  refine Rj_dup (q := 12) d_M_heaps_11 rfl (by intro h; cases h) ?_
  refine Rj_gi (q := 15) (ki := 23) (v := (st.length : Int)) gM_M_282_0 rfl rfl h.1 d_M_heaps_12 rfl ?_
  refine Rj_iconst (q := 16) d_M_heaps_15 rfl ?_
  refine Rj_iadd (q := 17) d_M_heaps_16 rfl ?_
  refine Rj_pi (q := 20) (ki := 23) pM_M_282_0 rfl rfl d_M_heaps_17 rfl ?_
  refine Rj_vret d_M_heaps_20 rfl ?_
  exact hQ _ (Fr.put (Fr.put (Fr.refl _ _) (Or.inr rfl)) (Or.inl ⟨rfl, rfl⟩)) ⟨by rw [mset_same]; simp, mset_same _ _ _ _, WST_keep h.2 (fun i i0 i1 => mset_ne _ _ _ _ _ (by omega))⟩
set_option maxHeartbeats 4000000 in
theorem s_M_pop {μ : Mem} {Q : PV → Mem → Prop} {v : Int} {st : List Int} (h : SSM μ (v :: st)) (hl : (st.length : Int) < 64) (hQ : ∀ μ', Fr Wsn μ μ' → SSM μ' st → Q (vL v) μ') : Rj YM y_M_pop 0 [vA 0] [] μ Q := by
  have h1 : μ 0 23 = (st.length : Int) + 1 := by rw [h.1]; simp
  have h2 : μ 9 (st.length : Int) = v := h.2.1
  refine Rj_aload_n (q := 1) d_M_pop_0 rfl rfl rfl ?_
  refine Rj_dup (q := 2) d_M_pop_1 rfl (by intro h; cases h) ?_
  refine Rj_gi (q := 5) (ki := 23) (v := (st.length : Int) + 1) gM_M_282_0 rfl rfl h1 d_M_pop_2 rfl ?_
  refine Rj_iconst (q := 6) d_M_pop_5 rfl ?_
  refine Rj_isub (q := 7) d_M_pop_6 rfl ?_
  rw [show ((st.length : Int) + 1) - 1 = (st.length : Int) from (by omega)]
  refine Rj_pi (q := 10) (ki := 23) pM_M_282_0 rfl rfl d_M_pop_7 rfl ?_
  refine Rj_aload_n (q := 11) d_M_pop_10 rfl rfl rfl ?_
  refine Rj_gr (q := 14) (zd := 9) gM_M_35_0 rfl rfl d_M_pop_11 rfl ?_
  refine Rj_aload_n (q := 15) d_M_pop_14 rfl rfl rfl ?_
  refine Rj_gi (q := 18) (ki := 23) (v := (st.length : Int)) gM_M_282_0 rfl rfl rfl d_M_pop_15 rfl ?_
  refine Rj_la (q := 19) (v := v) aM_9 rfl (by omega) h2 d_M_pop_18 rfl ?_
  refine Rj_lret d_M_pop_19 rfl ?_
  exact hQ _ (Fr.put (Fr.refl _ _) (Or.inl ⟨rfl, rfl⟩)) ⟨mset_same _ _ _ _, h.2.2⟩
set_option maxHeartbeats 4000000 in
theorem s_M_one {μ : Mem} {Q : PV → Mem → Prop} {op e a b : Int} (ho : 8 ≤ op ∧ op ≤ 18) (he : enc op = e) (ha : i64 a) (hb : i64 b) (hQ : Q (vL (jop op a b)) μ) : Rj YM y_M_one 0 [vI e, vL a, vU, vL b, vU] [] μ Q := by
  have eb := enc_b ho
  rw [he] at eb
  refine Rj_iload_n (q := 1) d_M_one_0 rfl rfl rfl ?_
  rcases (show e = 2 ∨ e = 3 ∨ e = 4 ∨ e = 5 ∨ e = 6 ∨ e = 7 ∨ e = 8 ∨ e = 9 ∨ e = 10 ∨ e = 11 ∨ e = 12 ∨ (e < 2 ∨ 12 < e) by omega) with hs1 | hs1 | hs1 | hs1 | hs1 | hs1 | hs1 | hs1 | hs1 | hs1 | hs1 | hs1
  · refine Rj_tsI (t := 60) d_M_one_1 ⟨by omega, by omega⟩ (by omega) (by omega) (by rw [hs1]; rfl) (by decide) ?_
    refine Rj_lload_n (q := 61) d_M_one_60 rfl rfl rfl ?_
    refine Rj_lload_n (q := 62) d_M_one_61 rfl rfl rfl ?_
    refine Rj_ladd (q := 63) d_M_one_62 rfl ?_
    refine Rj_nl (z' := nL (a + b)) (nL_eq _) ?_
    refine Rj_lret d_M_one_63 rfl ?_
    have eo : op = 8 := by omega
    exact fin_L hQ (by rw [eo]; rfl)
  · refine Rj_tsI (t := 64) d_M_one_1 ⟨by omega, by omega⟩ (by omega) (by omega) (by rw [hs1]; rfl) (by decide) ?_
    refine Rj_lload_n (q := 65) d_M_one_64 rfl rfl rfl ?_
    refine Rj_lload_n (q := 66) d_M_one_65 rfl rfl rfl ?_
    refine Rj_lsub (q := 67) d_M_one_66 rfl ?_
    refine Rj_nl (z' := nL (a - b)) (nL_eq _) ?_
    refine Rj_lret d_M_one_67 rfl ?_
    have eo : op = 9 := by omega
    exact fin_L hQ (by rw [eo]; rfl)
  · refine Rj_tsI (t := 68) d_M_one_1 ⟨by omega, by omega⟩ (by omega) (by omega) (by rw [hs1]; rfl) (by decide) ?_
    refine Rj_lload_n (q := 69) d_M_one_68 rfl rfl rfl ?_
    refine Rj_lload_n (q := 70) d_M_one_69 rfl rfl rfl ?_
    refine Rj_lmul (q := 71) d_M_one_70 rfl ?_
    refine Rj_nl (z' := nL (a * b)) (nL_eq _) ?_
    refine Rj_lret d_M_one_71 rfl ?_
    have eo : op = 10 := by omega
    exact fin_L hQ (by rw [eo]; rfl)
  · refine Rj_tsI (t := 72) d_M_one_1 ⟨by omega, by omega⟩ (by omega) (by omega) (by rw [hs1]; rfl) (by decide) ?_
    refine Rj_lload_n (q := 73) d_M_one_72 rfl rfl rfl ?_
    refine Rj_lconst (q := 74) (z := 0) d_M_one_73 rfl rfl ?_
    refine Rj_lc_ne (q := 75) (q2 := 78) (t := 82) d_M_one_74 rfl d_M_one_75 rfl (by decide) (by first | assumption | decide) (by decide) (fun c74 => ?_) (fun c74 => ?_)
    · refine Rj_lload_n (q := 83) d_M_one_82 rfl rfl rfl ?_
      refine Rj_lload_n (q := 84) d_M_one_83 rfl rfl rfl ?_
      refine Rj_ldiv (q := 85) d_M_one_84 rfl (by first | assumption | decide) (by first | assumption | decide) (by omega) ?_
      refine Rj_nl (z' := nL (a.tdiv b)) (nL_eq _) ?_
      refine Rj_lret d_M_one_85 rfl ?_
      have eo : op = 11 := by omega
      exact fin_L hQ (by rw [eo]; show (if b = 0 then 0 else nL (a.tdiv b)) = _; rw [if_neg (by omega)])
    · refine Rj_lconst (q := 79) (z := 0) d_M_one_78 rfl rfl ?_
      refine Rj_goto (t := 85) d_M_one_79 (by decide) ?_
      refine Rj_lret d_M_one_85 rfl ?_
      have eo : op = 11 := by omega
      exact fin_L hQ (by rw [eo]; show (if b = 0 then 0 else nL (a.tdiv b)) = _; rw [if_pos (by omega)])
  · refine Rj_tsI (t := 86) d_M_one_1 ⟨by omega, by omega⟩ (by omega) (by omega) (by rw [hs1]; rfl) (by decide) ?_
    refine Rj_lload_n (q := 87) d_M_one_86 rfl rfl rfl ?_
    refine Rj_lload_n (q := 88) d_M_one_87 rfl rfl rfl ?_
    refine Rj_lc_ge (q := 89) (q2 := 92) (t := 96) d_M_one_88 rfl d_M_one_89 rfl (by decide) (by first | assumption | decide) (by first | assumption | decide) (fun c88 => ?_) (fun c88 => ?_)
    · refine Rj_lconst (q := 97) (z := 0) d_M_one_96 rfl rfl ?_
      refine Rj_lret d_M_one_97 rfl ?_
      have eo : op = 12 := by omega
      exact fin_L hQ (by rw [eo]; show (if a < b then (1 : Int) else 0) = 0; rw [if_neg (by omega)])
    · refine Rj_lconst (q := 93) (z := 1) d_M_one_92 rfl rfl ?_
      refine Rj_goto (t := 97) d_M_one_93 (by decide) ?_
      refine Rj_lret d_M_one_97 rfl ?_
      have eo : op = 12 := by omega
      exact fin_L hQ (by rw [eo]; show (if a < b then (1 : Int) else 0) = 1; rw [if_pos (by omega)])
  · refine Rj_tsI (t := 98) d_M_one_1 ⟨by omega, by omega⟩ (by omega) (by omega) (by rw [hs1]; rfl) (by decide) ?_
    refine Rj_lload_n (q := 99) d_M_one_98 rfl rfl rfl ?_
    refine Rj_lload_n (q := 100) d_M_one_99 rfl rfl rfl ?_
    refine Rj_lc_gt (q := 101) (q2 := 104) (t := 108) d_M_one_100 rfl d_M_one_101 rfl (by decide) (by first | assumption | decide) (by first | assumption | decide) (fun c100 => ?_) (fun c100 => ?_)
    · refine Rj_lconst (q := 109) (z := 0) d_M_one_108 rfl rfl ?_
      refine Rj_lret d_M_one_109 rfl ?_
      have eo : op = 13 := by omega
      exact fin_L hQ (by rw [eo]; show (if a ≤ b then (1 : Int) else 0) = 0; rw [if_neg (by omega)])
    · refine Rj_lconst (q := 105) (z := 1) d_M_one_104 rfl rfl ?_
      refine Rj_goto (t := 109) d_M_one_105 (by decide) ?_
      refine Rj_lret d_M_one_109 rfl ?_
      have eo : op = 13 := by omega
      exact fin_L hQ (by rw [eo]; show (if a ≤ b then (1 : Int) else 0) = 1; rw [if_pos (by omega)])
  · refine Rj_tsI (t := 110) d_M_one_1 ⟨by omega, by omega⟩ (by omega) (by omega) (by rw [hs1]; rfl) (by decide) ?_
    refine Rj_lload_n (q := 111) d_M_one_110 rfl rfl rfl ?_
    refine Rj_lload_n (q := 112) d_M_one_111 rfl rfl rfl ?_
    refine Rj_lc_ne (q := 113) (q2 := 116) (t := 120) d_M_one_112 rfl d_M_one_113 rfl (by decide) (by first | assumption | decide) (by first | assumption | decide) (fun c112 => ?_) (fun c112 => ?_)
    · refine Rj_lconst (q := 121) (z := 0) d_M_one_120 rfl rfl ?_
      refine Rj_lret d_M_one_121 rfl ?_
      have eo : op = 14 := by omega
      exact fin_L hQ (by rw [eo]; show (if a = b then (1 : Int) else 0) = 0; rw [if_neg (by omega)])
    · refine Rj_lconst (q := 117) (z := 1) d_M_one_116 rfl rfl ?_
      refine Rj_goto (t := 121) d_M_one_117 (by decide) ?_
      refine Rj_lret d_M_one_121 rfl ?_
      have eo : op = 14 := by omega
      exact fin_L hQ (by rw [eo]; show (if a = b then (1 : Int) else 0) = 1; rw [if_pos (by omega)])
  · refine Rj_tsI (t := 122) d_M_one_1 ⟨by omega, by omega⟩ (by omega) (by omega) (by rw [hs1]; rfl) (by decide) ?_
    refine Rj_lload_n (q := 123) d_M_one_122 rfl rfl rfl ?_
    refine Rj_lload_n (q := 124) d_M_one_123 rfl rfl rfl ?_
    refine Rj_lc_lt (q := 125) (q2 := 128) (t := 132) d_M_one_124 rfl d_M_one_125 rfl (by decide) (by first | assumption | decide) (by first | assumption | decide) (fun c124 => ?_) (fun c124 => ?_)
    · refine Rj_lconst (q := 133) (z := 0) d_M_one_132 rfl rfl ?_
      refine Rj_lret d_M_one_133 rfl ?_
      have eo : op = 15 := by omega
      exact fin_L hQ (by rw [eo]; show (if b ≤ a then (1 : Int) else 0) = 0; rw [if_neg (by omega)])
    · refine Rj_lconst (q := 129) (z := 1) d_M_one_128 rfl rfl ?_
      refine Rj_goto (t := 133) d_M_one_129 (by decide) ?_
      refine Rj_lret d_M_one_133 rfl ?_
      have eo : op = 15 := by omega
      exact fin_L hQ (by rw [eo]; show (if b ≤ a then (1 : Int) else 0) = 1; rw [if_pos (by omega)])
  · refine Rj_tsI (t := 134) d_M_one_1 ⟨by omega, by omega⟩ (by omega) (by omega) (by rw [hs1]; rfl) (by decide) ?_
    refine Rj_lload_n (q := 135) d_M_one_134 rfl rfl rfl ?_
    refine Rj_lload_n (q := 136) d_M_one_135 rfl rfl rfl ?_
    refine Rj_lc_le (q := 137) (q2 := 140) (t := 144) d_M_one_136 rfl d_M_one_137 rfl (by decide) (by first | assumption | decide) (by first | assumption | decide) (fun c136 => ?_) (fun c136 => ?_)
    · refine Rj_lconst (q := 145) (z := 0) d_M_one_144 rfl rfl ?_
      refine Rj_lret d_M_one_145 rfl ?_
      have eo : op = 16 := by omega
      exact fin_L hQ (by rw [eo]; show (if b < a then (1 : Int) else 0) = 0; rw [if_neg (by omega)])
    · refine Rj_lconst (q := 141) (z := 1) d_M_one_140 rfl rfl ?_
      refine Rj_goto (t := 145) d_M_one_141 (by decide) ?_
      refine Rj_lret d_M_one_145 rfl ?_
      have eo : op = 16 := by omega
      exact fin_L hQ (by rw [eo]; show (if b < a then (1 : Int) else 0) = 1; rw [if_pos (by omega)])
  · refine Rj_tsI (t := 150) d_M_one_1 ⟨by omega, by omega⟩ (by omega) (by omega) (by rw [hs1]; rfl) (by decide) ?_
    refine Rj_lload_n (q := 151) d_M_one_150 rfl rfl rfl ?_
    refine Rj_lload_n (q := 152) d_M_one_151 rfl rfl rfl ?_
    refine Rj_lor (q := 153) (z := zl_or a b) d_M_one_152 rfl rfl ?_
    refine Rj_lret d_M_one_153 rfl ?_
    have eo : op = 18 := by omega
    exact fin_L hQ (by rw [eo]; rfl)
  · refine Rj_tsI (t := 146) d_M_one_1 ⟨by omega, by omega⟩ (by omega) (by omega) (by rw [hs1]; rfl) (by decide) ?_
    refine Rj_lload_n (q := 147) d_M_one_146 rfl rfl rfl ?_
    refine Rj_lload_n (q := 148) d_M_one_147 rfl rfl rfl ?_
    refine Rj_land (q := 149) (z := zl_and a b) d_M_one_148 rfl rfl ?_
    refine Rj_lret d_M_one_149 rfl ?_
    have eo : op = 17 := by omega
    exact fin_L hQ (by rw [eo]; rfl)
  · refine Rj_tsO (t := 150) d_M_one_1 ⟨by omega, by omega⟩ hs1 (by decide) ?_
    refine Rj_lload_n (q := 151) d_M_one_150 rfl rfl rfl ?_
    refine Rj_lload_n (q := 152) d_M_one_151 rfl rfl rfl ?_
    refine Rj_lor (q := 153) (z := zl_or a b) d_M_one_152 rfl rfl ?_
    refine Rj_lret d_M_one_153 rfl ?_
    have eo : op = 18 := by omega
    exact fin_L hQ (by rw [eo]; rfl)
set_option maxHeartbeats 4000000 in
theorem s_M_reck_8 : ∀ (f : Nat) {μ : Mem} {Q : PV → Mem → Prop} {W : Int → Int} {t b0 e0 i a : Int} {c st : List Int}, (c.length < f) → (0 ≤ t ∧ t < 6) → (∀ j, 0 ≤ j → j ≤ 7 → μ 10 j = W j) → (∀ j, 0 ≤ j → j ≤ 7 → i64 (W j)) → (0 ≤ i) → (i + (c.length : Int) ≤ e0) → (e0 ≤ 400) → (LST (μ 2) (400 * t + i) (c.map enc)) → (htf c (st.length : Int) = some a) → ((st.length : Int) ≤ 60) → (SSM μ st) → (S64 st) → (∀ μ', Fr Wsn μ μ' → SSM μ' (ev W c st) → Rj YM y_M_reckons 8 [vA 0, vI t, vI b0, vI e0, vI (i + (c.length : Int))] [] μ' Q) → Rj YM y_M_reckons 8 [vA 0, vI t, vI b0, vI e0, vI i] [] μ Q := by
  intro f
  induction f with
  | zero => intro μ Q W t b0 e0 i a c st hf ht hW hW6 hi hi2 he hL hh hs6 hS h64 hQ; exact absurd hf (by omega)
  | succ f ih =>
    intro μ Q W t b0 e0 i a c st hf ht hW hW6 hi hi2 he hL hh hs6 hS h64 hQ
    rcases c with _ | ⟨op, c2⟩
    · have q := hQ μ (Fr.refl _ _) hS
      rw [show i + ((([] : List Int).length : Nat) : Int) = i by simp] at q
      exact q
    have cl : (((op :: c2).length : Nat) : Int) = (c2.length : Int) + 1 := by simp
    obtain ⟨b, h1, h2⟩ := htf_cons hh
    have hg := hst_rg h1
    have ek := enc_k h1
    have er := ek.2.2.2.2.2.1
    have el := (evo_c (W := W) h1).1
    rw [← el] at h2
    have h2i : μ 2 (400 * t + i) = enc op := hL.1
    refine Rj_iload (q := 10) d_M_reckons_8 rfl rfl ?_
    refine Rj_iload_n (q := 11) d_M_reckons_10 rfl rfl rfl ?_
    refine Rj_icmp_ge (q := 14) (t := 135) d_M_reckons_11 rfl (by decide) ⟨by omega, by omega⟩ ⟨by omega, by omega⟩ (fun c11 => ?_) (fun c11 => ?_)
    · exact absurd c11 (by omega)
    · refine Rj_aload_n (q := 15) d_M_reckons_14 rfl rfl rfl ?_
      refine Rj_gr (q := 18) (zd := 2) gM_M_13_0 rfl rfl d_M_reckons_15 rfl ?_
      refine Rj_sipush (q := 21) d_M_reckons_18 rfl (by decide +kernel) ?_
      refine Rj_iload_n (q := 22) d_M_reckons_21 rfl rfl rfl ?_
      refine Rj_imul (q := 23) d_M_reckons_22 rfl ?_
      refine Rj_iload (q := 25) d_M_reckons_23 rfl rfl ?_
      refine Rj_iadd (q := 26) d_M_reckons_25 rfl ?_
      refine Rj_ia (q := 27) (v := enc op) aM_2 rfl (by omega) h2i d_M_reckons_26 rfl ?_
      refine Rj_bipush (q := 29) d_M_reckons_27 rfl (by decide +kernel) ?_
      refine Rj_iand (q := 30) (z := (enc op) % 16) d_M_reckons_29 rfl (z_and_15 (by omega) (by omega)) ?_
      refine Rj_istore (q := 32) (ls' := [vA 0, vI t, vI b0, vI e0, vI i, vI ((enc op) % 16)]) d_M_reckons_30 rfl (by decide) rfl ?_
      refine Rj_aload_n (q := 33) d_M_reckons_32 rfl rfl rfl ?_
      refine Rj_gr (q := 36) (zd := 2) gM_M_13_0 rfl rfl d_M_reckons_33 rfl ?_
      refine Rj_sipush (q := 39) d_M_reckons_36 rfl (by decide +kernel) ?_
      refine Rj_iload_n (q := 40) d_M_reckons_39 rfl rfl rfl ?_
      refine Rj_imul (q := 41) d_M_reckons_40 rfl ?_
      refine Rj_iload (q := 43) d_M_reckons_41 rfl rfl ?_
      refine Rj_iadd (q := 44) d_M_reckons_43 rfl ?_
      refine Rj_ia (q := 45) (v := enc op) aM_2 rfl (by omega) h2i d_M_reckons_44 rfl ?_
      refine Rj_iconst (q := 46) d_M_reckons_45 rfl ?_
      refine Rj_ishr (q := 47) (z := (enc op) / 16) d_M_reckons_46 rfl (z_shr_4 ⟨by omega, by omega⟩) ?_
      refine Rj_istore (q := 49) (ls' := [vA 0, vI t, vI b0, vI e0, vI i, vI ((enc op) % 16), vI ((enc op) / 16)]) d_M_reckons_47 rfl (by decide) rfl ?_
      refine Rj_iload (q := 51) d_M_reckons_49 rfl rfl ?_
      refine Rj_if_ne (q := 54) (t := 64) d_M_reckons_51 rfl (by decide) ⟨by omega, by omega⟩ (fun c51 => ?_) (fun c51 => ?_)
      · refine Rj_iload (q := 66) d_M_reckons_64 rfl rfl ?_
        refine Rj_iconst (q := 67) d_M_reckons_66 rfl ?_
        refine Rj_icmp_ne (q := 70) (t := 84) d_M_reckons_67 rfl (by decide) ⟨by omega, by omega⟩ (by decide) (fun c67 => ?_) (fun c67 => ?_)
        · refine Rj_iload (q := 86) d_M_reckons_84 rfl rfl ?_
          refine Rj_bipush (q := 88) d_M_reckons_86 rfl (by decide +kernel) ?_
          refine Rj_icmp_ne (q := 91) (t := 104) d_M_reckons_88 rfl (by decide) ⟨by omega, by omega⟩ (by decide) (fun c88 => ?_) (fun c88 => ?_)
          · refine Rj_aload_n (q := 105) d_M_reckons_104 rfl rfl rfl ?_
            refine Rj_vo (q := 108) (z := y_M_pop) (as := []) (rest := []) (la := [vA 0]) oM_0_M_pop ml_M_289 mw_M_pop mv_M_pop rfl d_M_reckons_105 rfl rfl rfl rfl rfl ?_
            obtain ⟨bo, y, x, t_, es, ee⟩ := evo_bn (W := W) h1 (fun q => c51 (ek.1.mpr q)) (fun q => c67 (ek.2.1.mpr q)) (fun q => c88 (ek.2.2.1.mpr q))
            rw [es] at hS
            have tl : (st.length : Int) = (t_.length : Int) + 2 := by rw [es]; simp; omega
            have x6 : i64 x := h64 x (by rw [es]; simp)
            have y6 : i64 y := h64 y (by rw [es]; simp)
            have ebn := ek.2.2.2.2.2.2 bo.1 bo.2
            refine s_M_pop hS (by first | omega | (simp only [List.length_cons]; omega)) (fun m105 fm105 sm105 => ?_)
            have fr105 : Fr Wsn μ m105 := fm105
            refine Rj_lstore (q := 110) (ls' := [vA 0, vI t, vI b0, vI e0, vI i, vI ((enc op) % 16), vI ((enc op) / 16), vL y, vU]) d_M_reckons_108 rfl (by decide) rfl ?_
            refine Rj_aload_n (q := 111) d_M_reckons_110 rfl rfl rfl ?_
            refine Rj_vo (q := 114) (z := y_M_pop) (as := []) (rest := []) (la := [vA 0]) oM_0_M_pop ml_M_289 mw_M_pop mv_M_pop rfl d_M_reckons_111 rfl rfl rfl rfl rfl ?_
            refine s_M_pop sm105 (by first | omega | (simp only [List.length_cons]; omega)) (fun m111 fm111 sm111 => ?_)
            have fr111 : Fr Wsn μ m111 := Fr.trans fr105 fm111
            refine Rj_lstore (q := 116) (ls' := [vA 0, vI t, vI b0, vI e0, vI i, vI ((enc op) % 16), vI ((enc op) / 16), vL y, vU, vL x, vU]) d_M_reckons_114 rfl (by decide) rfl ?_
            refine Rj_aload_n (q := 117) d_M_reckons_116 rfl rfl rfl ?_
            refine Rj_iload (q := 119) d_M_reckons_117 rfl rfl ?_
            refine Rj_lload (q := 121) d_M_reckons_119 rfl rfl ?_
            refine Rj_lload (q := 123) d_M_reckons_121 rfl rfl ?_
            refine Rj_cs (q := 126) (z := y_M_one) (as := [vI ((enc op) % 16), vL x, vL y]) (rest := [vA 0]) (la := [vI ((enc op) % 16), vL x, vU, vL y, vU]) ml_M_293 mw_M_one ms_M_one d_M_reckons_123 rfl rfl rfl rfl rfl ?_
            refine s_M_one bo ebn.symm x6 y6 ?_
            refine Rj_vov (q := 129) (z := y_M_heaps) (as := [vL (jop op x y)]) (rest := []) (la := [vA 0, vL (jop op x y), vU]) oM_0_M_heaps ml_M_285 mw_M_heaps mv_M_heaps rfl d_M_reckons_126 rfl rfl rfl rfl rfl ?_
            refine s_M_heaps (v := jop op x y) sm111 (by first | omega | (simp only [List.length_cons]; omega)) (fun m126 fm126 sm126 => ?_)
            have fr126 : Fr Wsn μ m126 := Fr.trans fr111 fm126
            refine Rj_iinc (q := 132) (ls' := [vA 0, vI t, vI b0, vI e0, vI (i + 1), vI ((enc op) % 16), vI ((enc op) / 16), vL y, vU, vL x, vU]) d_M_reckons_129 rfl rfl (by decide) rfl ?_
            refine Rj_goto (t := 8) d_M_reckons_132 (by decide) ?_
            refine Rj_pre (ls' := [vA 0, vI t, vI b0, vI e0, vI (i + 1)]) (t := [vI ((enc op) % 16), vI ((enc op) / 16), vL y, vU, vL x, vU]) rfl ?_
            have e2 : m126 2 = μ 2 := fr126.row (fun i q => by unfold Wsn at q; omega)
            have e10 : m126 10 = μ 10 := fr126.row (fun i q => by unfold Wsn at q; omega)
            have sm : SSM m126 (evo W op st) := by rw [ee]; exact sm126
            refine ih (μ := m126) (c := c2) (st := evo W op st) (i := i + 1) (by simp at hf; omega) ht (by rw [e10]; exact hW) hW6 (by omega) (by omega) (by omega) (by rw [e2, show 400 * t + (i + 1) = 400 * t + i + 1 by omega]; exact hL.2) h2 (by omega) sm (evo_64 hW6 h1 h64) (fun m2 b1 b2 => ?_)
            have q := hQ m2 (fr126.trans b1) b2
            rw [show i + (((op :: c2).length : Nat) : Int) = i + 1 + (c2.length : Int) by rw [List.length_cons]; omega] at q
            exact q
          · refine Rj_aload_n (q := 92) d_M_reckons_91 rfl rfl rfl ?_
            refine Rj_lconst (q := 93) (z := 1) d_M_reckons_92 rfl rfl ?_
            refine Rj_aload_n (q := 94) d_M_reckons_93 rfl rfl rfl ?_
            refine Rj_vo (q := 97) (z := y_M_pop) (as := []) (rest := [vL 1, vA 0]) (la := [vA 0]) oM_0_M_pop ml_M_289 mw_M_pop mv_M_pop rfl d_M_reckons_94 rfl rfl rfl rfl rfl ?_
            have o19 := ek.2.2.1.mp c88
            obtain ⟨x, t_, es, ee⟩ := evo_nt (W := W) h1 o19
            rw [es] at hS
            have tl : (st.length : Int) = (t_.length : Int) + 1 := by rw [es]; simp
            have x6 : i64 x := h64 x (by rw [es]; simp)
            refine s_M_pop hS (by first | omega | (simp only [List.length_cons]; omega)) (fun m94 fm94 sm94 => ?_)
            have fr94 : Fr Wsn μ m94 := fm94
            refine Rj_lsub (q := 98) d_M_reckons_97 rfl ?_
            refine Rj_nl (z' := nL (1 - x)) (nL_eq _) ?_
            refine Rj_vov (q := 101) (z := y_M_heaps) (as := [vL (nL (1 - x))]) (rest := []) (la := [vA 0, vL (nL (1 - x)), vU]) oM_0_M_heaps ml_M_285 mw_M_heaps mv_M_heaps rfl d_M_reckons_98 rfl rfl rfl rfl rfl ?_
            refine s_M_heaps (v := nL (1 - x)) sm94 (by first | omega | (simp only [List.length_cons]; omega)) (fun m98 fm98 sm98 => ?_)
            have fr98 : Fr Wsn μ m98 := Fr.trans fr94 fm98
            refine Rj_goto (t := 129) d_M_reckons_101 (by decide) ?_
            refine Rj_iinc (q := 132) (ls' := [vA 0, vI t, vI b0, vI e0, vI (i + 1), vI ((enc op) % 16), vI ((enc op) / 16)]) d_M_reckons_129 rfl rfl (by decide) rfl ?_
            refine Rj_goto (t := 8) d_M_reckons_132 (by decide) ?_
            refine Rj_pre (ls' := [vA 0, vI t, vI b0, vI e0, vI (i + 1)]) (t := [vI ((enc op) % 16), vI ((enc op) / 16)]) rfl ?_
            have e2 : m98 2 = μ 2 := fr98.row (fun i q => by unfold Wsn at q; omega)
            have e10 : m98 10 = μ 10 := fr98.row (fun i q => by unfold Wsn at q; omega)
            have sm : SSM m98 (evo W op st) := by rw [ee]; exact sm98
            refine ih (μ := m98) (c := c2) (st := evo W op st) (i := i + 1) (by simp at hf; omega) ht (by rw [e10]; exact hW) hW6 (by omega) (by omega) (by omega) (by rw [e2, show 400 * t + (i + 1) = 400 * t + i + 1 by omega]; exact hL.2) h2 (by omega) sm (evo_64 hW6 h1 h64) (fun m2 b1 b2 => ?_)
            have q := hQ m2 (fr98.trans b1) b2
            rw [show i + (((op :: c2).length : Nat) : Int) = i + 1 + (c2.length : Int) by rw [List.length_cons]; omega] at q
            exact q
        · have o7 := ek.2.1.mp c67
          have ew := evo_wd (W := W) h1 o7
          refine Rj_aload_n (q := 71) d_M_reckons_70 rfl rfl rfl ?_
          refine Rj_aload_n (q := 72) d_M_reckons_71 rfl rfl rfl ?_
          refine Rj_gr (q := 75) (zd := 10) gM_M_39_0 rfl rfl d_M_reckons_72 rfl ?_
          refine Rj_iload (q := 77) d_M_reckons_75 rfl rfl ?_
          refine Rj_la (q := 78) (v := W op) aM_10 rfl (by omega) (by rw [ek.2.2.2.2.1 (by omega)]; exact hW op (by omega) (by omega)) d_M_reckons_77 rfl ?_
          refine Rj_vov (q := 81) (z := y_M_heaps) (as := [vL (W op)]) (rest := []) (la := [vA 0, vL (W op), vU]) oM_0_M_heaps ml_M_285 mw_M_heaps mv_M_heaps rfl d_M_reckons_78 rfl rfl rfl rfl rfl ?_
          refine s_M_heaps (v := W op) hS (by first | omega | (simp only [List.length_cons]; omega)) (fun m78 fm78 sm78 => ?_)
          have fr78 : Fr Wsn μ m78 := Fr.trans (Fr.refl _ _) fm78
          refine Rj_goto (t := 129) d_M_reckons_81 (by decide) ?_
          refine Rj_iinc (q := 132) (ls' := [vA 0, vI t, vI b0, vI e0, vI (i + 1), vI ((enc op) % 16), vI ((enc op) / 16)]) d_M_reckons_129 rfl rfl (by decide) rfl ?_
          refine Rj_goto (t := 8) d_M_reckons_132 (by decide) ?_
          refine Rj_pre (ls' := [vA 0, vI t, vI b0, vI e0, vI (i + 1)]) (t := [vI ((enc op) % 16), vI ((enc op) / 16)]) rfl ?_
          have e2 : m78 2 = μ 2 := fr78.row (fun i q => by unfold Wsn at q; omega)
          have e10 : m78 10 = μ 10 := fr78.row (fun i q => by unfold Wsn at q; omega)
          have sm : SSM m78 (evo W op st) := by rw [ew.1]; exact sm78
          refine ih (μ := m78) (c := c2) (st := evo W op st) (i := i + 1) (by simp at hf; omega) ht (by rw [e10]; exact hW) hW6 (by omega) (by omega) (by omega) (by rw [e2, show 400 * t + (i + 1) = 400 * t + i + 1 by omega]; exact hL.2) h2 (by omega) sm (evo_64 hW6 h1 h64) (fun m2 b1 b2 => ?_)
          have q := hQ m2 (fr78.trans b1) b2
          rw [show i + (((op :: c2).length : Nat) : Int) = i + 1 + (c2.length : Int) by rw [List.length_cons]; omega] at q
          exact q
      · have o32 := ek.1.mp c51
        have en := evo_num (W := W) h1 o32
        rw [ek.2.2.2.1 o32]
        refine Rj_aload_n (q := 55) d_M_reckons_54 rfl rfl rfl ?_
        refine Rj_iload (q := 57) d_M_reckons_55 rfl rfl ?_
        refine Rj_i2l (q := 58) d_M_reckons_57 rfl ⟨by omega, by omega⟩ ?_
        refine Rj_vov (q := 61) (z := y_M_heaps) (as := [vL (op - 32)]) (rest := []) (la := [vA 0, vL (op - 32), vU]) oM_0_M_heaps ml_M_285 mw_M_heaps mv_M_heaps rfl d_M_reckons_58 rfl rfl rfl rfl rfl ?_
        refine s_M_heaps (v := op - 32) hS (by first | omega | (simp only [List.length_cons]; omega)) (fun m58 fm58 sm58 => ?_)
        have fr58 : Fr Wsn μ m58 := Fr.trans (Fr.refl _ _) fm58
        refine Rj_goto (t := 129) d_M_reckons_61 (by decide) ?_
        refine Rj_iinc (q := 132) (ls' := [vA 0, vI t, vI b0, vI e0, vI (i + 1), vI ((enc op) % 16), vI (op - 32)]) d_M_reckons_129 rfl rfl (by decide) rfl ?_
        refine Rj_goto (t := 8) d_M_reckons_132 (by decide) ?_
        refine Rj_pre (ls' := [vA 0, vI t, vI b0, vI e0, vI (i + 1)]) (t := [vI ((enc op) % 16), vI (op - 32)]) rfl ?_
        have e2 : m58 2 = μ 2 := fr58.row (fun i q => by unfold Wsn at q; omega)
        have e10 : m58 10 = μ 10 := fr58.row (fun i q => by unfold Wsn at q; omega)
        have sm : SSM m58 (evo W op st) := by rw [en.1]; exact sm58
        refine ih (μ := m58) (c := c2) (st := evo W op st) (i := i + 1) (by simp at hf; omega) ht (by rw [e10]; exact hW) hW6 (by omega) (by omega) (by omega) (by rw [e2, show 400 * t + (i + 1) = 400 * t + i + 1 by omega]; exact hL.2) h2 (by omega) sm (evo_64 hW6 h1 h64) (fun m2 b1 b2 => ?_)
        have q := hQ m2 (fr58.trans b1) b2
        rw [show i + (((op :: c2).length : Nat) : Int) = i + 1 + (c2.length : Int) by rw [List.length_cons]; omega] at q
        exact q
