theorem gM_M_42_0 : GI YM "DoorsOnCogsModel" 42 0 25 (some (some 11)) := ⟨by decide, _, _, _, fl_M_42, cM_0, by decide, rfl⟩
theorem aM_11 : AI YM 11 (.int) 134 := ⟨by decide, cM_11, by decide⟩
theorem gM_M_51_0 : GI YM "DoorsOnCogsModel" 51 0 28 (some (some 14)) := ⟨by decide, _, _, _, fl_M_51, cM_0, by decide, rfl⟩
theorem aM_14 : AI YM 14 (.int) 12 := ⟨by decide, cM_14, by decide⟩
/-! the reference: divisors, and the street in its row said (cell 11) -/
theorem tmod_nat (a b : Nat) : ((a : Int).tmod (b : Int)) = ((a % b : Nat) : Int) := by
  rw [Int.tmod_eq_emod_of_nonneg (Int.natCast_nonneg a)]; rfl
theorem z_abs (a : Int) : (if 0 ≤ a then a else -a) = (a.natAbs : Int) := by split <;> omega
set_option maxHeartbeats 4000000 in
theorem s_M_divisor_l : ∀ (f : Nat) {Q : PV → Mem → Prop} {μ : Mem} {o1 o2 : Int} {x y : Nat} {v8 : PV}, (y < f) → ((x : Int) ≤ 9223372036854775807 ∧ (y : Int) ≤ 9223372036854775807) → (Q (vL (Nat.gcd x y : Nat)) μ) → Rj YM y_M_divisor 28 [vL o1, vU, vL o2, vU, vL ((x : Int)), vU, vL ((y : Int)), vU] [] μ Q := by
  intro f
  induction f with
  | zero => intro Q μ o1 o2 x y v8 hf hx hQ; exact absurd hf (by omega)
  | succ f ih =>
    intro Q μ o1 o2 x y v8 hf hx hQ
    refine Rj_lload (q := 30) d_M_divisor_28 rfl rfl ?_
    refine Rj_lconst (q := 31) (z := 0) d_M_divisor_30 rfl rfl ?_
    refine Rj_lc_eq (q := 32) (q2 := 35) (t := 53) d_M_divisor_31 rfl d_M_divisor_32 rfl (by decide) ⟨by omega, by omega⟩ (by decide) (fun c31 => ?_) (fun c31 => ?_)
    · have hy : y = 0 := by omega
      subst hy
      rw [Nat.gcd_zero_right] at hQ
      refine Rj_lload (q := 55) d_M_divisor_53 rfl rfl ?_
      refine Rj_lret d_M_divisor_55 rfl ?_
      exact hQ
    · have hy : 0 < y := by omega
      refine Rj_lload (q := 37) d_M_divisor_35 rfl rfl ?_
      refine Rj_lload (q := 39) d_M_divisor_37 rfl rfl ?_
      refine Rj_lrem (q := 40) d_M_divisor_39 rfl ⟨by omega, by omega⟩ ⟨by omega, by omega⟩ (by omega) ?_
      rw [show (x : Int).tmod (y : Int) = ((x % y : Nat) : Int) from tmod_nat x y]
      refine Rj_lstore (q := 42) (ls' := [vL o1, vU, vL o2, vU, vL ((x : Int)), vU, vL ((y : Int)), vU, vL (((x % y : Nat) : Int)), vU]) d_M_divisor_40 rfl (by decide) rfl ?_
      refine Rj_lload (q := 44) d_M_divisor_42 rfl rfl ?_
      refine Rj_lstore (q := 46) (ls' := [vL o1, vU, vL o2, vU, vL ((y : Int)), vU, vL ((y : Int)), vU, vL (((x % y : Nat) : Int)), vU]) d_M_divisor_44 rfl (by decide) rfl ?_
      refine Rj_lload (q := 48) d_M_divisor_46 rfl rfl ?_
      refine Rj_lstore (q := 50) (ls' := [vL o1, vU, vL o2, vU, vL ((y : Int)), vU, vL (((x % y : Nat) : Int)), vU, vL (((x % y : Nat) : Int)), vU]) d_M_divisor_48 rfl (by decide) rfl ?_
      refine Rj_goto (t := 28) d_M_divisor_50 (by decide) ?_
      refine Rj_pre (ls' := [vL o1, vU, vL o2, vU, vL ((y : Int)), vU, vL (((x % y : Nat) : Int)), vU]) (t := [vL (((x % y : Nat) : Int)), vU]) rfl ?_
      exact ih (v8 := v8) (Nat.lt_of_lt_of_le (Nat.mod_lt _ hy) (by omega)) ⟨hx.2, by have := Nat.mod_lt x hy; omega⟩ (by rw [Nat.gcd_comm x y, Nat.gcd_rec] at hQ; rw [Nat.gcd_comm]; exact hQ)
set_option maxHeartbeats 4000000 in
theorem s_M_divisor {μ : Mem} {Q : PV → Mem → Prop} {a b : Int} (ha : -9223372036854775807 ≤ a ∧ a ≤ 9223372036854775807) (hb : -9223372036854775807 ≤ b ∧ b ≤ 9223372036854775807) (hQ : Q (vL ((Int.gcd a b : Nat) : Int)) μ) : Rj YM y_M_divisor 0 [vL a, vU, vL b] [] μ Q := by
  refine Rj_lload_n (q := 1) d_M_divisor_0 rfl rfl rfl ?_
  refine Rj_lconst (q := 2) (z := 0) d_M_divisor_1 rfl rfl ?_
  refine Rj_lc_ge (q := 3) (q2 := 6) (t := 11) d_M_divisor_2 rfl d_M_divisor_3 rfl (by decide) ⟨by omega, by omega⟩ (by decide) (fun c2 => ?_) (fun c2 => ?_)
  · refine Rj_lload_n (q := 12) d_M_divisor_11 rfl rfl rfl ?_
    refine Rj_lstore (q := 14) (ls' := [vL a, vU, vL b, vU, vL a, vU]) d_M_divisor_12 rfl (by decide) rfl ?_
    refine Rj_lload_n (q := 15) d_M_divisor_14 rfl rfl rfl ?_
    refine Rj_lconst (q := 16) (z := 0) d_M_divisor_15 rfl rfl ?_
    refine Rj_lc_ge (q := 17) (q2 := 20) (t := 25) d_M_divisor_16 rfl d_M_divisor_17 rfl (by decide) ⟨by omega, by omega⟩ (by decide) (fun c16 => ?_) (fun c16 => ?_)
    · refine Rj_lload_n (q := 26) d_M_divisor_25 rfl rfl rfl ?_
      refine Rj_lstore (q := 28) (ls' := [vL a, vU, vL b, vU, vL a, vU, vL b, vU]) d_M_divisor_26 rfl (by decide) rfl ?_
      refine Rj_eql (ls' := [vL a, vU, vL b, vU, vL ((a.natAbs : Nat) : Int), vU, vL ((b.natAbs : Nat) : Int), vU]) (by rw [show ((a.natAbs : Nat) : Int) = a by omega, show ((b.natAbs : Nat) : Int) = b by omega]) ?_
      exact s_M_divisor_l (v8 := vU) _ (Nat.lt_succ_self _) ⟨by omega, by omega⟩ hQ
    · refine Rj_lload_n (q := 21) d_M_divisor_20 rfl rfl rfl ?_
      refine Rj_lneg (q := 22) d_M_divisor_21 rfl ?_
      refine Rj_goto (t := 26) d_M_divisor_22 (by decide) ?_
      refine Rj_lstore (q := 28) (ls' := [vL a, vU, vL b, vU, vL a, vU, vL (-b), vU]) d_M_divisor_26 rfl (by decide) rfl ?_
      refine Rj_eql (ls' := [vL a, vU, vL b, vU, vL ((a.natAbs : Nat) : Int), vU, vL ((b.natAbs : Nat) : Int), vU]) (by rw [show ((a.natAbs : Nat) : Int) = a by omega, show ((b.natAbs : Nat) : Int) = -b by omega]) ?_
      exact s_M_divisor_l (v8 := vU) _ (Nat.lt_succ_self _) ⟨by omega, by omega⟩ hQ
  · refine Rj_lload_n (q := 7) d_M_divisor_6 rfl rfl rfl ?_
    refine Rj_lneg (q := 8) d_M_divisor_7 rfl ?_
    refine Rj_goto (t := 12) d_M_divisor_8 (by decide) ?_
    refine Rj_lstore (q := 14) (ls' := [vL a, vU, vL b, vU, vL (-a), vU]) d_M_divisor_12 rfl (by decide) rfl ?_
    refine Rj_lload_n (q := 15) d_M_divisor_14 rfl rfl rfl ?_
    refine Rj_lconst (q := 16) (z := 0) d_M_divisor_15 rfl rfl ?_
    refine Rj_lc_ge (q := 17) (q2 := 20) (t := 25) d_M_divisor_16 rfl d_M_divisor_17 rfl (by decide) ⟨by omega, by omega⟩ (by decide) (fun c16 => ?_) (fun c16 => ?_)
    · refine Rj_lload_n (q := 26) d_M_divisor_25 rfl rfl rfl ?_
      refine Rj_lstore (q := 28) (ls' := [vL a, vU, vL b, vU, vL (-a), vU, vL b, vU]) d_M_divisor_26 rfl (by decide) rfl ?_
      refine Rj_eql (ls' := [vL a, vU, vL b, vU, vL ((a.natAbs : Nat) : Int), vU, vL ((b.natAbs : Nat) : Int), vU]) (by rw [show ((a.natAbs : Nat) : Int) = -a by omega, show ((b.natAbs : Nat) : Int) = b by omega]) ?_
      exact s_M_divisor_l (v8 := vU) _ (Nat.lt_succ_self _) ⟨by omega, by omega⟩ hQ
    · refine Rj_lload_n (q := 21) d_M_divisor_20 rfl rfl rfl ?_
      refine Rj_lneg (q := 22) d_M_divisor_21 rfl ?_
      refine Rj_goto (t := 26) d_M_divisor_22 (by decide) ?_
      refine Rj_lstore (q := 28) (ls' := [vL a, vU, vL b, vU, vL (-a), vU, vL (-b), vU]) d_M_divisor_26 rfl (by decide) rfl ?_
      refine Rj_eql (ls' := [vL a, vU, vL b, vU, vL ((a.natAbs : Nat) : Int), vU, vL ((b.natAbs : Nat) : Int), vU]) (by rw [show ((a.natAbs : Nat) : Int) = -a by omega, show ((b.natAbs : Nat) : Int) = -b by omega]) ?_
      exact s_M_divisor_l (v8 := vU) _ (Nat.lt_succ_self _) ⟨by omega, by omega⟩ hQ
/-- a fraction in lowest terms: above, below -/
def lw (a b part : Int) : Int := if part = 0 then a.tdiv ((Int.gcd a b : Nat) : Int) else b.tdiv ((Int.gcd a b : Nat) : Int)
set_option maxHeartbeats 4000000 in
theorem s_M_lowest {μ : Mem} {Q : PV → Mem → Prop} {a b part : Int} (ha : -9223372036854775807 ≤ a ∧ a ≤ 9223372036854775807) (hb : -9223372036854775807 ≤ b ∧ b ≤ 9223372036854775807) (h0 : b ≠ 0) (hp : i32 part) (hQ : Q (vL (lw a b part)) μ) : Rj YM y_M_lowest 0 [vL a, vU, vL b, vU, vI part] [] μ Q := by
  have hg : 0 < Int.gcd a b := Int.gcd_pos_of_ne_zero_right _ h0
  have hg2 : ((Int.gcd a b : Nat) : Int) ≤ 9223372036854775807 := by
    have := Int.gcd_le_natAbs_right a h0
    omega
  refine Rj_lload_n (q := 1) d_M_lowest_0 rfl rfl rfl ?_
  refine Rj_lload_n (q := 2) d_M_lowest_1 rfl rfl rfl ?_
  refine Rj_cs (q := 5) (z := y_M_divisor) (as := [vL a, vL b]) (rest := []) (la := [vL a, vU, vL b, vU]) ml_M_95 mw_M_divisor ms_M_divisor d_M_lowest_2 rfl rfl rfl rfl rfl ?_
  refine s_M_divisor (by omega) (by omega) ?_
  refine Rj_lstore (q := 7) (ls' := [vL a, vU, vL b, vU, vI part, vL (((Int.gcd a b : Nat) : Int)), vU]) d_M_lowest_5 rfl (by decide) rfl ?_
  refine Rj_iload (q := 9) d_M_lowest_7 rfl rfl ?_
  refine Rj_if_ne (q := 12) (t := 19) d_M_lowest_9 rfl (by decide) ⟨by omega, by omega⟩ (fun c9 => ?_) (fun c9 => ?_)
  · refine Rj_lload_n (q := 20) d_M_lowest_19 rfl rfl rfl ?_
    refine Rj_lload (q := 22) d_M_lowest_20 rfl rfl ?_
    refine Rj_ldiv (q := 23) d_M_lowest_22 rfl ⟨by omega, by omega⟩ ⟨by omega, by omega⟩ (by omega) ?_
    refine Rj_lret d_M_lowest_23 rfl ?_
    exact fin_L hQ (by unfold lw; simp [c9])
  · refine Rj_lload_n (q := 13) d_M_lowest_12 rfl rfl rfl ?_
    refine Rj_lload (q := 15) d_M_lowest_13 rfl rfl ?_
    refine Rj_ldiv (q := 16) d_M_lowest_15 rfl ⟨by omega, by omega⟩ ⟨by omega, by omega⟩ (by omega) ?_
    refine Rj_goto (t := 23) d_M_lowest_16 (by decide) ?_
    refine Rj_lret d_M_lowest_23 rfl ?_
    exact fin_L hQ (by unfold lw; simp [c9])
set_option maxHeartbeats 4000000 in
theorem s_M_floored {μ : Mem} {Q : PV → Mem → Prop} {a b : Int} (ha : -9223372036854775807 ≤ a ∧ a ≤ 9223372036854775807) (hb : 0 < b ∧ b ≤ 9223372036854775807) (hQ : Q (vL (a / b)) μ) : Rj YM y_M_floored 0 [vL a, vU, vL b] [] μ Q := by
  have ht := tdiv_bd (a := a) hb.1
  rw [floor_td hb.1] at hQ
  have ht2 : a ≤ a.tdiv b * b ∧ a.tdiv b * b ≤ 0 ∨ 0 ≤ a.tdiv b * b ∧ a.tdiv b * b ≤ a := by omega
  refine Rj_lload_n (q := 1) d_M_floored_0 rfl rfl rfl ?_
  refine Rj_lload_n (q := 2) d_M_floored_1 rfl rfl rfl ?_
  refine Rj_ldiv (q := 3) d_M_floored_2 rfl ⟨by omega, by omega⟩ ⟨by omega, by omega⟩ (by omega) ?_
  refine Rj_lstore (q := 5) (ls' := [vL a, vU, vL b, vU, vL (a.tdiv b), vU]) d_M_floored_3 rfl (by decide) rfl ?_
  refine Rj_lload (q := 7) d_M_floored_5 rfl rfl ?_
  refine Rj_lload_n (q := 8) d_M_floored_7 rfl rfl rfl ?_
  refine Rj_lmul (q := 9) d_M_floored_8 rfl ?_
  refine Rj_lload_n (q := 10) d_M_floored_9 rfl rfl rfl ?_
  refine Rj_lc_le (q := 11) (q2 := 14) (t := 21) d_M_floored_10 rfl d_M_floored_11 rfl (by decide) ⟨by omega, by omega⟩ ⟨by omega, by omega⟩ (fun c10 => ?_) (fun c10 => ?_)
  · refine Rj_lload (q := 23) d_M_floored_21 rfl rfl ?_
    refine Rj_lret d_M_floored_23 rfl ?_
    exact fin_L hQ (by rw [if_neg (by omega)])
  · refine Rj_lload (q := 16) d_M_floored_14 rfl rfl ?_
    refine Rj_lconst (q := 17) (z := 1) d_M_floored_16 rfl rfl ?_
    refine Rj_lsub (q := 18) d_M_floored_17 rfl ?_
    refine Rj_goto (t := 23) d_M_floored_18 (by decide) ?_
    refine Rj_lret d_M_floored_23 rfl ?_
    exact fin_L hQ (by rw [if_pos c10])
/-- a street, as the reference's row says it -/
abbrev tee (S : Int → Int) (d : Int) : Int := S (10 + 2 * d)
abbrev spn (S : Int → Int) (d : Int) : Int := S (10 + 2 * d + 1)
abbrev jn (S : Int → Int) (j w : Int) : Int := S (34 + 3 * j + w)
set_option maxHeartbeats 4000000 in
theorem s_M_teeth {μ : Mem} {Q : PV → Mem → Prop} {d : Int} (hd : 0 ≤ d ∧ d < 12) (hQ : Q (vI (tee (μ 11) d)) μ) : Rj YM y_M_teeth 0 [vA 0, vI d] [] μ Q := by
  refine Rj_aload_n (q := 1) d_M_teeth_0 rfl rfl rfl ?_
  refine Rj_gr (q := 4) (zd := 11) gM_M_42_0 rfl rfl d_M_teeth_1 rfl ?_
  refine Rj_bipush (q := 6) d_M_teeth_4 rfl (by decide +kernel) ?_
  refine Rj_iconst (q := 7) d_M_teeth_6 rfl ?_
  refine Rj_iload_n (q := 8) d_M_teeth_7 rfl rfl rfl ?_
  refine Rj_imul (q := 9) d_M_teeth_8 rfl ?_
  refine Rj_iadd (q := 10) d_M_teeth_9 rfl ?_
  refine Rj_ia (q := 11) (v := μ 11 (10 + (2 * d))) aM_11 rfl (by omega) rfl d_M_teeth_10 rfl ?_
  refine Rj_iret d_M_teeth_11 rfl ?_
  exact hQ
set_option maxHeartbeats 4000000 in
theorem s_M_span {μ : Mem} {Q : PV → Mem → Prop} {d : Int} (hd : 0 ≤ d ∧ d < 12) (hQ : Q (vI (spn (μ 11) d)) μ) : Rj YM y_M_span 0 [vA 0, vI d] [] μ Q := by
  refine Rj_aload_n (q := 1) d_M_span_0 rfl rfl rfl ?_
  refine Rj_gr (q := 4) (zd := 11) gM_M_42_0 rfl rfl d_M_span_1 rfl ?_
  refine Rj_bipush (q := 6) d_M_span_4 rfl (by decide +kernel) ?_
  refine Rj_iconst (q := 7) d_M_span_6 rfl ?_
  refine Rj_iload_n (q := 8) d_M_span_7 rfl rfl rfl ?_
  refine Rj_imul (q := 9) d_M_span_8 rfl ?_
  refine Rj_iadd (q := 10) d_M_span_9 rfl ?_
  refine Rj_iconst (q := 11) d_M_span_10 rfl ?_
  refine Rj_iadd (q := 12) d_M_span_11 rfl ?_
  refine Rj_ia (q := 13) (v := μ 11 ((10 + (2 * d)) + 1)) aM_11 rfl (by omega) rfl d_M_span_12 rfl ?_
  refine Rj_iret d_M_span_13 rfl ?_
  exact hQ
set_option maxHeartbeats 4000000 in
theorem s_M_joinOf {μ : Mem} {Q : PV → Mem → Prop} {j w : Int} (hj : 0 ≤ j ∧ j < 16) (hw : 0 ≤ w ∧ w < 3) (hQ : Q (vI (jn (μ 11) j w)) μ) : Rj YM y_M_joinOf 0 [vA 0, vI j, vI w] [] μ Q := by
  refine Rj_aload_n (q := 1) d_M_joinOf_0 rfl rfl rfl ?_
  refine Rj_gr (q := 4) (zd := 11) gM_M_42_0 rfl rfl d_M_joinOf_1 rfl ?_
  refine Rj_bipush (q := 6) d_M_joinOf_4 rfl (by decide +kernel) ?_
  refine Rj_iconst (q := 7) d_M_joinOf_6 rfl ?_
  refine Rj_iload_n (q := 8) d_M_joinOf_7 rfl rfl rfl ?_
  refine Rj_imul (q := 9) d_M_joinOf_8 rfl ?_
  refine Rj_iadd (q := 10) d_M_joinOf_9 rfl ?_
  refine Rj_iload_n (q := 11) d_M_joinOf_10 rfl rfl rfl ?_
  refine Rj_iadd (q := 12) d_M_joinOf_11 rfl ?_
  refine Rj_ia (q := 13) (v := μ 11 ((34 + (3 * j)) + w)) aM_11 rfl (by omega) rfl d_M_joinOf_12 rfl ?_
  refine Rj_iret d_M_joinOf_13 rfl ?_
  exact hQ
set_option maxHeartbeats 4000000 in
theorem s_M_isDoor {μ : Mem} {Q : PV → Mem → Prop} {d : Int} (hD : 0 ≤ μ 11 0 ∧ μ 11 0 ≤ 12) (hd : i32 d) (hQ : Q (vI (bI (decide (0 ≤ d ∧ d < μ 11 0)))) μ) : Rj YM y_M_isDoor 0 [vA 0, vI d] [] μ Q := by
  refine Rj_iload_n (q := 1) d_M_isDoor_0 rfl rfl rfl ?_
  refine Rj_if_lt (q := 4) (t := 18) d_M_isDoor_1 rfl (by decide) ⟨by omega, by omega⟩ (fun c1 => ?_) (fun c1 => ?_)
  · refine Rj_iconst (q := 19) d_M_isDoor_18 rfl ?_
    refine Rj_bret0 d_M_isDoor_19 rfl ?_
    exact fin_I hQ (bF (by omega))
  · refine Rj_iload_n (q := 5) d_M_isDoor_4 rfl rfl rfl ?_
    refine Rj_aload_n (q := 6) d_M_isDoor_5 rfl rfl rfl ?_
    refine Rj_gr (q := 9) (zd := 11) gM_M_42_0 rfl rfl d_M_isDoor_6 rfl ?_
    refine Rj_iconst (q := 10) d_M_isDoor_9 rfl ?_
    refine Rj_ia (q := 11) (v := μ 11 0) aM_11 rfl (by decide) rfl d_M_isDoor_10 rfl ?_
    refine Rj_icmp_ge (q := 14) (t := 18) d_M_isDoor_11 rfl (by decide) ⟨by omega, by omega⟩ ⟨by omega, by omega⟩ (fun c11 => ?_) (fun c11 => ?_)
    · refine Rj_iconst (q := 19) d_M_isDoor_18 rfl ?_
      refine Rj_bret0 d_M_isDoor_19 rfl ?_
      exact fin_I hQ (bF (by omega))
    · refine Rj_iconst (q := 15) d_M_isDoor_14 rfl ?_
      refine Rj_goto (t := 19) d_M_isDoor_15 (by decide) ?_
      refine Rj_bret1 d_M_isDoor_19 rfl ?_
      exact fin_I hQ (bT (by omega))
set_option maxHeartbeats 4000000 in
theorem s_M_isJoin {μ : Mem} {Q : PV → Mem → Prop} {d : Int} (hD : 0 ≤ μ 11 1 ∧ μ 11 1 ≤ 16) (hd : i32 d) (hQ : Q (vI (bI (decide (0 ≤ d ∧ d < μ 11 1)))) μ) : Rj YM y_M_isJoin 0 [vA 0, vI d] [] μ Q := by
  refine Rj_iload_n (q := 1) d_M_isJoin_0 rfl rfl rfl ?_
  refine Rj_if_lt (q := 4) (t := 18) d_M_isJoin_1 rfl (by decide) ⟨by omega, by omega⟩ (fun c1 => ?_) (fun c1 => ?_)
  · refine Rj_iconst (q := 19) d_M_isJoin_18 rfl ?_
    refine Rj_bret0 d_M_isJoin_19 rfl ?_
    exact fin_I hQ (bF (by omega))
  · refine Rj_iload_n (q := 5) d_M_isJoin_4 rfl rfl rfl ?_
    refine Rj_aload_n (q := 6) d_M_isJoin_5 rfl rfl rfl ?_
    refine Rj_gr (q := 9) (zd := 11) gM_M_42_0 rfl rfl d_M_isJoin_6 rfl ?_
    refine Rj_iconst (q := 10) d_M_isJoin_9 rfl ?_
    refine Rj_ia (q := 11) (v := μ 11 1) aM_11 rfl (by decide) rfl d_M_isJoin_10 rfl ?_
    refine Rj_icmp_ge (q := 14) (t := 18) d_M_isJoin_11 rfl (by decide) ⟨by omega, by omega⟩ ⟨by omega, by omega⟩ (fun c11 => ?_) (fun c11 => ?_)
    · refine Rj_iconst (q := 19) d_M_isJoin_18 rfl ?_
      refine Rj_bret0 d_M_isJoin_19 rfl ?_
      exact fin_I hQ (bF (by omega))
    · refine Rj_iconst (q := 15) d_M_isJoin_14 rfl ?_
      refine Rj_goto (t := 19) d_M_isJoin_15 (by decide) ?_
      refine Rj_bret1 d_M_isJoin_19 rfl ?_
      exact fin_I hQ (bT (by omega))
set_option maxHeartbeats 4000000 in
theorem s_M_areJoined {μ : Mem} {Q : PV → Mem → Prop} {a b : Int} (ha : 0 ≤ a ∧ a < 12) (hb : 0 ≤ b ∧ b < 12) (hl : ∀ d, 0 ≤ d → d < 12 → -1 ≤ μ 14 d ∧ μ 14 d < 12) (hQ : Q (vI (bI (decide (μ 14 a = μ 14 b)))) μ) : Rj YM y_M_areJoined 0 [vA 0, vI a, vI b] [] μ Q := by
  have hl1 := hl a ha.1 ha.2
  have hl2 := hl b hb.1 hb.2
  refine Rj_aload_n (q := 1) d_M_areJoined_0 rfl rfl rfl ?_
  refine Rj_gr (q := 4) (zd := 14) gM_M_51_0 rfl rfl d_M_areJoined_1 rfl ?_
  refine Rj_iload_n (q := 5) d_M_areJoined_4 rfl rfl rfl ?_
  refine Rj_ia (q := 6) (v := μ 14 a) aM_14 rfl (by omega) rfl d_M_areJoined_5 rfl ?_
  refine Rj_aload_n (q := 7) d_M_areJoined_6 rfl rfl rfl ?_
  refine Rj_gr (q := 10) (zd := 14) gM_M_51_0 rfl rfl d_M_areJoined_7 rfl ?_
  refine Rj_iload_n (q := 11) d_M_areJoined_10 rfl rfl rfl ?_
  refine Rj_ia (q := 12) (v := μ 14 b) aM_14 rfl (by omega) rfl d_M_areJoined_11 rfl ?_
  refine Rj_icmp_ne (q := 15) (t := 19) d_M_areJoined_12 rfl (by decide) ⟨by omega, by omega⟩ ⟨by omega, by omega⟩ (fun c12 => ?_) (fun c12 => ?_)
  · refine Rj_iconst (q := 20) d_M_areJoined_19 rfl ?_
    refine Rj_bret0 d_M_areJoined_20 rfl ?_
    exact fin_I hQ (bF (by omega))
  · refine Rj_iconst (q := 16) d_M_areJoined_15 rfl ?_
    refine Rj_goto (t := 20) d_M_areJoined_16 (by decide) ?_
    refine Rj_bret1 d_M_areJoined_20 rfl ?_
    exact fin_I hQ (bT (by omega))
