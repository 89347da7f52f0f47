/-! the class: small functions, and those of the JDK that it calls -/
set_option maxHeartbeats 4000000 in
theorem s_J_abs {μ : Mem} {Q : PV → Mem → Prop} {a : Int} (ha : -9223372036854775807 ≤ a ∧ a ≤ 9223372036854775807) (hQ : Q (vL ((a.natAbs : Nat) : Int)) μ) : Rj YD y_Jmath_abs 0 [vL a] [] μ Q := by
  refine Rj_lload_n (q := 1) d_Jmath_abs_0 rfl rfl rfl ?_
  refine Rj_lconst (q := 2) (z := 0) d_Jmath_abs_1 rfl rfl ?_
  refine Rj_lc_ge (q := 3) (q2 := 6) (t := 11) d_Jmath_abs_2 rfl d_Jmath_abs_3 rfl (by decide) ⟨by omega, by omega⟩ (by decide) (fun c2 => ?_) (fun c2 => ?_)
  · refine Rj_lload_n (q := 12) d_Jmath_abs_11 rfl rfl rfl ?_
    refine Rj_lret d_Jmath_abs_12 rfl ?_
    exact fin_L hQ (by omega)
  · refine Rj_lload_n (q := 7) d_Jmath_abs_6 rfl rfl rfl ?_
    refine Rj_lneg (q := 8) d_Jmath_abs_7 rfl ?_
    refine Rj_goto (t := 12) d_Jmath_abs_8 (by decide) ?_
    refine Rj_lret d_Jmath_abs_12 rfl ?_
    exact fin_L hQ (by omega)
set_option maxHeartbeats 4000000 in
theorem s_D_bitOf {μ : Mem} {Q : PV → Mem → Prop} {a k : Int} (h1 : 0 ≤ a ∧ a ≤ 2147483647) (h2 : 0 ≤ k ∧ k < 32) (hQ : Q (vI (zbit a k)) μ) : Rj YD y_D_bitOf 0 [vI a, vI k] [] μ Q := by
  refine Rj_iload_n (q := 1) d_D_bitOf_0 rfl rfl rfl ?_
  refine Rj_iload_n (q := 2) d_D_bitOf_1 rfl rfl rfl ?_
  refine Rj_iushr (q := 3) (z := z_ush a k) d_D_bitOf_2 rfl rfl ?_
  refine Rj_iconst (q := 4) d_D_bitOf_3 rfl ?_
  refine Rj_iand (q := 5) (z := zbit a k) d_D_bitOf_4 rfl (z_ubit h1 h2.1 h2.2) ?_
  refine Rj_iret d_D_bitOf_5 rfl ?_
  exact hQ
theorem euc_half {x y e : Nat} (hy : 0 < y) (h : y ≤ x) (he : x * y < 2 ^ (e + 1)) : y * (x % y) < 2 ^ e := by
  have h1 := Nat.div_add_mod x y
  have h2 : 1 ≤ x / y := (Nat.one_le_div_iff hy).mpr h
  have h3 := Nat.mod_lt x hy
  have h4 : y * 1 ≤ y * (x / y) := Nat.mul_le_mul_left y h2
  have h5 : 2 * (x % y) ≤ x := by omega
  have h6 : y * (2 * (x % y)) ≤ y * x := Nat.mul_le_mul_left y h5
  have h7 : y * (2 * (x % y)) = 2 * (y * (x % y)) := by rw [← Nat.mul_assoc, Nat.mul_comm y 2, Nat.mul_assoc]
  rw [Nat.pow_succ, Nat.mul_comm x y] at he
  omega
set_option maxHeartbeats 4000000 in
theorem s_D_divisorOf_l : ∀ (f : Nat) {Q : PV → Mem → Prop} {μ : Mem} {o1 o2 i : Int} {x y e : Nat}, (y < f) → ((x : Int) ≤ 9223372036854775807 ∧ (y : Int) ≤ 9223372036854775807) → (0 < Nat.gcd x y) → (x * y < 2 ^ e) → (0 ≤ i ∧ (y ≤ x ∧ (e : Int) + i ≤ 199 ∨ i = 0 ∧ e ≤ 198)) → (Q (vL (Nat.gcd x y : Nat)) μ) → Rj YD y_D_divisorOf 15 [vL o1, vU, vL o2, vU, vL ((x : Int)), vU, vL ((y : Int)), vU, vI i] [] μ Q := by
  intro f
  induction f with
  | zero => intro Q μ o1 o2 i x y e hf hx hg he hi hQ; exact absurd hf (by omega)
  | succ f ih =>
    intro Q μ o1 o2 i x y e hf hx hg he hi hQ
    refine Rj_iload (q := 17) d_D_divisorOf_15 rfl rfl ?_
    refine Rj_sipush (q := 20) d_D_divisorOf_17 rfl (by decide +kernel) ?_
    refine Rj_icmp_ge (q := 23) (t := 51) d_D_divisorOf_20 rfl (by decide) ⟨by omega, by omega⟩ (by decide) (fun c20 => ?_) (fun c20 => ?_)
    · omega
    · refine Rj_lload (q := 25) d_D_divisorOf_23 rfl rfl ?_
      refine Rj_lconst (q := 26) (z := 0) d_D_divisorOf_25 rfl rfl ?_
      refine Rj_lc_eq (q := 27) (q2 := 30) (t := 51) d_D_divisorOf_26 rfl d_D_divisorOf_27 rfl (by decide) ⟨by omega, by omega⟩ (by decide) (fun c26 => ?_) (fun c26 => ?_)
      · have hy : y = 0 := by omega
        subst hy
        rw [Nat.gcd_zero_right] at hQ hg
        refine Rj_lload (q := 53) d_D_divisorOf_51 rfl rfl ?_
        refine Rj_lconst (q := 54) (z := 0) d_D_divisorOf_53 rfl rfl ?_
        refine Rj_lc_ne (q := 55) (q2 := 58) (t := 62) d_D_divisorOf_54 rfl d_D_divisorOf_55 rfl (by decide) ⟨by omega, by omega⟩ (by decide) (fun c54 => ?_) (fun c54 => ?_)
        · refine Rj_lload (q := 64) d_D_divisorOf_62 rfl rfl ?_
          refine Rj_lret d_D_divisorOf_64 rfl ?_
          exact hQ
        · exact absurd c54 (by omega)
      · have hy : 0 < y := by omega
        refine Rj_lload (q := 32) d_D_divisorOf_30 rfl rfl ?_
        refine Rj_lload (q := 34) d_D_divisorOf_32 rfl rfl ?_
        refine Rj_lrem (q := 35) d_D_divisorOf_34 rfl ⟨by omega, by omega⟩ ⟨by omega, by omega⟩ (by omega) ?_
        rw [show (x : Int).tmod (y : Int) = ((x % y : Nat) : Int) from tmod_nat x y]
        refine Rj_lstore (q := 37) (ls' := [vL o1, vU, vL o2, vU, vL ((x : Int)), vU, vL ((y : Int)), vU, vI i, vL (((x % y : Nat) : Int)), vU]) d_D_divisorOf_35 rfl (by decide) rfl ?_
        refine Rj_lload (q := 39) d_D_divisorOf_37 rfl rfl ?_
        refine Rj_lstore (q := 41) (ls' := [vL o1, vU, vL o2, vU, vL ((y : Int)), vU, vL ((y : Int)), vU, vI i, vL (((x % y : Nat) : Int)), vU]) d_D_divisorOf_39 rfl (by decide) rfl ?_
        refine Rj_lload (q := 43) d_D_divisorOf_41 rfl rfl ?_
        refine Rj_lstore (q := 45) (ls' := [vL o1, vU, vL o2, vU, vL ((y : Int)), vU, vL (((x % y : Nat) : Int)), vU, vI i, vL (((x % y : Nat) : Int)), vU]) d_D_divisorOf_43 rfl (by decide) rfl ?_
        refine Rj_iinc (q := 48) (ls' := [vL o1, vU, vL o2, vU, vL ((y : Int)), vU, vL (((x % y : Nat) : Int)), vU, vI (i + 1), vL (((x % y : Nat) : Int)), vU]) d_D_divisorOf_45 rfl rfl (by decide) rfl ?_
        refine Rj_goto (t := 15) d_D_divisorOf_48 (by decide) ?_
        have hml := Nat.mod_lt x hy
        refine Rj_pre (ls' := [vL o1, vU, vL o2, vU, vL ((y : Int)), vU, vL (((x % y : Nat) : Int)), vU, vI (i + 1)]) (t := [vL (((x % y : Nat) : Int)), vU]) rfl ?_
        have hgr : Nat.gcd y (x % y) = Nat.gcd x y := by rw [Nat.gcd_comm x y, Nat.gcd_rec y x, Nat.gcd_comm]
        by_cases hyx : y ≤ x
        · have hxy : 1 ≤ x * y := Nat.mul_pos (by omega) hy
          obtain ⟨e', rfl⟩ : ∃ e', e = e' + 1 := by
            cases e with
            | zero => exfalso; simp at he; omega
            | succ e' => exact ⟨e', rfl⟩
          exact ih (e := e') (by omega) ⟨hx.2, by omega⟩ (by rw [hgr]; exact hg) (euc_half hy hyx he) ⟨by omega, Or.inl ⟨by omega, by omega⟩⟩ (by rw [hgr]; exact hQ)
        · have hm : x % y = x := Nat.mod_eq_of_lt (by omega)
          exact ih (e := e) (by omega) ⟨hx.2, by omega⟩ (by rw [hgr]; exact hg) (by rw [hm, Nat.mul_comm]; exact he) ⟨by omega, Or.inl ⟨by omega, by omega⟩⟩ (by rw [hgr]; exact hQ)
set_option maxHeartbeats 4000000 in
theorem s_D_divisorOf {μ : Mem} {Q : PV → Mem → Prop} {a b : Int} (ha : -9223372036854775807 ≤ a ∧ a ≤ 9223372036854775807) (hb : -9223372036854775807 ≤ b ∧ b ≤ 9223372036854775807) (h0 : a ≠ 0 ∨ b ≠ 0) (hQ : Q (vL ((Int.gcd a b : Nat) : Int)) μ) : Rj YD y_D_divisorOf 0 [vL a, vU, vL b] [] μ Q := by
  refine Rj_lload_n (q := 1) d_D_divisorOf_0 rfl rfl rfl ?_
  refine Rj_cs (q := 4) (z := y_Jmath_abs) (as := [vL a]) (rest := []) (la := [vL a, vU]) ml_D_252 mw_Jmath_abs ms_Jmath_abs d_D_divisorOf_1 rfl rfl rfl rfl rfl ?_
  refine s_J_abs (by omega) ?_
  refine Rj_lstore (q := 6) (ls' := [vL a, vU, vL b, vU, vL (((a).natAbs : Int)), vU]) d_D_divisorOf_4 rfl (by decide) rfl ?_
  refine Rj_lload_n (q := 7) d_D_divisorOf_6 rfl rfl rfl ?_
  refine Rj_cs (q := 10) (z := y_Jmath_abs) (as := [vL b]) (rest := []) (la := [vL b, vU]) ml_D_252 mw_Jmath_abs ms_Jmath_abs d_D_divisorOf_7 rfl rfl rfl rfl rfl ?_
  refine s_J_abs (by omega) ?_
  refine Rj_lstore (q := 12) (ls' := [vL a, vU, vL b, vU, vL (((a).natAbs : Int)), vU, vL (((b).natAbs : Int)), vU]) d_D_divisorOf_10 rfl (by decide) rfl ?_
  refine Rj_iconst (q := 13) d_D_divisorOf_12 rfl ?_
  refine Rj_istore (q := 15) (ls' := [vL a, vU, vL b, vU, vL (((a).natAbs : Int)), vU, vL (((b).natAbs : Int)), vU, vI 0]) d_D_divisorOf_13 rfl (by decide) rfl ?_
  refine s_D_divisorOf_l (e := 126) _ (Nat.lt_succ_self _) ⟨by omega, by omega⟩ ?_ ?_ ⟨by decide, Or.inr ⟨rfl, by decide⟩⟩ hQ
  · rcases h0 with h | h
    · exact Nat.gcd_pos_of_pos_left _ (by omega)
    · exact Nat.gcd_pos_of_pos_right _ (by omega)
  · have h1 : a.natAbs < 2 ^ 63 := by omega
    have h2 : b.natAbs < 2 ^ 63 := by omega
    calc a.natAbs * b.natAbs < 2 ^ 63 * 2 ^ 63 := Nat.mul_lt_mul'' h1 h2
      _ = 2 ^ 126 := by decide
set_option maxHeartbeats 4000000 in
theorem s_D_lowest {μ : Mem} {Q : PV → Mem → Prop} {a b part : Int} (ha : -9223372036854775807 ≤ a ∧ a ≤ 9223372036854775807) (hb : -9223372036854775807 ≤ b ∧ b ≤ 9223372036854775807) (h0 : b ≠ 0) (hp : i32 part) (hQ : Q (vL (lw a b part)) μ) : Rj YD y_D_lowest 0 [vL a, vU, vL b, vU, vI part] [] μ Q := by
  have hg : 0 < Int.gcd a b := Int.gcd_pos_of_ne_zero_right _ h0
  have hg2 : ((Int.gcd a b : Nat) : Int) ≤ 9223372036854775807 := by
    have := Int.gcd_le_natAbs_right a h0
    omega
  refine Rj_iload (q := 2) d_D_lowest_0 rfl rfl ?_
  refine Rj_if_ne (q := 5) (t := 9) d_D_lowest_2 rfl (by decide) ⟨by omega, by omega⟩ (fun c2 => ?_) (fun c2 => ?_)
  · refine Rj_lload_n (q := 10) d_D_lowest_9 rfl rfl rfl ?_
    refine Rj_lload_n (q := 11) d_D_lowest_10 rfl rfl rfl ?_
    refine Rj_lload_n (q := 12) d_D_lowest_11 rfl rfl rfl ?_
    refine Rj_cs (q := 15) (z := y_D_divisorOf) (as := [vL a, vL b]) (rest := [vL b]) (la := [vL a, vU, vL b, vU]) ml_D_318 mw_D_divisorOf ms_D_divisorOf d_D_lowest_12 rfl rfl rfl rfl rfl ?_
    refine s_D_divisorOf (by omega) (by omega) (by omega) ?_
    refine Rj_ldiv (q := 16) d_D_lowest_15 rfl ⟨by omega, by omega⟩ ⟨by omega, by omega⟩ (by omega) ?_
    refine Rj_lret d_D_lowest_16 rfl ?_
    exact fin_L hQ (by unfold lw; simp [c2])
  · refine Rj_lload_n (q := 6) d_D_lowest_5 rfl rfl rfl ?_
    refine Rj_goto (t := 10) d_D_lowest_6 (by decide) ?_
    refine Rj_lload_n (q := 11) d_D_lowest_10 rfl rfl rfl ?_
    refine Rj_lload_n (q := 12) d_D_lowest_11 rfl rfl rfl ?_
    refine Rj_cs (q := 15) (z := y_D_divisorOf) (as := [vL a, vL b]) (rest := [vL a]) (la := [vL a, vU, vL b, vU]) ml_D_318 mw_D_divisorOf ms_D_divisorOf d_D_lowest_12 rfl rfl rfl rfl rfl ?_
    refine s_D_divisorOf (by omega) (by omega) (by omega) ?_
    refine Rj_ldiv (q := 16) d_D_lowest_15 rfl ⟨by omega, by omega⟩ ⟨by omega, by omega⟩ (by omega) ?_
    refine Rj_lret d_D_lowest_16 rfl ?_
    exact fin_L hQ (by unfold lw; simp [c2])
set_option maxHeartbeats 4000000 in
theorem s_Jarr_fill_aII_l : ∀ (f : Nat) {μ : Mem} {Q : PV → Mem → Prop} {c n : Nat} {z x i : Int}, (((n : Int) - i).toNat < f) → (AI YD c (.int) n) → (z.toNat = c) → (0 ≤ i ∧ i ≤ (n : Int)) → (∀ j, 0 ≤ j → j < i → μ c j = x) → (∀ μ', Fr (fun d _ => d = c) μ μ' → (∀ j, 0 ≤ j → j < (n : Int) → μ' c j = x) → Q vU μ') → Rj YD y_Jarr_fill_aII 5 [vA z, vI x, vI i, vI ((n : Int))] [] μ Q := by
  intro f
  induction f with
  | zero => intro μ Q c n z x i hf g hz hi hb hQ; exact absurd hf (by omega)
  | succ f ih =>
    intro μ Q c n z x i hf g hz hi hb hQ
    refine Rj_iload_n (q := 6) d_Jarr_fill_aII_5 rfl rfl rfl ?_
    refine Rj_iload_n (q := 7) d_Jarr_fill_aII_6 rfl rfl rfl ?_
    refine Rj_icmp_ge (q := 10) (t := 20) d_Jarr_fill_aII_7 rfl (by decide) ⟨by omega, by have := g.2.2; omega⟩ ⟨by omega, by have := g.2.2; omega⟩ (fun c7 => ?_) (fun c7 => ?_)
    · refine Rj_vret d_Jarr_fill_aII_20 rfl ?_
      exact hQ μ (Fr.refl _ _) (fun j q1 q2 => hb j q1 (by omega))
    · refine Rj_aload_n (q := 11) d_Jarr_fill_aII_10 rfl rfl rfl ?_
      refine Rj_iload_n (q := 12) d_Jarr_fill_aII_11 rfl rfl rfl ?_
      refine Rj_iload_n (q := 13) d_Jarr_fill_aII_12 rfl rfl rfl ?_
      refine Rj_is (q := 14) g hz (by omega) d_Jarr_fill_aII_13 rfl ?_
      refine Rj_iinc (q := 17) (ls' := [vA z, vI x, vI (i + 1), vI ((n : Int))]) d_Jarr_fill_aII_14 rfl rfl (by decide) rfl ?_
      refine Rj_goto (t := 5) d_Jarr_fill_aII_17 (by decide) ?_
      refine ih (μ := mset μ c i x) (by omega) g hz (by omega) (fun j q1 q2 => ?_) (fun m f h => hQ m (Fr.trans (Fr.put (Fr.refl _ _) rfl) f) h)
      by_cases e : j = i
      · subst e; rw [mset_same]
      · rw [mset_ne _ _ _ _ _ e]; exact hb j q1 (by omega)
set_option maxHeartbeats 4000000 in
theorem s_Jarr_fill_aJJ_l : ∀ (f : Nat) {μ : Mem} {Q : PV → Mem → Prop} {c n : Nat} {z x i : Int}, (((n : Int) - i).toNat < f) → (AI YD c (.long) n) → (z.toNat = c) → (0 ≤ i ∧ i ≤ (n : Int)) → (∀ j, 0 ≤ j → j < i → μ c j = x) → (∀ μ', Fr (fun d _ => d = c) μ μ' → (∀ j, 0 ≤ j → j < (n : Int) → μ' c j = x) → Q vU μ') → Rj YD y_Jarr_fill_aJJ 6 [vA z, vL x, vU, vI i, vI ((n : Int))] [] μ Q := by
  intro f
  induction f with
  | zero => intro μ Q c n z x i hf g hz hi hb hQ; exact absurd hf (by omega)
  | succ f ih =>
    intro μ Q c n z x i hf g hz hi hb hQ
    refine Rj_iload_n (q := 7) d_Jarr_fill_aJJ_6 rfl rfl rfl ?_
    refine Rj_iload (q := 9) d_Jarr_fill_aJJ_7 rfl rfl ?_
    refine Rj_icmp_ge (q := 12) (t := 22) d_Jarr_fill_aJJ_9 rfl (by decide) ⟨by omega, by have := g.2.2; omega⟩ ⟨by omega, by have := g.2.2; omega⟩ (fun c9 => ?_) (fun c9 => ?_)
    · refine Rj_vret d_Jarr_fill_aJJ_22 rfl ?_
      exact hQ μ (Fr.refl _ _) (fun j q1 q2 => hb j q1 (by omega))
    · refine Rj_aload_n (q := 13) d_Jarr_fill_aJJ_12 rfl rfl rfl ?_
      refine Rj_iload_n (q := 14) d_Jarr_fill_aJJ_13 rfl rfl rfl ?_
      refine Rj_lload_n (q := 15) d_Jarr_fill_aJJ_14 rfl rfl rfl ?_
      refine Rj_lst (q := 16) g hz (by omega) d_Jarr_fill_aJJ_15 rfl ?_
      refine Rj_iinc (q := 19) (ls' := [vA z, vL x, vU, vI (i + 1), vI ((n : Int))]) d_Jarr_fill_aJJ_16 rfl rfl (by decide) rfl ?_
      refine Rj_goto (t := 6) d_Jarr_fill_aJJ_19 (by decide) ?_
      refine ih (μ := mset μ c i x) (by omega) g hz (by omega) (fun j q1 q2 => ?_) (fun m f h => hQ m (Fr.trans (Fr.put (Fr.refl _ _) rfl) f) h)
      by_cases e : j = i
      · subst e; rw [mset_same]
      · rw [mset_ne _ _ _ _ _ e]; exact hb j q1 (by omega)
