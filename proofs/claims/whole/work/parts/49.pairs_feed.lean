theorem gD_D_9_0 : GI YD "DoorsOnCogs" 9 0 0 (some (some 1)) := ⟨by decide, _, _, _, fl_D_9, cD_0, by decide, rfl⟩
theorem aD_1 : AI YD 1 (.int) 400 := ⟨by decide, cD_1, by decide⟩
theorem oD_0_D_feedNumber : OI YD 0 y_D_feedNumber := ⟨by decide, _, _, _, cD_0, rfl⟩
theorem oM_0_M_four : OI YM 0 y_M_four := ⟨by decide, _, _, _, cM_0, rfl⟩
/-! a pair of calls: feed -/
def put4 (f : Int → Int) (t b3 b2 b1 b0 : Int) : Int → Int := fset (fset (fset (fset f t b3) (t + 1) b2) (t + 1 + 1) b1) (t + 1 + 1 + 1) b0
abbrev Wfd (c : Nat) (i : Int) : Prop := c = 1 ∨ (c = 0 ∧ i = 1)
theorem tpr4 {μ ν μ' ν' : Mem} {a : Int} (h : TPR μ ν) (ht : ν 0 1 + 4 ≤ 400) (d1 : μ' 0 1 = μ 0 1 + 4) (d2 : μ' 1 = put4 (μ 1) (μ 0 1) (a / 2 ^ 24 % 256) (a / 2 ^ 16 % 256) (a / 2 ^ 8 % 256) (a / 2 ^ 0 % 256)) (m1 : ν' 0 1 = ν 0 1 + 4) (m2 : ν' 1 = put4 (ν 1) (ν 0 1) ((a / 2 ^ 24).bmod 256) ((a / 2 ^ 16).bmod 256) ((a / 2 ^ 8).bmod 256) ((a / 2 ^ 0).bmod 256)) : TPR μ' ν' := by
  obtain ⟨t0, t1, t2⟩ := h
  have hb : ∀ x : Int, (0 ≤ x % 256 ∧ x % 256 ≤ 255) ∧ x.bmod 256 = (if x % 256 < 128 then x % 256 else x % 256 - 256) := fun x => by
    refine ⟨by omega, ?_⟩
    rw [Int.bmod_def]
    split <;> split <;> omega
  refine ⟨by rw [m1]; omega, by rw [d1, m1, t1], fun i i0 i1 => ?_⟩
  rw [d2, m2, t1]
  unfold put4 fset
  by_cases e0 : i = ν 0 1 + 1 + 1 + 1
  · simp only [if_pos e0]; exact hb _
  · simp only [if_neg e0]
    by_cases e1 : i = ν 0 1 + 1 + 1
    · simp only [if_pos e1]; exact hb _
    · simp only [if_neg e1]
      by_cases e2 : i = ν 0 1 + 1
      · simp only [if_pos e2]; exact hb _
      · simp only [if_neg e2]
        by_cases e3 : i = ν 0 1
        · simp only [if_pos e3]; exact hb _
        · simp only [if_neg e3]; exact t2 i i0 i1
theorem Cor.tape {n : Nat} {μ ν μ' ν' : Mem} (h : Cor n μ ν) (f : Fr Wfd μ μ') (g : Fr Wfd ν ν') (ht : TPR μ' ν') : Cor (n + 1) μ' ν' := by
  obtain ⟨a1, a2, a3, a4, a5, a6, a7, a8⟩ := h.next
  have r : ∀ c, c ≠ 0 → c ≠ 1 → ν' c = ν c := fun c h0 h1 => funext (fun i => g c i (by unfold Wfd; omega))
  have e32 := g 0 32 (by unfold Wfd; omega)
  have e11 := r 11 (by decide) (by decide)
  have e12 := r 12 (by decide) (by decide)
  have e14 := r 14 (by decide) (by decide)
  have e15 := r 15 (by decide) (by decide)
  have e16 := r 16 (by decide) (by decide)
  have e17 := r 17 (by decide) (by decide)
  refine ⟨ht, by rw [e11]; exact a2, by rw [e11]; exact a3.keep (fun c i q1 q2 => f c i (by unfold Wfd; omega)), by rw [e11, e12, e14, e15, e16, e17]; exact a4.keep (fun c i q => f c i (by unfold gxc at q; unfold Wfd; omega)), ?_, by rw [e11, e12]; exact a6, by rw [e12]; exact a7, a8.keep (fun c i q1 q2 => f c i (by unfold Wfd; omega)) (r 24 (by decide) (by decide)) (r 25 (by decide) (by decide)) (r 26 (by decide) (by decide))⟩
  unfold MX
  rw [e11, e12, e14, e15, e16, e17, e32]
  exact a5
theorem bm_rng (x : Int) : -128 ≤ x.bmod 256 ∧ x.bmod 256 ≤ 127 := by
  rw [Int.bmod_def]; split <;> omega
set_option maxHeartbeats 4000000 in
theorem s_feedNumber {μ : Mem} {Q : PV → Mem → Prop} {a : Int} (ha : i32 a) (ht : 0 ≤ μ 0 1 ∧ μ 0 1 + 4 ≤ 400) (hQ : ∀ μ', Fr Wfd μ μ' → μ' 0 1 = μ 0 1 + 4 → μ' 1 = put4 (μ 1) (μ 0 1) (a / 2 ^ 24 % 256) (a / 2 ^ 16 % 256) (a / 2 ^ 8 % 256) (a / 2 ^ 0 % 256) → Q vU μ') : Rj YD y_D_feedNumber 0 [vA 0, vI a] [] μ Q := by
  refine Rj_bipush (q := 2) d_D_feedNumber_0 rfl (by decide +kernel) ?_
  refine Rj_istore_n (q := 3) (ls' := [vA 0, vI a, vI 24]) d_D_feedNumber_2 rfl rfl (by decide) rfl ?_
  refine Rj_iload_n (q := 4) d_D_feedNumber_3 rfl rfl rfl ?_
  refine Rj_if_lt (q := 7) (t := 49) d_D_feedNumber_4 rfl (by decide) (by decide) (fun c => absurd c (by decide)) (fun _ => ?_)
  refine Rj_aload_n (q := 8) d_D_feedNumber_7 rfl rfl rfl ?_
  refine Rj_gi (q := 11) (ki := 1) (v := μ 0 1) gD_D_104_0 rfl rfl rfl d_D_feedNumber_8 rfl ?_
  refine Rj_sipush (q := 14) d_D_feedNumber_11 rfl (by decide +kernel) ?_
  refine Rj_icmp_ge (q := 17) (t := 49) d_D_feedNumber_14 rfl (by decide) ⟨by omega, by omega⟩ (by decide) (fun c14 => ?_) (fun c14 => ?_)
  · exact absurd c14 (by omega)
  · refine Rj_aload_n (q := 18) d_D_feedNumber_17 rfl rfl rfl ?_
    refine Rj_gr (q := 21) (zd := 1) gD_D_9_0 rfl rfl d_D_feedNumber_18 rfl ?_
    refine Rj_aload_n (q := 22) d_D_feedNumber_21 rfl rfl rfl ?_
    refine Rj_gi (q := 25) (ki := 1) (v := μ 0 1) gD_D_104_0 rfl rfl rfl d_D_feedNumber_22 rfl ?_
    refine Rj_iload_n (q := 26) d_D_feedNumber_25 rfl rfl rfl ?_
    refine Rj_iload_n (q := 27) d_D_feedNumber_26 rfl rfl rfl ?_
    refine Rj_iushr (q := 28) (z := z_ush a 24) d_D_feedNumber_27 rfl rfl ?_
    refine Rj_sipush (q := 31) d_D_feedNumber_28 rfl (by decide +kernel) ?_
    refine Rj_iand (q := 32) (z := a / 2 ^ 24 % 256) d_D_feedNumber_31 rfl (z_byte ha (k := 24) (by decide)) ?_
    refine Rj_is (q := 33) aD_1 rfl (by omega) d_D_feedNumber_32 rfl ?_
    refine Rj_aload_n (q := 34) d_D_feedNumber_33 rfl rfl rfl ?_
    refine Rj_dup (q := 35) d_D_feedNumber_34 rfl (by intro h; cases h) ?_
    refine Rj_gi (q := 38) (ki := 1) (v := μ 0 1) gD_D_104_0 rfl rfl rfl d_D_feedNumber_35 rfl ?_
    refine Rj_iconst (q := 39) d_D_feedNumber_38 rfl ?_
    refine Rj_iadd (q := 40) d_D_feedNumber_39 rfl ?_
    refine Rj_pi (q := 43) (ki := 1) pD_D_104_0 rfl rfl d_D_feedNumber_40 rfl ?_
    refine Rj_iinc (q := 46) (ls' := [vA 0, vI a, vI 16]) d_D_feedNumber_43 rfl rfl (by decide) rfl ?_
    refine Rj_goto (t := 3) d_D_feedNumber_46 (by decide) ?_
    refine Rj_iload_n (q := 4) d_D_feedNumber_3 rfl rfl rfl ?_
    refine Rj_if_lt (q := 7) (t := 49) d_D_feedNumber_4 rfl (by decide) (by decide) (fun c => absurd c (by decide)) (fun _ => ?_)
    refine Rj_aload_n (q := 8) d_D_feedNumber_7 rfl rfl rfl ?_
    refine Rj_gi (q := 11) (ki := 1) (v := (μ 0 1) + 1) gD_D_104_0 rfl rfl rfl d_D_feedNumber_8 rfl ?_
    refine Rj_sipush (q := 14) d_D_feedNumber_11 rfl (by decide +kernel) ?_
    refine Rj_icmp_ge (q := 17) (t := 49) d_D_feedNumber_14 rfl (by decide) ⟨by omega, by omega⟩ (by decide) (fun c14 => ?_) (fun c14 => ?_)
    · exact absurd c14 (by omega)
    · refine Rj_aload_n (q := 18) d_D_feedNumber_17 rfl rfl rfl ?_
      refine Rj_gr (q := 21) (zd := 1) gD_D_9_0 rfl rfl d_D_feedNumber_18 rfl ?_
      refine Rj_aload_n (q := 22) d_D_feedNumber_21 rfl rfl rfl ?_
      refine Rj_gi (q := 25) (ki := 1) (v := (μ 0 1) + 1) gD_D_104_0 rfl rfl rfl d_D_feedNumber_22 rfl ?_
      refine Rj_iload_n (q := 26) d_D_feedNumber_25 rfl rfl rfl ?_
      refine Rj_iload_n (q := 27) d_D_feedNumber_26 rfl rfl rfl ?_
      refine Rj_iushr (q := 28) (z := z_ush a 16) d_D_feedNumber_27 rfl rfl ?_
      refine Rj_sipush (q := 31) d_D_feedNumber_28 rfl (by decide +kernel) ?_
      refine Rj_iand (q := 32) (z := a / 2 ^ 16 % 256) d_D_feedNumber_31 rfl (z_byte ha (k := 16) (by decide)) ?_
      refine Rj_is (q := 33) aD_1 rfl (by omega) d_D_feedNumber_32 rfl ?_
      refine Rj_aload_n (q := 34) d_D_feedNumber_33 rfl rfl rfl ?_
      refine Rj_dup (q := 35) d_D_feedNumber_34 rfl (by intro h; cases h) ?_
      refine Rj_gi (q := 38) (ki := 1) (v := (μ 0 1) + 1) gD_D_104_0 rfl rfl rfl d_D_feedNumber_35 rfl ?_
      refine Rj_iconst (q := 39) d_D_feedNumber_38 rfl ?_
      refine Rj_iadd (q := 40) d_D_feedNumber_39 rfl ?_
      refine Rj_pi (q := 43) (ki := 1) pD_D_104_0 rfl rfl d_D_feedNumber_40 rfl ?_
      refine Rj_iinc (q := 46) (ls' := [vA 0, vI a, vI 8]) d_D_feedNumber_43 rfl rfl (by decide) rfl ?_
      refine Rj_goto (t := 3) d_D_feedNumber_46 (by decide) ?_
      refine Rj_iload_n (q := 4) d_D_feedNumber_3 rfl rfl rfl ?_
      refine Rj_if_lt (q := 7) (t := 49) d_D_feedNumber_4 rfl (by decide) (by decide) (fun c => absurd c (by decide)) (fun _ => ?_)
      refine Rj_aload_n (q := 8) d_D_feedNumber_7 rfl rfl rfl ?_
      refine Rj_gi (q := 11) (ki := 1) (v := ((μ 0 1) + 1) + 1) gD_D_104_0 rfl rfl rfl d_D_feedNumber_8 rfl ?_
      refine Rj_sipush (q := 14) d_D_feedNumber_11 rfl (by decide +kernel) ?_
      refine Rj_icmp_ge (q := 17) (t := 49) d_D_feedNumber_14 rfl (by decide) ⟨by omega, by omega⟩ (by decide) (fun c14 => ?_) (fun c14 => ?_)
      · exact absurd c14 (by omega)
      · refine Rj_aload_n (q := 18) d_D_feedNumber_17 rfl rfl rfl ?_
        refine Rj_gr (q := 21) (zd := 1) gD_D_9_0 rfl rfl d_D_feedNumber_18 rfl ?_
        refine Rj_aload_n (q := 22) d_D_feedNumber_21 rfl rfl rfl ?_
        refine Rj_gi (q := 25) (ki := 1) (v := ((μ 0 1) + 1) + 1) gD_D_104_0 rfl rfl rfl d_D_feedNumber_22 rfl ?_
        refine Rj_iload_n (q := 26) d_D_feedNumber_25 rfl rfl rfl ?_
        refine Rj_iload_n (q := 27) d_D_feedNumber_26 rfl rfl rfl ?_
        refine Rj_iushr (q := 28) (z := z_ush a 8) d_D_feedNumber_27 rfl rfl ?_
        refine Rj_sipush (q := 31) d_D_feedNumber_28 rfl (by decide +kernel) ?_
        refine Rj_iand (q := 32) (z := a / 2 ^ 8 % 256) d_D_feedNumber_31 rfl (z_byte ha (k := 8) (by decide)) ?_
        refine Rj_is (q := 33) aD_1 rfl (by omega) d_D_feedNumber_32 rfl ?_
        refine Rj_aload_n (q := 34) d_D_feedNumber_33 rfl rfl rfl ?_
        refine Rj_dup (q := 35) d_D_feedNumber_34 rfl (by intro h; cases h) ?_
        refine Rj_gi (q := 38) (ki := 1) (v := ((μ 0 1) + 1) + 1) gD_D_104_0 rfl rfl rfl d_D_feedNumber_35 rfl ?_
        refine Rj_iconst (q := 39) d_D_feedNumber_38 rfl ?_
        refine Rj_iadd (q := 40) d_D_feedNumber_39 rfl ?_
        refine Rj_pi (q := 43) (ki := 1) pD_D_104_0 rfl rfl d_D_feedNumber_40 rfl ?_
        refine Rj_iinc (q := 46) (ls' := [vA 0, vI a, vI 0]) d_D_feedNumber_43 rfl rfl (by decide) rfl ?_
        refine Rj_goto (t := 3) d_D_feedNumber_46 (by decide) ?_
        refine Rj_iload_n (q := 4) d_D_feedNumber_3 rfl rfl rfl ?_
        refine Rj_if_lt (q := 7) (t := 49) d_D_feedNumber_4 rfl (by decide) (by decide) (fun c => absurd c (by decide)) (fun _ => ?_)
        refine Rj_aload_n (q := 8) d_D_feedNumber_7 rfl rfl rfl ?_
        refine Rj_gi (q := 11) (ki := 1) (v := (((μ 0 1) + 1) + 1) + 1) gD_D_104_0 rfl rfl rfl d_D_feedNumber_8 rfl ?_
        refine Rj_sipush (q := 14) d_D_feedNumber_11 rfl (by decide +kernel) ?_
        refine Rj_icmp_ge (q := 17) (t := 49) d_D_feedNumber_14 rfl (by decide) ⟨by omega, by omega⟩ (by decide) (fun c14 => ?_) (fun c14 => ?_)
        · exact absurd c14 (by omega)
        · refine Rj_aload_n (q := 18) d_D_feedNumber_17 rfl rfl rfl ?_
          refine Rj_gr (q := 21) (zd := 1) gD_D_9_0 rfl rfl d_D_feedNumber_18 rfl ?_
          refine Rj_aload_n (q := 22) d_D_feedNumber_21 rfl rfl rfl ?_
          refine Rj_gi (q := 25) (ki := 1) (v := (((μ 0 1) + 1) + 1) + 1) gD_D_104_0 rfl rfl rfl d_D_feedNumber_22 rfl ?_
          refine Rj_iload_n (q := 26) d_D_feedNumber_25 rfl rfl rfl ?_
          refine Rj_iload_n (q := 27) d_D_feedNumber_26 rfl rfl rfl ?_
          refine Rj_iushr (q := 28) (z := z_ush a 0) d_D_feedNumber_27 rfl rfl ?_
          refine Rj_sipush (q := 31) d_D_feedNumber_28 rfl (by decide +kernel) ?_
          refine Rj_iand (q := 32) (z := a / 2 ^ 0 % 256) d_D_feedNumber_31 rfl (z_byte ha (k := 0) (by decide)) ?_
          refine Rj_is (q := 33) aD_1 rfl (by omega) d_D_feedNumber_32 rfl ?_
          refine Rj_aload_n (q := 34) d_D_feedNumber_33 rfl rfl rfl ?_
          refine Rj_dup (q := 35) d_D_feedNumber_34 rfl (by intro h; cases h) ?_
          refine Rj_gi (q := 38) (ki := 1) (v := (((μ 0 1) + 1) + 1) + 1) gD_D_104_0 rfl rfl rfl d_D_feedNumber_35 rfl ?_
          refine Rj_iconst (q := 39) d_D_feedNumber_38 rfl ?_
          refine Rj_iadd (q := 40) d_D_feedNumber_39 rfl ?_
          refine Rj_pi (q := 43) (ki := 1) pD_D_104_0 rfl rfl d_D_feedNumber_40 rfl ?_
          refine Rj_iinc (q := 46) (ls' := [vA 0, vI a, vI (-8)]) d_D_feedNumber_43 rfl rfl (by decide) rfl ?_
          refine Rj_goto (t := 3) d_D_feedNumber_46 (by decide) ?_
          refine Rj_iload_n (q := 4) d_D_feedNumber_3 rfl rfl rfl ?_
          refine Rj_if_lt (q := 7) (t := 49) d_D_feedNumber_4 rfl (by decide) (by decide) (fun _ => ?_) (fun c => absurd c (by decide))
          refine Rj_vret d_D_feedNumber_49 rfl ?_
          refine hQ _ (Fr.put (Fr.put (Fr.put (Fr.put (Fr.put (Fr.put (Fr.put (Fr.put (Fr.refl _ _) (by simp [Wfd])) (by decide)) (by simp [Wfd])) (by decide)) (by simp [Wfd])) (by decide)) (by simp [Wfd])) (by decide)) (by simp [mset]; omega) ?_
          simp only [put4, mset_fs, mset_nc _ _ _ _ _ (show (1 : Nat) ≠ 0 by decide)]
set_option maxHeartbeats 4000000 in
theorem s_M_four {μ : Mem} {Q : PV → Mem → Prop} {a : Int} (ha : i32 a) (ht : 0 ≤ μ 0 1 ∧ μ 0 1 + 4 ≤ 400) (hQ : ∀ μ', Fr Wfd μ μ' → μ' 0 1 = μ 0 1 + 4 → μ' 1 = put4 (μ 1) (μ 0 1) ((a / 2 ^ 24).bmod 256) ((a / 2 ^ 16).bmod 256) ((a / 2 ^ 8).bmod 256) ((a / 2 ^ 0).bmod 256) → Q vU μ') : Rj YM y_M_four 0 [vA 0, vI a] [] μ Q := by
  refine Rj_bipush (q := 2) d_M_four_0 rfl (by decide +kernel) ?_
  refine Rj_istore_n (q := 3) (ls' := [vA 0, vI a, vI 24]) d_M_four_2 rfl rfl (by decide) rfl ?_
  refine Rj_iload_n (q := 4) d_M_four_3 rfl rfl rfl ?_
  refine Rj_if_lt (q := 7) (t := 36) d_M_four_4 rfl (by decide) (by decide) (fun c => absurd c (by decide)) (fun _ => ?_)
  refine Rj_aload_n (q := 8) d_M_four_7 rfl rfl rfl ?_
  refine Rj_gr (q := 11) (zd := 1) gM_M_7_0 rfl rfl d_M_four_8 rfl ?_
  refine Rj_aload_n (q := 12) d_M_four_11 rfl rfl rfl ?_
  refine Rj_gi (q := 15) (ki := 1) (v := μ 0 1) gM_M_99_0 rfl rfl rfl d_M_four_12 rfl ?_
  refine Rj_iload_n (q := 16) d_M_four_15 rfl rfl rfl ?_
  refine Rj_iload_n (q := 17) d_M_four_16 rfl rfl rfl ?_
  refine Rj_ishr (q := 18) (z := a / 2 ^ 24) d_M_four_17 rfl (z_shr_g ha (k := 24) (by decide)) ?_
  refine Rj_i2b (q := 19) (z := (a / 2 ^ 24).bmod 256) d_M_four_18 rfl rfl ?_
  refine Rj_bs (q := 20) aM_1 rfl (by omega) (bm_rng _) d_M_four_19 rfl ?_
  refine Rj_aload_n (q := 21) d_M_four_20 rfl rfl rfl ?_
  refine Rj_dup (q := 22) d_M_four_21 rfl (by intro h; cases h) ?_
  refine Rj_gi (q := 25) (ki := 1) (v := μ 0 1) gM_M_99_0 rfl rfl rfl d_M_four_22 rfl ?_
  refine Rj_iconst (q := 26) d_M_four_25 rfl ?_
  refine Rj_iadd (q := 27) d_M_four_26 rfl ?_
  refine Rj_pi (q := 30) (ki := 1) pM_M_99_0 rfl rfl d_M_four_27 rfl ?_
  refine Rj_iinc (q := 33) (ls' := [vA 0, vI a, vI 16]) d_M_four_30 rfl rfl (by decide) rfl ?_
  refine Rj_goto (t := 3) d_M_four_33 (by decide) ?_
  refine Rj_iload_n (q := 4) d_M_four_3 rfl rfl rfl ?_
  refine Rj_if_lt (q := 7) (t := 36) d_M_four_4 rfl (by decide) (by decide) (fun c => absurd c (by decide)) (fun _ => ?_)
  refine Rj_aload_n (q := 8) d_M_four_7 rfl rfl rfl ?_
  refine Rj_gr (q := 11) (zd := 1) gM_M_7_0 rfl rfl d_M_four_8 rfl ?_
  refine Rj_aload_n (q := 12) d_M_four_11 rfl rfl rfl ?_
  refine Rj_gi (q := 15) (ki := 1) (v := (μ 0 1) + 1) gM_M_99_0 rfl rfl rfl d_M_four_12 rfl ?_
  refine Rj_iload_n (q := 16) d_M_four_15 rfl rfl rfl ?_
  refine Rj_iload_n (q := 17) d_M_four_16 rfl rfl rfl ?_
  refine Rj_ishr (q := 18) (z := a / 2 ^ 16) d_M_four_17 rfl (z_shr_g ha (k := 16) (by decide)) ?_
  refine Rj_i2b (q := 19) (z := (a / 2 ^ 16).bmod 256) d_M_four_18 rfl rfl ?_
  refine Rj_bs (q := 20) aM_1 rfl (by omega) (bm_rng _) d_M_four_19 rfl ?_
  refine Rj_aload_n (q := 21) d_M_four_20 rfl rfl rfl ?_
  refine Rj_dup (q := 22) d_M_four_21 rfl (by intro h; cases h) ?_
  refine Rj_gi (q := 25) (ki := 1) (v := (μ 0 1) + 1) gM_M_99_0 rfl rfl rfl d_M_four_22 rfl ?_
  refine Rj_iconst (q := 26) d_M_four_25 rfl ?_
  refine Rj_iadd (q := 27) d_M_four_26 rfl ?_
  refine Rj_pi (q := 30) (ki := 1) pM_M_99_0 rfl rfl d_M_four_27 rfl ?_
  refine Rj_iinc (q := 33) (ls' := [vA 0, vI a, vI 8]) d_M_four_30 rfl rfl (by decide) rfl ?_
  refine Rj_goto (t := 3) d_M_four_33 (by decide) ?_
  refine Rj_iload_n (q := 4) d_M_four_3 rfl rfl rfl ?_
  refine Rj_if_lt (q := 7) (t := 36) d_M_four_4 rfl (by decide) (by decide) (fun c => absurd c (by decide)) (fun _ => ?_)
  refine Rj_aload_n (q := 8) d_M_four_7 rfl rfl rfl ?_
  refine Rj_gr (q := 11) (zd := 1) gM_M_7_0 rfl rfl d_M_four_8 rfl ?_
  refine Rj_aload_n (q := 12) d_M_four_11 rfl rfl rfl ?_
  refine Rj_gi (q := 15) (ki := 1) (v := ((μ 0 1) + 1) + 1) gM_M_99_0 rfl rfl rfl d_M_four_12 rfl ?_
  refine Rj_iload_n (q := 16) d_M_four_15 rfl rfl rfl ?_
  refine Rj_iload_n (q := 17) d_M_four_16 rfl rfl rfl ?_
  refine Rj_ishr (q := 18) (z := a / 2 ^ 8) d_M_four_17 rfl (z_shr_g ha (k := 8) (by decide)) ?_
  refine Rj_i2b (q := 19) (z := (a / 2 ^ 8).bmod 256) d_M_four_18 rfl rfl ?_
  refine Rj_bs (q := 20) aM_1 rfl (by omega) (bm_rng _) d_M_four_19 rfl ?_
  refine Rj_aload_n (q := 21) d_M_four_20 rfl rfl rfl ?_
  refine Rj_dup (q := 22) d_M_four_21 rfl (by intro h; cases h) ?_
  refine Rj_gi (q := 25) (ki := 1) (v := ((μ 0 1) + 1) + 1) gM_M_99_0 rfl rfl rfl d_M_four_22 rfl ?_
  refine Rj_iconst (q := 26) d_M_four_25 rfl ?_
  refine Rj_iadd (q := 27) d_M_four_26 rfl ?_
  refine Rj_pi (q := 30) (ki := 1) pM_M_99_0 rfl rfl d_M_four_27 rfl ?_
  refine Rj_iinc (q := 33) (ls' := [vA 0, vI a, vI 0]) d_M_four_30 rfl rfl (by decide) rfl ?_
  refine Rj_goto (t := 3) d_M_four_33 (by decide) ?_
  refine Rj_iload_n (q := 4) d_M_four_3 rfl rfl rfl ?_
  refine Rj_if_lt (q := 7) (t := 36) d_M_four_4 rfl (by decide) (by decide) (fun c => absurd c (by decide)) (fun _ => ?_)
  refine Rj_aload_n (q := 8) d_M_four_7 rfl rfl rfl ?_
  refine Rj_gr (q := 11) (zd := 1) gM_M_7_0 rfl rfl d_M_four_8 rfl ?_
  refine Rj_aload_n (q := 12) d_M_four_11 rfl rfl rfl ?_
  refine Rj_gi (q := 15) (ki := 1) (v := (((μ 0 1) + 1) + 1) + 1) gM_M_99_0 rfl rfl rfl d_M_four_12 rfl ?_
  refine Rj_iload_n (q := 16) d_M_four_15 rfl rfl rfl ?_
  refine Rj_iload_n (q := 17) d_M_four_16 rfl rfl rfl ?_
  refine Rj_ishr (q := 18) (z := a / 2 ^ 0) d_M_four_17 rfl (z_shr_g ha (k := 0) (by decide)) ?_
  refine Rj_i2b (q := 19) (z := (a / 2 ^ 0).bmod 256) d_M_four_18 rfl rfl ?_
  refine Rj_bs (q := 20) aM_1 rfl (by omega) (bm_rng _) d_M_four_19 rfl ?_
  refine Rj_aload_n (q := 21) d_M_four_20 rfl rfl rfl ?_
  refine Rj_dup (q := 22) d_M_four_21 rfl (by intro h; cases h) ?_
  refine Rj_gi (q := 25) (ki := 1) (v := (((μ 0 1) + 1) + 1) + 1) gM_M_99_0 rfl rfl rfl d_M_four_22 rfl ?_
  refine Rj_iconst (q := 26) d_M_four_25 rfl ?_
  refine Rj_iadd (q := 27) d_M_four_26 rfl ?_
  refine Rj_pi (q := 30) (ki := 1) pM_M_99_0 rfl rfl d_M_four_27 rfl ?_
  refine Rj_iinc (q := 33) (ls' := [vA 0, vI a, vI (-8)]) d_M_four_30 rfl rfl (by decide) rfl ?_
  refine Rj_goto (t := 3) d_M_four_33 (by decide) ?_
  refine Rj_iload_n (q := 4) d_M_four_3 rfl rfl rfl ?_
  refine Rj_if_lt (q := 7) (t := 36) d_M_four_4 rfl (by decide) (by decide) (fun _ => ?_) (fun c => absurd c (by decide))
  refine Rj_vret d_M_four_36 rfl ?_
  refine hQ _ (Fr.put (Fr.put (Fr.put (Fr.put (Fr.put (Fr.put (Fr.put (Fr.put (Fr.refl _ _) (by simp [Wfd])) (by decide)) (by simp [Wfd])) (by decide)) (by simp [Wfd])) (by decide)) (by simp [Wfd])) (by decide)) (by simp [mset]; omega) ?_
  simp only [put4, mset_fs, mset_nc _ _ _ _ _ (show (1 : Nat) ≠ 0 by decide)]
set_option maxHeartbeats 8000000 in
theorem C_feed {n : Nat} {μ ν : Mem} {a b c d e : Int} (hC : Cor n μ ν) (hn : n ≤ 511) (ha : i32 a) (hb : i32 b) (hc : i32 c) (hd : i32 d) (he : i32 e)  : Rj YD y_D_feed 0 [vA 0, vI a, vI b, vI c, vI d, vI e] [] μ (fun r μ' => Rj YM y_M_feed 0 [vA 0, vI a, vI b, vI c, vI d, vI e] [] ν (fun r' ν' => Sm 1 r' r ∧ Cor (n + 1) μ' ν' ∧ Kp μ μ' ∧ Kq ν ν')) := by
  obtain ⟨hTP, hK, hSc, h, hM, hSB, hBK, hIM⟩ := id hC
  have hC1 := hC.next
  obtain ⟨z0, z1, z2, z3, z4, z5, z6, z7⟩ := h.z
  obtain ⟨hS, hH, hP, hB, hFx⟩ := id hM
  have hD := z0
  have hJ := z1
  have t0 := hTP.1
  have t1 := hTP.2.1
  refine Rj_aload_n (q := 1) d_D_feed_0 rfl rfl rfl ?_
  refine Rj_gi (q := 4) (ki := 1) (v := μ 0 1) gD_D_104_0 rfl rfl rfl d_D_feed_1 rfl ?_
  refine Rj_bipush (q := 6) d_D_feed_4 rfl (by decide +kernel) ?_
  refine Rj_iadd (q := 7) d_D_feed_6 rfl ?_
  refine Rj_sipush (q := 10) d_D_feed_7 rfl (by decide +kernel) ?_
  refine Rj_icmp_le (q := 13) (t := 15) d_D_feed_10 rfl (by decide) (by first | assumption | exact ⟨by omega, by omega⟩) (by decide) (fun c10 => ?_) (fun c10 => ?_)
  · refine Rj_aload_n (q := 16) d_D_feed_15 rfl rfl rfl ?_
    refine Rj_iload_n (q := 17) d_D_feed_16 rfl rfl rfl ?_
    refine Rj_vov (q := 20) (z := y_D_feedNumber) (as := [vI a]) (rest := []) (la := [vA 0, vI a]) oD_0_D_feedNumber ml_D_108 mw_D_feedNumber mv_D_feedNumber rfl d_D_feed_17 rfl rfl rfl rfl rfl ?_
    refine s_feedNumber (μ := μ) ha (by omega) (fun m17 fm17 qm17 rm17 => ?_)
    refine Rj_aload_n (q := 21) d_D_feed_20 rfl rfl rfl ?_
    refine Rj_iload_n (q := 22) d_D_feed_21 rfl rfl rfl ?_
    refine Rj_vov (q := 25) (z := y_D_feedNumber) (as := [vI b]) (rest := []) (la := [vA 0, vI b]) oD_0_D_feedNumber ml_D_108 mw_D_feedNumber mv_D_feedNumber rfl d_D_feed_22 rfl rfl rfl rfl rfl ?_
    refine s_feedNumber (μ := m17) hb (by omega) (fun m22 fm22 qm22 rm22 => ?_)
    refine Rj_aload_n (q := 26) d_D_feed_25 rfl rfl rfl ?_
    refine Rj_iload_n (q := 27) d_D_feed_26 rfl rfl rfl ?_
    refine Rj_vov (q := 30) (z := y_D_feedNumber) (as := [vI c]) (rest := []) (la := [vA 0, vI c]) oD_0_D_feedNumber ml_D_108 mw_D_feedNumber mv_D_feedNumber rfl d_D_feed_27 rfl rfl rfl rfl rfl ?_
    refine s_feedNumber (μ := m22) hc (by omega) (fun m27 fm27 qm27 rm27 => ?_)
    refine Rj_aload_n (q := 31) d_D_feed_30 rfl rfl rfl ?_
    refine Rj_iload (q := 33) d_D_feed_31 rfl rfl ?_
    refine Rj_vov (q := 36) (z := y_D_feedNumber) (as := [vI d]) (rest := []) (la := [vA 0, vI d]) oD_0_D_feedNumber ml_D_108 mw_D_feedNumber mv_D_feedNumber rfl d_D_feed_33 rfl rfl rfl rfl rfl ?_
    refine s_feedNumber (μ := m27) hd (by omega) (fun m33 fm33 qm33 rm33 => ?_)
    refine Rj_aload_n (q := 37) d_D_feed_36 rfl rfl rfl ?_
    refine Rj_iload (q := 39) d_D_feed_37 rfl rfl ?_
    refine Rj_vov (q := 42) (z := y_D_feedNumber) (as := [vI e]) (rest := []) (la := [vA 0, vI e]) oD_0_D_feedNumber ml_D_108 mw_D_feedNumber mv_D_feedNumber rfl d_D_feed_39 rfl rfl rfl rfl rfl ?_
    refine s_feedNumber (μ := m33) he (by omega) (fun m39 fm39 qm39 rm39 => ?_)
    refine Rj_aload_n (q := 43) d_D_feed_42 rfl rfl rfl ?_
    refine Rj_gi (q := 46) (ki := 1) (v := m39 0 1) gD_D_104_0 rfl rfl rfl d_D_feed_43 rfl ?_
    refine Rj_iret d_D_feed_46 rfl ?_
    refine Rj_aload_n (q := 1) d_M_feed_0 rfl rfl rfl ?_
    refine Rj_gi (q := 4) (ki := 1) (v := ν 0 1) gM_M_99_0 rfl rfl rfl d_M_feed_1 rfl ?_
    refine Rj_bipush (q := 6) d_M_feed_4 rfl (by decide +kernel) ?_
    refine Rj_iadd (q := 7) d_M_feed_6 rfl ?_
    refine Rj_sipush (q := 10) d_M_feed_7 rfl (by decide +kernel) ?_
    refine Rj_icmp_le (q := 13) (t := 15) d_M_feed_10 rfl (by decide) (by first | assumption | exact ⟨by omega, by omega⟩) (by decide) (fun c10 => ?_) (fun c10 => ?_)
    · refine Rj_aload_n (q := 16) d_M_feed_15 rfl rfl rfl ?_
      refine Rj_iload_n (q := 17) d_M_feed_16 rfl rfl rfl ?_
      refine Rj_vov (q := 20) (z := y_M_four) (as := [vI a]) (rest := []) (la := [vA 0, vI a]) oM_0_M_four ml_M_103 mw_M_four mv_M_four rfl d_M_feed_17 rfl rfl rfl rfl rfl ?_
      refine s_M_four (μ := ν) ha (by omega) (fun k17 fk17 qk17 rk17 => ?_)
      refine Rj_aload_n (q := 21) d_M_feed_20 rfl rfl rfl ?_
      refine Rj_iload_n (q := 22) d_M_feed_21 rfl rfl rfl ?_
      refine Rj_vov (q := 25) (z := y_M_four) (as := [vI b]) (rest := []) (la := [vA 0, vI b]) oM_0_M_four ml_M_103 mw_M_four mv_M_four rfl d_M_feed_22 rfl rfl rfl rfl rfl ?_
      refine s_M_four (μ := k17) hb (by omega) (fun k22 fk22 qk22 rk22 => ?_)
      refine Rj_aload_n (q := 26) d_M_feed_25 rfl rfl rfl ?_
      refine Rj_iload_n (q := 27) d_M_feed_26 rfl rfl rfl ?_
      refine Rj_vov (q := 30) (z := y_M_four) (as := [vI c]) (rest := []) (la := [vA 0, vI c]) oM_0_M_four ml_M_103 mw_M_four mv_M_four rfl d_M_feed_27 rfl rfl rfl rfl rfl ?_
      refine s_M_four (μ := k22) hc (by omega) (fun k27 fk27 qk27 rk27 => ?_)
      refine Rj_aload_n (q := 31) d_M_feed_30 rfl rfl rfl ?_
      refine Rj_iload (q := 33) d_M_feed_31 rfl rfl ?_
      refine Rj_vov (q := 36) (z := y_M_four) (as := [vI d]) (rest := []) (la := [vA 0, vI d]) oM_0_M_four ml_M_103 mw_M_four mv_M_four rfl d_M_feed_33 rfl rfl rfl rfl rfl ?_
      refine s_M_four (μ := k27) hd (by omega) (fun k33 fk33 qk33 rk33 => ?_)
      refine Rj_aload_n (q := 37) d_M_feed_36 rfl rfl rfl ?_
      refine Rj_iload (q := 39) d_M_feed_37 rfl rfl ?_
      refine Rj_vov (q := 42) (z := y_M_four) (as := [vI e]) (rest := []) (la := [vA 0, vI e]) oM_0_M_four ml_M_103 mw_M_four mv_M_four rfl d_M_feed_39 rfl rfl rfl rfl rfl ?_
      refine s_M_four (μ := k33) he (by omega) (fun k39 fk39 qk39 rk39 => ?_)
      refine Rj_aload_n (q := 43) d_M_feed_42 rfl rfl rfl ?_
      refine Rj_gi (q := 46) (ki := 1) (v := k39 0 1) gM_M_99_0 rfl rfl rfl d_M_feed_43 rfl ?_
      refine Rj_iret d_M_feed_46 rfl ?_
      have t1 := tpr4 hTP (by omega) qm17 rm17 qk17 rk17
      have t2 := tpr4 t1 (by omega) qm22 rm22 qk22 rk22
      have t3 := tpr4 t2 (by omega) qm27 rm27 qk27 rk27
      have t4 := tpr4 t3 (by omega) qm33 rm33 qk33 rk33
      have t5 := tpr4 t4 (by omega) qm39 rm39 qk39 rk39
      have fd := (((fm17.trans fm22).trans fm27).trans fm33).trans fm39
      have fq := (((fk17.trans fk22).trans fk27).trans fk33).trans fk39
      exact ⟨sm_I (by omega), hC.tape fd fq t5, fun c i q => fd c i (by unfold Wfd; omega), fun c i q => fq c i (by unfold Wfd; omega)⟩
    · refine Rj_iconst (q := 14) d_M_feed_13 rfl ?_
      refine Rj_iret d_M_feed_14 rfl ?_
      exfalso; omega
  · refine Rj_iconst (q := 14) d_D_feed_13 rfl ?_
    refine Rj_iret d_D_feed_14 rfl ?_
    refine Rj_aload_n (q := 1) d_M_feed_0 rfl rfl rfl ?_
    refine Rj_gi (q := 4) (ki := 1) (v := ν 0 1) gM_M_99_0 rfl rfl rfl d_M_feed_1 rfl ?_
    refine Rj_bipush (q := 6) d_M_feed_4 rfl (by decide +kernel) ?_
    refine Rj_iadd (q := 7) d_M_feed_6 rfl ?_
    refine Rj_sipush (q := 10) d_M_feed_7 rfl (by decide +kernel) ?_
    refine Rj_icmp_le (q := 13) (t := 15) d_M_feed_10 rfl (by decide) (by first | assumption | exact ⟨by omega, by omega⟩) (by decide) (fun c10 => ?_) (fun c10 => ?_)
    · refine Rj_aload_n (q := 16) d_M_feed_15 rfl rfl rfl ?_
      refine Rj_iload_n (q := 17) d_M_feed_16 rfl rfl rfl ?_
      refine Rj_vov (q := 20) (z := y_M_four) (as := [vI a]) (rest := []) (la := [vA 0, vI a]) oM_0_M_four ml_M_103 mw_M_four mv_M_four rfl d_M_feed_17 rfl rfl rfl rfl rfl ?_
      refine s_M_four (μ := ν) ha (by omega) (fun k17 fk17 qk17 rk17 => ?_)
      refine Rj_aload_n (q := 21) d_M_feed_20 rfl rfl rfl ?_
      refine Rj_iload_n (q := 22) d_M_feed_21 rfl rfl rfl ?_
      refine Rj_vov (q := 25) (z := y_M_four) (as := [vI b]) (rest := []) (la := [vA 0, vI b]) oM_0_M_four ml_M_103 mw_M_four mv_M_four rfl d_M_feed_22 rfl rfl rfl rfl rfl ?_
      refine s_M_four (μ := k17) hb (by omega) (fun k22 fk22 qk22 rk22 => ?_)
      refine Rj_aload_n (q := 26) d_M_feed_25 rfl rfl rfl ?_
      refine Rj_iload_n (q := 27) d_M_feed_26 rfl rfl rfl ?_
      refine Rj_vov (q := 30) (z := y_M_four) (as := [vI c]) (rest := []) (la := [vA 0, vI c]) oM_0_M_four ml_M_103 mw_M_four mv_M_four rfl d_M_feed_27 rfl rfl rfl rfl rfl ?_
      refine s_M_four (μ := k22) hc (by omega) (fun k27 fk27 qk27 rk27 => ?_)
      refine Rj_aload_n (q := 31) d_M_feed_30 rfl rfl rfl ?_
      refine Rj_iload (q := 33) d_M_feed_31 rfl rfl ?_
      refine Rj_vov (q := 36) (z := y_M_four) (as := [vI d]) (rest := []) (la := [vA 0, vI d]) oM_0_M_four ml_M_103 mw_M_four mv_M_four rfl d_M_feed_33 rfl rfl rfl rfl rfl ?_
      refine s_M_four (μ := k27) hd (by omega) (fun k33 fk33 qk33 rk33 => ?_)
      refine Rj_aload_n (q := 37) d_M_feed_36 rfl rfl rfl ?_
      refine Rj_iload (q := 39) d_M_feed_37 rfl rfl ?_
      refine Rj_vov (q := 42) (z := y_M_four) (as := [vI e]) (rest := []) (la := [vA 0, vI e]) oM_0_M_four ml_M_103 mw_M_four mv_M_four rfl d_M_feed_39 rfl rfl rfl rfl rfl ?_
      refine s_M_four (μ := k33) he (by omega) (fun k39 fk39 qk39 rk39 => ?_)
      refine Rj_aload_n (q := 43) d_M_feed_42 rfl rfl rfl ?_
      refine Rj_gi (q := 46) (ki := 1) (v := k39 0 1) gM_M_99_0 rfl rfl rfl d_M_feed_43 rfl ?_
      refine Rj_iret d_M_feed_46 rfl ?_
      exfalso; omega
    · refine Rj_iconst (q := 14) d_M_feed_13 rfl ?_
      refine Rj_iret d_M_feed_14 rfl ?_
      exact ⟨sm_I rfl, hC1, kp0 _, kq0 _⟩
