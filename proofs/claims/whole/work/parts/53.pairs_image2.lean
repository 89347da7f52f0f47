theorem gM_M_86_0 : GI YM "DoorsOnCogsModel" 86 0 44 (some (some 24)) := ⟨by decide, _, _, _, fl_M_86, cM_0, by decide, rfl⟩
theorem aM_24 : AI YM 24 (.int) 536 := ⟨by decide, cM_24, by decide⟩
theorem gM_M_89_0 : GI YM "DoorsOnCogsModel" 89 0 45 (some (some 25)) := ⟨by decide, _, _, _, fl_M_89, cM_0, by decide, rfl⟩
theorem aM_25 : AI YM 25 (.long) 48 := ⟨by decide, cM_25, by decide⟩
theorem gM_M_92_0 : GI YM "DoorsOnCogsModel" 92 0 46 (some (some 26)) := ⟨by decide, _, _, _, fl_M_92, cM_0, by decide, rfl⟩
theorem aM_26 : AI YM 26 (.boolean) 4 := ⟨by decide, cM_26, by decide⟩
theorem oM_0_M_hangs : OI YM 0 y_M_hangs := ⟨by decide, _, _, _, cM_0, rfl⟩
/-! image, back of the reference; the pairs -/
set_option maxHeartbeats 4000000 in
theorem s_M_image_23 : ∀ (f : Nat) {μ : Mem} {Q : PV → Mem → Prop} {a i : Int}, ((134 - i).toNat < f) → (0 ≤ a ∧ a ≤ 3) → (0 ≤ i ∧ i ≤ 134) → (∀ μ', Fr (fun c j => c = 24 ∧ 134 * a + i ≤ j ∧ j < 134 * a + 134) μ μ' → (∀ j, i ≤ j → j < 134 → μ' 24 (134 * a + j) = μ 11 (j)) → Rj YM y_M_image 54 [vA 0, vI a] [] μ' Q) → Rj YM y_M_image 23 [vA 0, vI a, vI i] [] μ Q := by
  intro f
  induction f with
  | zero => intro μ Q a i hf ha hi hk; exact absurd hf (by omega)
  | succ f ih =>
    intro μ Q a i hf ha hi hk
    refine Rj_iload_n (q := 24) d_M_image_23 rfl rfl rfl ?_
    refine Rj_sipush (q := 27) d_M_image_24 rfl (by decide +kernel) ?_
    refine Rj_icmp_ge (q := 30) (t := 54) d_M_image_27 rfl (by decide) ⟨by omega, by omega⟩ (by decide) (fun c27 => ?_) (fun c27 => ?_)
    · refine Rj_pre (ls' := [vA 0, vI a]) (t := [vI i]) rfl ?_
      exact hk μ (Fr.refl _ _) (fun j j0 j1 => by omega)
    · refine Rj_aload_n (q := 31) d_M_image_30 rfl rfl rfl ?_
      refine Rj_gr (q := 34) (zd := 24) gM_M_86_0 rfl rfl d_M_image_31 rfl ?_
      refine Rj_sipush (q := 37) d_M_image_34 rfl (by decide +kernel) ?_
      refine Rj_iload_n (q := 38) d_M_image_37 rfl rfl rfl ?_
      refine Rj_imul (q := 39) d_M_image_38 rfl ?_
      refine Rj_iload_n (q := 40) d_M_image_39 rfl rfl rfl ?_
      refine Rj_iadd (q := 41) d_M_image_40 rfl ?_
      refine Rj_aload_n (q := 42) d_M_image_41 rfl rfl rfl ?_
      refine Rj_gr (q := 45) (zd := 11) gM_M_42_0 rfl rfl d_M_image_42 rfl ?_
      refine Rj_iload_n (q := 46) d_M_image_45 rfl rfl rfl ?_
      refine Rj_ia (q := 47) (v := μ 11 i) aM_11 rfl (by omega) rfl d_M_image_46 rfl ?_
      refine Rj_is (q := 48) aM_24 rfl (by omega) d_M_image_47 rfl ?_
      refine Rj_iinc (q := 51) (ls' := [vA 0, vI a, vI (i + 1)]) d_M_image_48 rfl rfl (by decide) rfl ?_
      refine Rj_goto (t := 23) d_M_image_51 (by decide) ?_
      refine ih (μ := (mset μ 24 ((134 * a) + i) (μ 11 i))) (by omega) ha (by omega) (fun m f q => hk m (Fr.trans (Fr.put (Fr.refl _ _) ⟨rfl, by omega, by omega⟩) (Fr.wide f (fun c j q => ⟨q.1, by omega, q.2.2⟩))) (fun j j0 j1 => ?_))
      by_cases e : j = i
      · subst e
        rw [f 24 (134 * a + j) (by omega), mset_same]
      · rw [q j (by omega) j1]
        exact mset_o (by omega)
set_option maxHeartbeats 4000000 in
theorem s_M_image_56 : ∀ (f : Nat) {μ : Mem} {Q : PV → Mem → Prop} {a i : Int}, ((12 - i).toNat < f) → (0 ≤ a ∧ a ≤ 3) → (0 ≤ i ∧ i ≤ 12) → (∀ μ', Fr (fun c j => c = 25 ∧ 12 * a + i ≤ j ∧ j < 12 * a + 12) μ μ' → (∀ j, i ≤ j → j < 12 → μ' 25 (12 * a + j) = μ 12 (j)) → Rj YM y_M_image 85 [vA 0, vI a] [] μ' Q) → Rj YM y_M_image 56 [vA 0, vI a, vI i] [] μ Q := by
  intro f
  induction f with
  | zero => intro μ Q a i hf ha hi hk; exact absurd hf (by omega)
  | succ f ih =>
    intro μ Q a i hf ha hi hk
    refine Rj_iload_n (q := 57) d_M_image_56 rfl rfl rfl ?_
    refine Rj_bipush (q := 59) d_M_image_57 rfl (by decide +kernel) ?_
    refine Rj_icmp_ge (q := 62) (t := 85) d_M_image_59 rfl (by decide) ⟨by omega, by omega⟩ (by decide) (fun c59 => ?_) (fun c59 => ?_)
    · refine Rj_pre (ls' := [vA 0, vI a]) (t := [vI i]) rfl ?_
      exact hk μ (Fr.refl _ _) (fun j j0 j1 => by omega)
    · refine Rj_aload_n (q := 63) d_M_image_62 rfl rfl rfl ?_
      refine Rj_gr (q := 66) (zd := 25) gM_M_89_0 rfl rfl d_M_image_63 rfl ?_
      refine Rj_bipush (q := 68) d_M_image_66 rfl (by decide +kernel) ?_
      refine Rj_iload_n (q := 69) d_M_image_68 rfl rfl rfl ?_
      refine Rj_imul (q := 70) d_M_image_69 rfl ?_
      refine Rj_iload_n (q := 71) d_M_image_70 rfl rfl rfl ?_
      refine Rj_iadd (q := 72) d_M_image_71 rfl ?_
      refine Rj_aload_n (q := 73) d_M_image_72 rfl rfl rfl ?_
      refine Rj_gr (q := 76) (zd := 12) gM_M_45_0 rfl rfl d_M_image_73 rfl ?_
      refine Rj_iload_n (q := 77) d_M_image_76 rfl rfl rfl ?_
      refine Rj_la (q := 78) (v := μ 12 i) aM_12 rfl (by omega) rfl d_M_image_77 rfl ?_
      refine Rj_lst (q := 79) aM_25 rfl (by omega) d_M_image_78 rfl ?_
      refine Rj_iinc (q := 82) (ls' := [vA 0, vI a, vI (i + 1)]) d_M_image_79 rfl rfl (by decide) rfl ?_
      refine Rj_goto (t := 56) d_M_image_82 (by decide) ?_
      refine ih (μ := (mset μ 25 ((12 * a) + i) (μ 12 i))) (by omega) ha (by omega) (fun m f q => hk m (Fr.trans (Fr.put (Fr.refl _ _) ⟨rfl, by omega, by omega⟩) (Fr.wide f (fun c j q => ⟨q.1, by omega, q.2.2⟩))) (fun j j0 j1 => ?_))
      by_cases e : j = i
      · subst e
        rw [f 25 (12 * a + j) (by omega), mset_same]
      · rw [q j (by omega) j1]
        exact mset_o (by omega)
set_option maxHeartbeats 4000000 in
theorem s_M_back_25 : ∀ (f : Nat) {μ : Mem} {Q : PV → Mem → Prop} {a i : Int}, ((134 - i).toNat < f) → (0 ≤ a ∧ a ≤ 3) → (0 ≤ i ∧ i ≤ 134) → (∀ μ', Fr (fun c j => c = 11 ∧ i ≤ j ∧ j < 134) μ μ' → (∀ j, i ≤ j → j < 134 → μ' 11 (j) = μ 24 (134 * a + j)) → Rj YM y_M_back 56 [vA 0, vI a] [] μ' Q) → Rj YM y_M_back 25 [vA 0, vI a, vI i] [] μ Q := by
  intro f
  induction f with
  | zero => intro μ Q a i hf ha hi hk; exact absurd hf (by omega)
  | succ f ih =>
    intro μ Q a i hf ha hi hk
    refine Rj_iload_n (q := 26) d_M_back_25 rfl rfl rfl ?_
    refine Rj_sipush (q := 29) d_M_back_26 rfl (by decide +kernel) ?_
    refine Rj_icmp_ge (q := 32) (t := 56) d_M_back_29 rfl (by decide) ⟨by omega, by omega⟩ (by decide) (fun c29 => ?_) (fun c29 => ?_)
    · refine Rj_pre (ls' := [vA 0, vI a]) (t := [vI i]) rfl ?_
      exact hk μ (Fr.refl _ _) (fun j j0 j1 => by omega)
    · refine Rj_aload_n (q := 33) d_M_back_32 rfl rfl rfl ?_
      refine Rj_gr (q := 36) (zd := 11) gM_M_42_0 rfl rfl d_M_back_33 rfl ?_
      refine Rj_iload_n (q := 37) d_M_back_36 rfl rfl rfl ?_
      refine Rj_aload_n (q := 38) d_M_back_37 rfl rfl rfl ?_
      refine Rj_gr (q := 41) (zd := 24) gM_M_86_0 rfl rfl d_M_back_38 rfl ?_
      refine Rj_sipush (q := 44) d_M_back_41 rfl (by decide +kernel) ?_
      refine Rj_iload_n (q := 45) d_M_back_44 rfl rfl rfl ?_
      refine Rj_imul (q := 46) d_M_back_45 rfl ?_
      refine Rj_iload_n (q := 47) d_M_back_46 rfl rfl rfl ?_
      refine Rj_iadd (q := 48) d_M_back_47 rfl ?_
      refine Rj_ia (q := 49) (v := μ 24 ((134 * a) + i)) aM_24 rfl (by omega) rfl d_M_back_48 rfl ?_
      refine Rj_is (q := 50) aM_11 rfl (by omega) d_M_back_49 rfl ?_
      refine Rj_iinc (q := 53) (ls' := [vA 0, vI a, vI (i + 1)]) d_M_back_50 rfl rfl (by decide) rfl ?_
      refine Rj_goto (t := 25) d_M_back_53 (by decide) ?_
      refine ih (μ := (mset μ 11 i (μ 24 ((134 * a) + i)))) (by omega) ha (by omega) (fun m f q => hk m (Fr.trans (Fr.put (Fr.refl _ _) ⟨rfl, by omega, by omega⟩) (Fr.wide f (fun c j q => ⟨q.1, by omega, q.2.2⟩))) (fun j j0 j1 => ?_))
      by_cases e : j = i
      · subst e
        rw [f 11 (j) (by omega), mset_same]
      · rw [q j (by omega) j1]
        exact mset_o (by omega)
set_option maxHeartbeats 4000000 in
theorem s_M_back_58 : ∀ (f : Nat) {μ : Mem} {Q : PV → Mem → Prop} {a i : Int}, ((12 - i).toNat < f) → (0 ≤ a ∧ a ≤ 3) → (0 ≤ i ∧ i ≤ 12) → (∀ μ', Fr (fun c j => c = 12 ∧ i ≤ j ∧ j < 12) μ μ' → (∀ j, i ≤ j → j < 12 → μ' 12 (j) = μ 25 (12 * a + j)) → Rj YM y_M_back 87 [vA 0, vI a] [] μ' Q) → Rj YM y_M_back 58 [vA 0, vI a, vI i] [] μ Q := by
  intro f
  induction f with
  | zero => intro μ Q a i hf ha hi hk; exact absurd hf (by omega)
  | succ f ih =>
    intro μ Q a i hf ha hi hk
    refine Rj_iload_n (q := 59) d_M_back_58 rfl rfl rfl ?_
    refine Rj_bipush (q := 61) d_M_back_59 rfl (by decide +kernel) ?_
    refine Rj_icmp_ge (q := 64) (t := 87) d_M_back_61 rfl (by decide) ⟨by omega, by omega⟩ (by decide) (fun c61 => ?_) (fun c61 => ?_)
    · refine Rj_pre (ls' := [vA 0, vI a]) (t := [vI i]) rfl ?_
      exact hk μ (Fr.refl _ _) (fun j j0 j1 => by omega)
    · refine Rj_aload_n (q := 65) d_M_back_64 rfl rfl rfl ?_
      refine Rj_gr (q := 68) (zd := 12) gM_M_45_0 rfl rfl d_M_back_65 rfl ?_
      refine Rj_iload_n (q := 69) d_M_back_68 rfl rfl rfl ?_
      refine Rj_aload_n (q := 70) d_M_back_69 rfl rfl rfl ?_
      refine Rj_gr (q := 73) (zd := 25) gM_M_89_0 rfl rfl d_M_back_70 rfl ?_
      refine Rj_bipush (q := 75) d_M_back_73 rfl (by decide +kernel) ?_
      refine Rj_iload_n (q := 76) d_M_back_75 rfl rfl rfl ?_
      refine Rj_imul (q := 77) d_M_back_76 rfl ?_
      refine Rj_iload_n (q := 78) d_M_back_77 rfl rfl rfl ?_
      refine Rj_iadd (q := 79) d_M_back_78 rfl ?_
      refine Rj_la (q := 80) (v := μ 25 ((12 * a) + i)) aM_25 rfl (by omega) rfl d_M_back_79 rfl ?_
      refine Rj_lst (q := 81) aM_12 rfl (by omega) d_M_back_80 rfl ?_
      refine Rj_iinc (q := 84) (ls' := [vA 0, vI a, vI (i + 1)]) d_M_back_81 rfl rfl (by decide) rfl ?_
      refine Rj_goto (t := 58) d_M_back_84 (by decide) ?_
      refine ih (μ := (mset μ 12 i (μ 25 ((12 * a) + i)))) (by omega) ha (by omega) (fun m f q => hk m (Fr.trans (Fr.put (Fr.refl _ _) ⟨rfl, by omega, by omega⟩) (Fr.wide f (fun c j q => ⟨q.1, by omega, q.2.2⟩))) (fun j j0 j1 => ?_))
      by_cases e : j = i
      · subst e
        rw [f 12 (j) (by omega), mset_same]
      · rw [q j (by omega) j1]
        exact mset_o (by omega)
abbrev Wim (a : Int) (c : Nat) (j : Int) : Prop := (c = 26 ∧ j = a) ∨ (c = 24 ∧ 134 * a ≤ j ∧ j < 134 * a + 134) ∨ (c = 25 ∧ 12 * a ≤ j ∧ j < 12 * a + 12)
set_option maxHeartbeats 4000000 in
theorem s_M_image_85 {μ : Mem} {Q : PV → Mem → Prop} {a : Int} (h : MX μ) (hQ : Q (vI (opS (μ 11) (pts (μ 11)) (μ 12) (μ 11 0).toNat)) μ) : Rj YM y_M_image 85 [vA 0, vI a] [] μ Q := by
  refine Rj_aload_n (q := 86) d_M_image_85 rfl rfl rfl ?_
  refine Rj_vo (q := 89) (z := y_M_openOnes) (as := []) (rest := []) (la := [vA 0]) oM_0_M_openOnes ml_M_452 mw_M_openOnes mv_M_openOnes rfl d_M_image_86 rfl rfl rfl rfl rfl ?_
  refine s_M_openOnes h ?_
  refine Rj_iret d_M_image_89 rfl ?_
  exact hQ
set_option maxHeartbeats 4000000 in
theorem s_M_image {μ : Mem} {Q : PV → Mem → Prop} {a : Int} (ha : i32 a) (h : MX μ) (h0 : ¬ (0 ≤ a ∧ a ≤ 3) → Q (vI (-1)) μ) (hk : 0 ≤ a ∧ a ≤ 3 → ∀ μ', Fr (Wim a) μ μ' → μ' 26 a = 1 → (∀ j, 0 ≤ j → j < 134 → μ' 24 (134 * a + j) = μ 11 j) → (∀ d, 0 ≤ d → d < 12 → μ' 25 (12 * a + d) = μ 12 d) → Q (vI (opS (μ 11) (pts (μ 11)) (μ 12) (μ 11 0).toNat)) μ') : Rj YM y_M_image 0 [vA 0, vI a] [] μ Q := by
  refine Rj_iload_n (q := 1) d_M_image_0 rfl rfl rfl ?_
  refine Rj_i2l (q := 2) d_M_image_1 rfl (by first | assumption | exact ⟨by omega, by omega⟩) ?_
  refine Rj_lconst (q := 3) (z := 0) d_M_image_2 rfl rfl ?_
  refine Rj_ldc2 (q := 6) k_M_495 d_M_image_3 rfl ?_
  refine Rj_cs (q := 9) (z := y_M_in) (as := [vL a, vL 0, vL 3]) (rest := []) (la := [vL a, vU, vL 0, vU, vL 3, vU]) ml_M_138 mw_M_in ms_M_in d_M_image_6 rfl rfl rfl rfl rfl ?_
  refine s_M_in ⟨by omega, by omega⟩ (by decide) (by decide) ?_
  refine Rj_b_ne (q := 12) (t := 14) d_M_image_9 rfl (by decide) (fun c9 => ?_) (fun c9 => ?_)
  · have c9 := of_decide_eq_true c9
    refine Rj_aload_n (q := 15) d_M_image_14 rfl rfl rfl ?_
    refine Rj_gr (q := 18) (zd := 26) gM_M_92_0 rfl rfl d_M_image_15 rfl ?_
    refine Rj_iload_n (q := 19) d_M_image_18 rfl rfl rfl ?_
    refine Rj_iconst (q := 20) d_M_image_19 rfl ?_
    refine Rj_zs (q := 21) aM_26 rfl (by omega) (by omega) d_M_image_20 rfl ?_
    refine Rj_iconst (q := 22) d_M_image_21 rfl ?_
    refine Rj_istore_n (q := 23) (ls' := [vA 0, vI a, vI 0]) d_M_image_22 rfl rfl (by decide) rfl ?_
    refine s_M_image_23 (μ := mset μ 26 a 1) _ (Nat.lt_succ_self _) c9 (by decide) (fun m1 f1 q1 => ?_)
    refine Rj_iconst (q := 55) d_M_image_54 rfl ?_
    refine Rj_istore_n (q := 56) (ls' := [vA 0, vI a, vI 0]) d_M_image_55 rfl rfl (by decide) rfl ?_
    refine s_M_image_56 (μ := m1) _ (Nat.lt_succ_self _) c9 (by decide) (fun m2 f2 q2 => ?_)
    have fr : Fr (Wim a) μ m2 := ((Fr.put (Fr.refl _ _) (Or.inl ⟨rfl, rfl⟩)).trans (Fr.wide f1 (fun c j q => by unfold Wim; omega))).trans (Fr.wide f2 (fun c j q => by unfold Wim; omega))
    have r : ∀ c, (c < 24 ∨ 26 < c) → m2 c = μ c := fun c h => fr.row (fun i q => by unfold Wim at q; omega)
    have hm : MX m2 := by
      unfold MX
      rw [r 11 (by omega), r 12 (by omega), r 14 (by omega), r 15 (by omega), r 16 (by omega), r 17 (by omega), r 0 (by omega)]
      exact h
    have hk := hk c9 m2 fr ?_ (fun j j0 j1 => ?_) (fun d d0 d1 => ?_)
    · exact s_M_image_85 hm (by rw [r 11 (by omega), r 12 (by omega)]; exact hk)
    · rw [f2 26 a (by omega), f1 26 a (by omega), mset_same]
    · rw [f2 24 _ (by omega)]; exact q1 j j0 j1
    · rw [q2 d d0 d1]
      rw [f1 12 d (by omega)]; rfl
  · have c9 := of_decide_eq_false c9
    refine Rj_iconst (q := 13) d_M_image_12 rfl ?_
    refine Rj_iret d_M_image_13 rfl ?_
    exact h0 c9
set_option maxHeartbeats 4000000 in
theorem s_M_back_87 {μ : Mem} {Q : PV → Mem → Prop} {a : Int} (hS : StrOK (μ 11)) (hB : PB (μ 12)) (hF : 0 ≤ μ 11 2 ∧ μ 11 2 < 4096) (hQ : ∀ μ', Fr Whs μ μ' → MX μ' → Q (vI (opS (μ 11) (pts (μ 11)) (μ 12) (μ 11 0).toNat)) μ') : Rj YM y_M_back 87 [vA 0, vI a] [] μ Q := by
  refine Rj_aload_n (q := 88) d_M_back_87 rfl rfl rfl ?_
  refine Rj_vov (q := 91) (z := y_M_hangs) (as := []) (rest := []) (la := [vA 0]) oM_0_M_hangs ml_M_279 mw_M_hangs mv_M_hangs rfl d_M_back_88 rfl rfl rfl rfl rfl ?_
  refine s_M_hangs hS (fun m f e1 e2 => ?_)
  have r11 : m 11 = μ 11 := f.row (fun i q => by unfold Whs at q; omega)
  have r12 : m 12 = μ 12 := f.row (fun i q => by unfold Whs at q; omega)
  have hm : MX m := by
    unfold MX
    rw [r11, r12]
    exact ⟨hS, e2, e1, hB, hF⟩
  refine Rj_aload_n (q := 92) d_M_back_91 rfl rfl rfl ?_
  refine Rj_vo (q := 95) (z := y_M_openOnes) (as := []) (rest := []) (la := [vA 0]) oM_0_M_openOnes ml_M_452 mw_M_openOnes mv_M_openOnes rfl d_M_back_92 rfl rfl rfl rfl rfl ?_
  refine s_M_openOnes hm ?_
  refine Rj_iret d_M_back_95 rfl ?_
  rw [r11, r12]
  exact hQ m f hm
set_option maxHeartbeats 4000000 in
theorem s_M_back {μ : Mem} {Q : PV → Mem → Prop} {a : Int} (ha : i32 a) (hm01 : 0 ≤ a → a ≤ 3 → μ 26 a = 0 ∨ μ 26 a = 1) (h0 : (¬ (0 ≤ a ∧ a ≤ 3) ∨ μ 26 a = 0) → Q (vI (-1)) μ) (hk : 0 ≤ a ∧ a ≤ 3 → μ 26 a = 1 → ∀ ν, Fr (fun c _ => c = 11 ∨ c = 12) μ ν → (∀ j, 0 ≤ j → j < 134 → ν 11 j = μ 24 (134 * a + j)) → (∀ d, 0 ≤ d → d < 12 → ν 12 d = μ 25 (12 * a + d)) → StrOK (ν 11) ∧ PB (ν 12) ∧ (0 ≤ ν 11 2 ∧ ν 11 2 < 4096) ∧ ∀ μ', Fr Whs ν μ' → MX μ' → Q (vI (opS (ν 11) (pts (ν 11)) (ν 12) (ν 11 0).toNat)) μ') : Rj YM y_M_back 0 [vA 0, vI a] [] μ Q := by
  refine Rj_iload_n (q := 1) d_M_back_0 rfl rfl rfl ?_
  refine Rj_i2l (q := 2) d_M_back_1 rfl (by first | assumption | exact ⟨by omega, by omega⟩) ?_
  refine Rj_lconst (q := 3) (z := 0) d_M_back_2 rfl rfl ?_
  refine Rj_ldc2 (q := 6) k_M_495 d_M_back_3 rfl ?_
  refine Rj_cs (q := 9) (z := y_M_in) (as := [vL a, vL 0, vL 3]) (rest := []) (la := [vL a, vU, vL 0, vU, vL 3, vU]) ml_M_138 mw_M_in ms_M_in d_M_back_6 rfl rfl rfl rfl rfl ?_
  refine s_M_in ⟨by omega, by omega⟩ (by decide) (by decide) ?_
  refine Rj_b_eq (q := 12) (t := 21) d_M_back_9 rfl (by decide) (fun c9 => ?_) (fun c9 => ?_)
  · have c9 := of_decide_eq_false c9
    refine Rj_iconst (q := 22) d_M_back_21 rfl ?_
    refine Rj_iret d_M_back_22 rfl ?_
    exact h0 (by omega)
  · have c9 := of_decide_eq_true c9
    have h01 := hm01 c9.1 c9.2
    refine Rj_aload_n (q := 13) d_M_back_12 rfl rfl rfl ?_
    refine Rj_gr (q := 16) (zd := 26) gM_M_92_0 rfl rfl d_M_back_13 rfl ?_
    refine Rj_iload_n (q := 17) d_M_back_16 rfl rfl rfl ?_
    refine Rj_za (q := 18) (v := μ 26 a) aM_26 rfl (by omega) rfl d_M_back_17 rfl ?_
    refine Rj_if_ne (q := 21) (t := 23) d_M_back_18 rfl (by decide) (by first | assumption | exact ⟨by omega, by omega⟩) (fun c18 => ?_) (fun c18 => ?_)
    · refine Rj_iconst (q := 24) d_M_back_23 rfl ?_
      refine Rj_istore_n (q := 25) (ls' := [vA 0, vI a, vI 0]) d_M_back_24 rfl rfl (by decide) rfl ?_
      refine s_M_back_25 (μ := μ) _ (Nat.lt_succ_self _) c9 (by decide) (fun m1 f1 q1 => ?_)
      refine Rj_iconst (q := 57) d_M_back_56 rfl ?_
      refine Rj_istore_n (q := 58) (ls' := [vA 0, vI a, vI 0]) d_M_back_57 rfl rfl (by decide) rfl ?_
      refine s_M_back_58 (μ := m1) _ (Nat.lt_succ_self _) c9 (by decide) (fun m2 f2 q2 => ?_)
      have fr : Fr (fun c _ => c = 11 ∨ c = 12) μ m2 := (Fr.wide f1 (fun c j q => Or.inl q.1)).trans (Fr.wide f2 (fun c j q => Or.inr q.1))
      obtain ⟨k1, k2, k3, k4⟩ := hk c9 (by omega) m2 fr (fun j j0 j1 => by rw [f2 11 j (by omega)]; exact q1 j j0 j1) (fun d d0 d1 => by rw [q2 d d0 d1, f1 25 _ (by omega)])
      exact s_M_back_87 k1 k2 k3 k4
    · refine Rj_iconst (q := 22) d_M_back_21 rfl ?_
      refine Rj_iret d_M_back_22 rfl ?_
      exact h0 (by omega)
