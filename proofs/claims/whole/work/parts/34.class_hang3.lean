theorem oD_59_Ge_agrees : OI YD 59 y_Ge_agrees := ⟨by decide, _, _, _, cD_59, rfl⟩
theorem gD_Ge_55_59 : GI YD "DoorsOnCogs$Gears" 55 59 7 none := ⟨by decide, _, _, _, fl_Ge_55, cD_59, by decide, rfl⟩
theorem oD_59_Ge_setOf : OI YD 59 y_Ge_setOf := ⟨by decide, _, _, _, cD_59, rfl⟩
theorem pD_Ge_55_59 : PI YD "DoorsOnCogs$Gears" 55 59 7 none .int := ⟨by decide, _, _, _, fl_Ge_55, fp_2_7, cD_59, by decide, rfl⟩
theorem oD_67_Ge_agrees : OI YD 67 y_Ge_agrees := ⟨by decide, _, _, _, cD_67, rfl⟩
theorem gD_Ge_55_67 : GI YD "DoorsOnCogs$Gears" 55 67 7 none := ⟨by decide, _, _, _, fl_Ge_55, cD_67, by decide, rfl⟩
theorem oD_67_Ge_setOf : OI YD 67 y_Ge_setOf := ⟨by decide, _, _, _, cD_67, rfl⟩
theorem pD_Ge_55_67 : PI YD "DoorsOnCogs$Gears" 55 67 7 none .int := ⟨by decide, _, _, _, fl_Ge_55, fp_2_7, cD_67, by decide, rfl⟩
/-! the class hangs all its doors: the locked ones; hang as a whole -/
set_option maxHeartbeats 4000000 in
theorem s_hang_59_65 : ∀ (f : Nat) {μ : Mem} {Q : PV → Mem → Prop} {S : Int → Int} {w j : Int}, ((S 1 - j).toNat < f) → (StrOK S) → (GS μ S) → (∀ y, 0 ≤ y → y < S 0 → -1 ≤ μ 60 y ∧ μ 60 y < 12) → (∀ d, 0 ≤ d → d < S 0 → (-216000 ≤ μ 61 d ∧ μ 61 d ≤ 216000) ∧ (0 < μ 62 d ∧ μ 62 d ≤ 216000)) → (0 ≤ w ∧ w ≤ 65535) → (0 ≤ j ∧ j ≤ S 1) → ((0 ≤ μ 59 7 ∧ μ 59 7 < 4096) ∧ ∀ k, 0 ≤ k → (zbit (μ 59 7) k = 1 ↔ k < S 0 ∧ lkU S w (μ 60) (μ 61) (μ 62) (j) k)) → (∀ μ', Fr Wh59 μ μ' → (μ' 60 = μ 60) → (μ' 61 = μ 61 ∧ μ' 62 = μ 62) → ((0 ≤ μ' 59 7 ∧ μ' 59 7 < 4096) ∧ ∀ k, 0 ≤ k → (zbit (μ' 59 7) k = 1 ↔ k < S 0 ∧ lkU S w (μ' 60) (μ' 61) (μ' 62) (S 1) k)) → μ' 59 8 = μ 59 8 → Q vU μ') → Rj YD y_Ge_hang 65 [vA 59, vI w, vI j] [] μ Q := by
  intro f
  induction f with
  | zero => intro μ Q S w j hf hS hG hlo hb hw hj hl hk; exact absurd hf (by omega)
  | succ f ih =>
    intro μ Q S w j hf hS hG hlo hb hw hj hl hk
    obtain ⟨hS0, hS1, hS2, hS3, hS4⟩ := id hS
    obtain ⟨G0, G1, G4, G6⟩ := id hG
    refine Rj_iload_n (q := 66) d_Ge_hang_65 rfl rfl rfl ?_
    refine Rj_aload_n (q := 67) d_Ge_hang_66 rfl rfl rfl ?_
    refine Rj_gr (q := 70) (zd := 3) gD_Ge_31_59 rfl rfl d_Ge_hang_67 rfl ?_
    refine Rj_gi (q := 73) (ki := 4) (v := μ 3 4) gD_Ge_67_3 rfl rfl rfl d_Ge_hang_70 rfl ?_
    refine Rj_icmp_ge (q := 76) (t := 120) d_Ge_hang_73 rfl (by decide) ⟨by omega, by omega⟩ ⟨by omega, by omega⟩ (fun c73 => ?_) (fun c73 => ?_)
    · have ej : j = S 1 := by omega
      subst ej
      refine Rj_vret d_Ge_hang_120 rfl ?_
      exact hk μ (Fr.refl _ _) rfl ⟨rfl, rfl⟩ hl rfl
    · have hlt : j < S 1 := by omega
      obtain ⟨e6, e7, e8⟩ := G6 j hj.1 hlt
      obtain ⟨ka, kb, kne, kk⟩ := hS3 j hj.1 hlt
      have zb := zbit_01 w j
      refine Rj_iload_n (q := 77) d_Ge_hang_76 rfl rfl rfl ?_
      refine Rj_iload_n (q := 78) d_Ge_hang_77 rfl rfl rfl ?_
      refine Rj_cs (q := 81) (z := y_D_bitOf) (as := [vI w, vI j]) (rest := []) (la := [vI w, vI j]) ml_Ge_70 mw_D_bitOf ms_D_bitOf d_Ge_hang_78 rfl rfl rfl rfl rfl ?_
      refine s_D_bitOf (by omega) (by omega) ?_
      refine Rj_if_ne (q := 84) (t := 114) d_Ge_hang_81 rfl (by decide) ⟨by omega, by omega⟩ (fun c81 => ?_) (fun c81 => ?_)
      · refine Rj_iinc (q := 117) (ls' := [vA 59, vI w, vI (j + 1)]) d_Ge_hang_114 rfl rfl (by decide) rfl ?_
        refine Rj_goto (t := 65) d_Ge_hang_117 (by decide) ?_
        exact ih (by omega) hS hG hlo hb hw (by omega) ⟨hl.1, fun k hk0 => (hl.2 k hk0).trans ⟨fun q => ⟨q.1, lkU_step.mpr (Or.inl q.2)⟩, fun q => ⟨q.1, (lkU_step.mp q.2).elim id (fun q' => by first | exact absurd q86 q'.2.2 | exact absurd q'.1.2.2 (by omega))⟩⟩⟩ hk
      · have hact : act S w j := ⟨hj.1, hlt, by omega⟩
        refine Rj_aload_n (q := 85) d_Ge_hang_84 rfl rfl rfl ?_
        refine Rj_iload_n (q := 86) d_Ge_hang_85 rfl rfl rfl ?_
        refine Rj_vo (q := 89) (z := y_Ge_agrees) (as := [vI j]) (rest := []) (la := [vA 59, vI j]) oD_59_Ge_agrees ml_Ge_74 mw_Ge_agrees mv_Ge_agrees rfl d_Ge_hang_86 rfl rfl rfl rfl rfl ?_
        refine s_agrees_59 (w := w) hS hG ⟨hj.1, hlt⟩ hb (fun q86 => ?_) (fun q86 => ?_)
        · have z86 := True.intro
          refine Rj_if_ne (q := 92) (t := 114) d_Ge_hang_89 rfl (by decide) (by decide) (fun _ => ?_) (fun c => absurd c (by decide))
          refine Rj_iinc (q := 117) (ls' := [vA 59, vI w, vI (j + 1)]) d_Ge_hang_114 rfl rfl (by decide) rfl ?_
          refine Rj_goto (t := 65) d_Ge_hang_117 (by decide) ?_
          exact ih (by omega) hS hG hlo hb hw (by omega) ⟨hl.1, fun k hk0 => (hl.2 k hk0).trans ⟨fun q => ⟨q.1, lkU_step.mpr (Or.inl q.2)⟩, fun q => ⟨q.1, (lkU_step.mp q.2).elim id (fun q' => by first | exact absurd q86 q'.2.2 | exact absurd q'.1.2.2 (by omega))⟩⟩⟩ hk
        · have z86 := True.intro
          refine Rj_if_ne (q := 92) (t := 114) d_Ge_hang_89 rfl (by decide) (by decide) (fun c => absurd c (by decide)) (fun _ => ?_)
          refine Rj_aload_n (q := 93) d_Ge_hang_92 rfl rfl rfl ?_
          refine Rj_dup (q := 94) d_Ge_hang_93 rfl (by intro h; cases h) ?_
          refine Rj_gi (q := 97) (ki := 7) (v := μ 59 7) gD_Ge_55_59 rfl rfl rfl d_Ge_hang_94 rfl ?_
          refine Rj_aload_n (q := 98) d_Ge_hang_97 rfl rfl rfl ?_
          refine Rj_aload_n (q := 99) d_Ge_hang_98 rfl rfl rfl ?_
          refine Rj_gr (q := 102) (zd := 3) gD_Ge_31_59 rfl rfl d_Ge_hang_99 rfl ?_
          refine Rj_gr (q := 105) (zd := 6) gD_Ge_78_3 rfl rfl d_Ge_hang_102 rfl ?_
          refine Rj_iload_n (q := 106) d_Ge_hang_105 rfl rfl rfl ?_
          refine Rj_ia (q := 107) (v := jn S j 0) aD_6 rfl (by omega) e6 d_Ge_hang_106 rfl ?_
          refine Rj_vo (q := 110) (z := y_Ge_setOf) (as := [vI (jn S j 0)]) (rest := [vI (μ 59 7), vA 59]) (la := [vA 59, vI (jn S j 0)]) oD_59_Ge_setOf ml_Ge_81 mw_Ge_setOf mv_Ge_setOf rfl d_Ge_hang_107 rfl rfl rfl rfl rfl ?_
          refine s_setOf_59 hS hG ka hlo (fun s107 r107 b107 => ?_)
          refine Rj_ior (q := 111) (z := z_or (μ 59 7) s107) d_Ge_hang_110 rfl rfl ?_
          refine Rj_pi (q := 114) (ki := 7) pD_Ge_55_59 rfl rfl d_Ge_hang_111 rfl ?_
          refine Rj_iinc (q := 117) (ls' := [vA 59, vI w, vI (j + 1)]) d_Ge_hang_114 rfl rfl (by decide) rfl ?_
          refine Rj_goto (t := 65) d_Ge_hang_117 (by decide) ?_
          have fr : Fr Wh59 μ ((mset μ 59 7 (z_or (μ 59 7) s107))) := Fr.put (Fr.refl _ _) (by unfold Wh59; omega)
          have orr := z_or_rng (a := μ 59 7) (b := s107) (n := 12) (by decide) hl.1 r107
          refine ih (μ := (mset μ 59 7 (z_or (μ 59 7) s107))) (by omega) hS (hG.h59 fr) (by simpa [mset_nc] using hlo) (by simpa [mset_nc] using hb) hw (by omega) ⟨by rw [mset_same]; exact orr, fun k hk0 => ?_⟩ (fun m2 f2 h2 h3 h4 h5 => ?_)
          · rw [mset_same, mset_nc _ _ _ _ _ (by decide), mset_nc _ _ _ _ _ (by decide), mset_nc _ _ _ _ _ (by decide)]
            rw [zbit_or (by omega) (by omega) hk0, hl.2 k hk0, b107 k hk0, lkU_step]
            constructor
            · rintro (⟨q1, q2⟩ | ⟨q1, q2⟩)
              · exact ⟨q1, Or.inl q2⟩
              · exact ⟨q1, Or.inr ⟨hact, q2.symm, q86⟩⟩
            · rintro ⟨q1, q2 | q2⟩
              · exact Or.inl ⟨q1, q2⟩
              · exact Or.inr ⟨q1, q2.2.1.symm⟩
          · have h5 : m2 59 8 = μ 59 8 := h5
            exact hk m2 (fr.trans f2) h2 h3 h4 h5
set_option maxHeartbeats 4000000 in
theorem s_hang_59 {μ : Mem} {Q : PV → Mem → Prop} {S : Int → Int} {w : Int} (hS : StrOK S) (hG : GS μ S) (hw : 0 ≤ w ∧ w ≤ 65535) (hk : ∀ μ', Fr Wh59 μ μ' → HI S w (S 0) (S 0) (μ' 60) (μ' 61) (μ' 62) → μ' 59 8 = ((cntB (fun k => decide (μ' 60 (k : Int) = (k : Int))) (S 0).toNat : Nat) : Int) → (0 ≤ μ' 59 7 ∧ μ' 59 7 < 4096) → (∀ k, 0 ≤ k → (zbit (μ' 59 7) k = 1 ↔ k < S 0 ∧ lkP S w (μ' 60) (μ' 61) (μ' 62) k)) → Q vU μ') : Rj YD y_Ge_hang 0 [vA 59, vI w] [] μ Q := by
  have hS0 := hS.1
  refine Rj_aload_n (q := 1) d_Ge_hang_0 rfl rfl rfl ?_
  refine Rj_gr (q := 4) (zd := 60) gD_Ge_9_59 rfl rfl d_Ge_hang_1 rfl ?_
  refine Rj_iconst (q := 5) d_Ge_hang_4 rfl ?_
  refine Rj_csv (q := 8) (z := y_Jarr_fill_aII) (as := [vA 60, vI (-1)]) (rest := []) (la := [vA 60, vI (-1)]) ml_Ge_48 mw_Jarr_fill_aII ms_Jarr_fill_aII d_Ge_hang_5 rfl rfl rfl rfl rfl ?_
  refine s_Jarr_fill_aII aD_60 rfl (fun m5 f5 q5 => ?_)
  refine Rj_aload_n (q := 9) d_Ge_hang_8 rfl rfl rfl ?_
  refine Rj_iconst (q := 10) d_Ge_hang_9 rfl ?_
  refine Rj_pi (q := 13) (ki := 8) pD_Ge_51_59 rfl rfl d_Ge_hang_10 rfl ?_
  refine Rj_aload_n (q := 14) d_Ge_hang_13 rfl rfl rfl ?_
  refine Rj_iconst (q := 15) d_Ge_hang_14 rfl ?_
  refine Rj_pi (q := 18) (ki := 7) pD_Ge_55_59 rfl rfl d_Ge_hang_15 rfl ?_
  refine Rj_iconst (q := 19) d_Ge_hang_18 rfl ?_
  refine Rj_istore_n (q := 20) (ls' := [vA 59, vI w, vI 0]) d_Ge_hang_19 rfl rfl (by decide) rfl ?_
  have fr : Fr Wh59 μ ((mset (mset m5 59 8 0) 59 7 0)) := (Fr.put (Fr.put (Fr.trans (Fr.refl _ _) (Fr.wide f5 (fun c i h => by subst h; simp [Wh59]))) (by decide)) (by decide))
  refine s_hang_59_20 (μ := (mset (mset m5 59 8 0) 59 7 0)) _ (Nat.lt_succ_self _) hS (hG.h59 fr) (HI_start (fun d q1 q2 => by simpa [mset_nc] using q5 d q1 (show d < ((12 : Nat) : Int) by omega))) hw (by omega) rfl (fun m1 f1 h1 h2 h3 => ?_)
  refine Rj_iconst (q := 64) d_Ge_hang_63 rfl ?_
  refine Rj_istore_n (q := 65) (ls' := [vA 59, vI w, vI 0]) d_Ge_hang_64 rfl rfl (by decide) rfl ?_
  have h3 : m1 59 7 = 0 := h3
  obtain ⟨a1, a2, -⟩ := id h1
  refine s_hang_59_65 (μ := m1) (S := S) _ (Nat.lt_succ_self _) hS (hG.h59 (fr.trans f1)) (fun y q1 q2 => by have := a1 y q1 q2; omega) (fun d q1 q2 => HI_bd hS h1 d q1 q2 (a2 d q1 q2 q2)) hw ⟨by decide, hS.2.1.1⟩ ⟨by rw [h3]; decide, fun k q1 => by
    rw [h3, zbit_0]
    refine ⟨fun q => absurd q (by decide), ?_⟩
    rintro ⟨-, i, q2, q3, -⟩
    have := q3.1; omega⟩ (fun m2 f2 e2 e3 e4 e5 => ?_)
  refine hk m2 ((fr.trans f1).trans f2) (by rw [e2, e3.1, e3.2]; exact h1) (by rw [e5, e2]; exact h2) e4.1 (fun k q1 => ?_)
  exact (e4.2 k q1).trans ⟨fun q => ⟨q.1, lkU_all.mp q.2⟩, fun q => ⟨q.1, lkU_all.mpr q.2⟩⟩
set_option maxHeartbeats 4000000 in
theorem s_hang_67_65 : ∀ (f : Nat) {μ : Mem} {Q : PV → Mem → Prop} {S : Int → Int} {w j : Int}, ((S 1 - j).toNat < f) → (StrOK S) → (GS μ S) → (∀ y, 0 ≤ y → y < S 0 → -1 ≤ μ 68 y ∧ μ 68 y < 12) → (∀ d, 0 ≤ d → d < S 0 → (-216000 ≤ μ 69 d ∧ μ 69 d ≤ 216000) ∧ (0 < μ 70 d ∧ μ 70 d ≤ 216000)) → (0 ≤ w ∧ w ≤ 65535) → (0 ≤ j ∧ j ≤ S 1) → ((0 ≤ μ 67 7 ∧ μ 67 7 < 4096) ∧ ∀ k, 0 ≤ k → (zbit (μ 67 7) k = 1 ↔ k < S 0 ∧ lkU S w (μ 68) (μ 69) (μ 70) (j) k)) → (∀ μ', Fr Wh67 μ μ' → (μ' 68 = μ 68) → (μ' 69 = μ 69 ∧ μ' 70 = μ 70) → ((0 ≤ μ' 67 7 ∧ μ' 67 7 < 4096) ∧ ∀ k, 0 ≤ k → (zbit (μ' 67 7) k = 1 ↔ k < S 0 ∧ lkU S w (μ' 68) (μ' 69) (μ' 70) (S 1) k)) → μ' 67 8 = μ 67 8 → Q vU μ') → Rj YD y_Ge_hang 65 [vA 67, vI w, vI j] [] μ Q := by
  intro f
  induction f with
  | zero => intro μ Q S w j hf hS hG hlo hb hw hj hl hk; exact absurd hf (by omega)
  | succ f ih =>
    intro μ Q S w j hf hS hG hlo hb hw hj hl hk
    obtain ⟨hS0, hS1, hS2, hS3, hS4⟩ := id hS
    obtain ⟨G0, G1, G4, G6⟩ := id hG
    refine Rj_iload_n (q := 66) d_Ge_hang_65 rfl rfl rfl ?_
    refine Rj_aload_n (q := 67) d_Ge_hang_66 rfl rfl rfl ?_
    refine Rj_gr (q := 70) (zd := 3) gD_Ge_31_67 rfl rfl d_Ge_hang_67 rfl ?_
    refine Rj_gi (q := 73) (ki := 4) (v := μ 3 4) gD_Ge_67_3 rfl rfl rfl d_Ge_hang_70 rfl ?_
    refine Rj_icmp_ge (q := 76) (t := 120) d_Ge_hang_73 rfl (by decide) ⟨by omega, by omega⟩ ⟨by omega, by omega⟩ (fun c73 => ?_) (fun c73 => ?_)
    · have ej : j = S 1 := by omega
      subst ej
      refine Rj_vret d_Ge_hang_120 rfl ?_
      exact hk μ (Fr.refl _ _) rfl ⟨rfl, rfl⟩ hl rfl
    · have hlt : j < S 1 := by omega
      obtain ⟨e6, e7, e8⟩ := G6 j hj.1 hlt
      obtain ⟨ka, kb, kne, kk⟩ := hS3 j hj.1 hlt
      have zb := zbit_01 w j
      refine Rj_iload_n (q := 77) d_Ge_hang_76 rfl rfl rfl ?_
      refine Rj_iload_n (q := 78) d_Ge_hang_77 rfl rfl rfl ?_
      refine Rj_cs (q := 81) (z := y_D_bitOf) (as := [vI w, vI j]) (rest := []) (la := [vI w, vI j]) ml_Ge_70 mw_D_bitOf ms_D_bitOf d_Ge_hang_78 rfl rfl rfl rfl rfl ?_
      refine s_D_bitOf (by omega) (by omega) ?_
      refine Rj_if_ne (q := 84) (t := 114) d_Ge_hang_81 rfl (by decide) ⟨by omega, by omega⟩ (fun c81 => ?_) (fun c81 => ?_)
      · refine Rj_iinc (q := 117) (ls' := [vA 67, vI w, vI (j + 1)]) d_Ge_hang_114 rfl rfl (by decide) rfl ?_
        refine Rj_goto (t := 65) d_Ge_hang_117 (by decide) ?_
        exact ih (by omega) hS hG hlo hb hw (by omega) ⟨hl.1, fun k hk0 => (hl.2 k hk0).trans ⟨fun q => ⟨q.1, lkU_step.mpr (Or.inl q.2)⟩, fun q => ⟨q.1, (lkU_step.mp q.2).elim id (fun q' => by first | exact absurd q86 q'.2.2 | exact absurd q'.1.2.2 (by omega))⟩⟩⟩ hk
      · have hact : act S w j := ⟨hj.1, hlt, by omega⟩
        refine Rj_aload_n (q := 85) d_Ge_hang_84 rfl rfl rfl ?_
        refine Rj_iload_n (q := 86) d_Ge_hang_85 rfl rfl rfl ?_
        refine Rj_vo (q := 89) (z := y_Ge_agrees) (as := [vI j]) (rest := []) (la := [vA 67, vI j]) oD_67_Ge_agrees ml_Ge_74 mw_Ge_agrees mv_Ge_agrees rfl d_Ge_hang_86 rfl rfl rfl rfl rfl ?_
        refine s_agrees_67 (w := w) hS hG ⟨hj.1, hlt⟩ hb (fun q86 => ?_) (fun q86 => ?_)
        · have z86 := True.intro
          refine Rj_if_ne (q := 92) (t := 114) d_Ge_hang_89 rfl (by decide) (by decide) (fun _ => ?_) (fun c => absurd c (by decide))
          refine Rj_iinc (q := 117) (ls' := [vA 67, vI w, vI (j + 1)]) d_Ge_hang_114 rfl rfl (by decide) rfl ?_
          refine Rj_goto (t := 65) d_Ge_hang_117 (by decide) ?_
          exact ih (by omega) hS hG hlo hb hw (by omega) ⟨hl.1, fun k hk0 => (hl.2 k hk0).trans ⟨fun q => ⟨q.1, lkU_step.mpr (Or.inl q.2)⟩, fun q => ⟨q.1, (lkU_step.mp q.2).elim id (fun q' => by first | exact absurd q86 q'.2.2 | exact absurd q'.1.2.2 (by omega))⟩⟩⟩ hk
        · have z86 := True.intro
          refine Rj_if_ne (q := 92) (t := 114) d_Ge_hang_89 rfl (by decide) (by decide) (fun c => absurd c (by decide)) (fun _ => ?_)
          refine Rj_aload_n (q := 93) d_Ge_hang_92 rfl rfl rfl ?_
          refine Rj_dup (q := 94) d_Ge_hang_93 rfl (by intro h; cases h) ?_
          refine Rj_gi (q := 97) (ki := 7) (v := μ 67 7) gD_Ge_55_67 rfl rfl rfl d_Ge_hang_94 rfl ?_
          refine Rj_aload_n (q := 98) d_Ge_hang_97 rfl rfl rfl ?_
          refine Rj_aload_n (q := 99) d_Ge_hang_98 rfl rfl rfl ?_
          refine Rj_gr (q := 102) (zd := 3) gD_Ge_31_67 rfl rfl d_Ge_hang_99 rfl ?_
          refine Rj_gr (q := 105) (zd := 6) gD_Ge_78_3 rfl rfl d_Ge_hang_102 rfl ?_
          refine Rj_iload_n (q := 106) d_Ge_hang_105 rfl rfl rfl ?_
          refine Rj_ia (q := 107) (v := jn S j 0) aD_6 rfl (by omega) e6 d_Ge_hang_106 rfl ?_
          refine Rj_vo (q := 110) (z := y_Ge_setOf) (as := [vI (jn S j 0)]) (rest := [vI (μ 67 7), vA 67]) (la := [vA 67, vI (jn S j 0)]) oD_67_Ge_setOf ml_Ge_81 mw_Ge_setOf mv_Ge_setOf rfl d_Ge_hang_107 rfl rfl rfl rfl rfl ?_
          refine s_setOf_67 hS hG ka hlo (fun s107 r107 b107 => ?_)
          refine Rj_ior (q := 111) (z := z_or (μ 67 7) s107) d_Ge_hang_110 rfl rfl ?_
          refine Rj_pi (q := 114) (ki := 7) pD_Ge_55_67 rfl rfl d_Ge_hang_111 rfl ?_
          refine Rj_iinc (q := 117) (ls' := [vA 67, vI w, vI (j + 1)]) d_Ge_hang_114 rfl rfl (by decide) rfl ?_
          refine Rj_goto (t := 65) d_Ge_hang_117 (by decide) ?_
          have fr : Fr Wh67 μ ((mset μ 67 7 (z_or (μ 67 7) s107))) := Fr.put (Fr.refl _ _) (by unfold Wh67; omega)
          have orr := z_or_rng (a := μ 67 7) (b := s107) (n := 12) (by decide) hl.1 r107
          refine ih (μ := (mset μ 67 7 (z_or (μ 67 7) s107))) (by omega) hS (hG.h67 fr) (by simpa [mset_nc] using hlo) (by simpa [mset_nc] using hb) hw (by omega) ⟨by rw [mset_same]; exact orr, fun k hk0 => ?_⟩ (fun m2 f2 h2 h3 h4 h5 => ?_)
          · rw [mset_same, mset_nc _ _ _ _ _ (by decide), mset_nc _ _ _ _ _ (by decide), mset_nc _ _ _ _ _ (by decide)]
            rw [zbit_or (by omega) (by omega) hk0, hl.2 k hk0, b107 k hk0, lkU_step]
            constructor
            · rintro (⟨q1, q2⟩ | ⟨q1, q2⟩)
              · exact ⟨q1, Or.inl q2⟩
              · exact ⟨q1, Or.inr ⟨hact, q2.symm, q86⟩⟩
            · rintro ⟨q1, q2 | q2⟩
              · exact Or.inl ⟨q1, q2⟩
              · exact Or.inr ⟨q1, q2.2.1.symm⟩
          · have h5 : m2 67 8 = μ 67 8 := h5
            exact hk m2 (fr.trans f2) h2 h3 h4 h5
set_option maxHeartbeats 4000000 in
theorem s_hang_67 {μ : Mem} {Q : PV → Mem → Prop} {S : Int → Int} {w : Int} (hS : StrOK S) (hG : GS μ S) (hw : 0 ≤ w ∧ w ≤ 65535) (hk : ∀ μ', Fr Wh67 μ μ' → HI S w (S 0) (S 0) (μ' 68) (μ' 69) (μ' 70) → μ' 67 8 = ((cntB (fun k => decide (μ' 68 (k : Int) = (k : Int))) (S 0).toNat : Nat) : Int) → (0 ≤ μ' 67 7 ∧ μ' 67 7 < 4096) → (∀ k, 0 ≤ k → (zbit (μ' 67 7) k = 1 ↔ k < S 0 ∧ lkP S w (μ' 68) (μ' 69) (μ' 70) k)) → Q vU μ') : Rj YD y_Ge_hang 0 [vA 67, vI w] [] μ Q := by
  have hS0 := hS.1
  refine Rj_aload_n (q := 1) d_Ge_hang_0 rfl rfl rfl ?_
  refine Rj_gr (q := 4) (zd := 68) gD_Ge_9_67 rfl rfl d_Ge_hang_1 rfl ?_
  refine Rj_iconst (q := 5) d_Ge_hang_4 rfl ?_
  refine Rj_csv (q := 8) (z := y_Jarr_fill_aII) (as := [vA 68, vI (-1)]) (rest := []) (la := [vA 68, vI (-1)]) ml_Ge_48 mw_Jarr_fill_aII ms_Jarr_fill_aII d_Ge_hang_5 rfl rfl rfl rfl rfl ?_
  refine s_Jarr_fill_aII aD_68 rfl (fun m5 f5 q5 => ?_)
  refine Rj_aload_n (q := 9) d_Ge_hang_8 rfl rfl rfl ?_
  refine Rj_iconst (q := 10) d_Ge_hang_9 rfl ?_
  refine Rj_pi (q := 13) (ki := 8) pD_Ge_51_67 rfl rfl d_Ge_hang_10 rfl ?_
  refine Rj_aload_n (q := 14) d_Ge_hang_13 rfl rfl rfl ?_
  refine Rj_iconst (q := 15) d_Ge_hang_14 rfl ?_
  refine Rj_pi (q := 18) (ki := 7) pD_Ge_55_67 rfl rfl d_Ge_hang_15 rfl ?_
  refine Rj_iconst (q := 19) d_Ge_hang_18 rfl ?_
  refine Rj_istore_n (q := 20) (ls' := [vA 67, vI w, vI 0]) d_Ge_hang_19 rfl rfl (by decide) rfl ?_
  have fr : Fr Wh67 μ ((mset (mset m5 67 8 0) 67 7 0)) := (Fr.put (Fr.put (Fr.trans (Fr.refl _ _) (Fr.wide f5 (fun c i h => by subst h; simp [Wh67]))) (by decide)) (by decide))
  refine s_hang_67_20 (μ := (mset (mset m5 67 8 0) 67 7 0)) _ (Nat.lt_succ_self _) hS (hG.h67 fr) (HI_start (fun d q1 q2 => by simpa [mset_nc] using q5 d q1 (show d < ((12 : Nat) : Int) by omega))) hw (by omega) rfl (fun m1 f1 h1 h2 h3 => ?_)
  refine Rj_iconst (q := 64) d_Ge_hang_63 rfl ?_
  refine Rj_istore_n (q := 65) (ls' := [vA 67, vI w, vI 0]) d_Ge_hang_64 rfl rfl (by decide) rfl ?_
  have h3 : m1 67 7 = 0 := h3
  obtain ⟨a1, a2, -⟩ := id h1
  refine s_hang_67_65 (μ := m1) (S := S) _ (Nat.lt_succ_self _) hS (hG.h67 (fr.trans f1)) (fun y q1 q2 => by have := a1 y q1 q2; omega) (fun d q1 q2 => HI_bd hS h1 d q1 q2 (a2 d q1 q2 q2)) hw ⟨by decide, hS.2.1.1⟩ ⟨by rw [h3]; decide, fun k q1 => by
    rw [h3, zbit_0]
    refine ⟨fun q => absurd q (by decide), ?_⟩
    rintro ⟨-, i, q2, q3, -⟩
    have := q3.1; omega⟩ (fun m2 f2 e2 e3 e4 e5 => ?_)
  refine hk m2 ((fr.trans f1).trans f2) (by rw [e2, e3.1, e3.2]; exact h1) (by rw [e5, e2]; exact h2) e4.1 (fun k q1 => ?_)
  exact (e4.2 k q1).trans ⟨fun q => ⟨q.1, lkU_all.mp q.2⟩, fun q => ⟨q.1, lkU_all.mpr q.2⟩⟩
