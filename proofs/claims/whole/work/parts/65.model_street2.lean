theorem pM_M_158_0 : PI YM "DoorsOnCogsModel" 158 0 16 none .int := ⟨by decide, _, _, _, fl_M_158, fp_10_16, cM_0, by decide, rfl⟩
theorem oM_0_M_readsAll : OI YM 0 y_M_readsAll := ⟨by decide, _, _, _, cM_0, rfl⟩
/-! street: the reference, whole -/
def rowOf (σ : StS) (x : Int) : Int → Int := fun i => if i = 0 then σ.2.2.1 else if i = 1 then σ.2.2.2.1 else if i = 2 then σ.2.2.2.2.2.1 else if i = 8 then x else if 10 ≤ i ∧ i < 10 + 2 * σ.2.2.1 then σ.2.2.2.2.2.2.1 (i - 10) else if 34 ≤ i ∧ i < 34 + 3 * σ.2.2.2.1 then σ.2.2.2.2.2.2.2 (i - 34) else 0
theorem rowOf_d {σ : StS} {x : Int} (h : σ.2.2.1 ≤ 12) {i : Int} (i0 : 0 ≤ i) (i1 : i < 2 * σ.2.2.1) : rowOf σ x (10 + i) = σ.2.2.2.2.2.2.1 i := by
  unfold rowOf
  rw [if_neg (by omega), if_neg (by omega), if_neg (by omega), if_neg (by omega), if_pos (by omega), show 10 + i - 10 = i by omega]
theorem rowOf_j {σ : StS} {x : Int} (h : σ.2.2.1 ≤ 12) {i : Int} (i0 : 0 ≤ i) (i1 : i < 3 * σ.2.2.2.1) : rowOf σ x (34 + i) = σ.2.2.2.2.2.2.2 i := by
  unfold rowOf
  rw [if_neg (by omega), if_neg (by omega), if_neg (by omega), if_neg (by omega), if_neg (by omega), if_pos (by omega), show 34 + i - 34 = i by omega]
theorem rowOf_0 {σ : StS} {x : Int} (h : σ.2.2.1 ≤ 12) {i : Int} (h1 : i ≠ 0 ∧ i ≠ 1 ∧ i ≠ 2 ∧ i ≠ 8) (h2 : ¬ (10 ≤ i ∧ i < 10 + 2 * σ.2.2.1)) (h3 : ¬ (34 ≤ i ∧ i < 34 + 3 * σ.2.2.2.1)) : rowOf σ x i = 0 := by
  unfold rowOf
  rw [if_neg h1.1, if_neg h1.2.1, if_neg h1.2.2.1, if_neg h1.2.2.2, if_neg h2, if_neg h3]
theorem rowOf_S {σ : StS} {x : Int} (h : σ.2.2.1 ≤ 12) : SRW (rowOf σ x) x σ :=
  ⟨rfl, rfl, rfl, rowOf_0 h (by decide) (by omega) (by omega), rowOf_0 h (by decide) (by omega) (by omega), rowOf_0 h (by decide) (by omega) (by omega), rowOf_0 h (by decide) (by omega) (by omega), rfl, fun i i0 i1 => rowOf_d h i0 i1, fun i i0 i1 => rowOf_j h i0 i1⟩
abbrev Wst2 (c : Nat) (i : Int) : Prop := c = 11 ∨ c = 12 ∨ Whs c i
set_option maxHeartbeats 4000000 in
theorem s_M_street_196 {μ : Mem} {Q : PV → Mem → Prop} {x : Int} (hS : StrOK (μ 11)) (hB : PB (μ 12)) (hF : 0 ≤ μ 11 2 ∧ μ 11 2 < 4096) (hD : i32 (μ 0 7)) (hQ : ∀ μ', Fr Whs μ μ' → MX μ' → Q (vI (μ 0 7)) μ') : Rj YM y_M_street 196 [vA 0, vI x] [] μ Q := by
  refine Rj_aload_n (q := 197) d_M_street_196 rfl rfl rfl ?_
  refine Rj_vov (q := 200) (z := y_M_hangs) (as := []) (rest := []) (la := [vA 0]) oM_0_M_hangs ml_M_279 mw_M_hangs mv_M_hangs rfl d_M_street_197 rfl rfl rfl rfl rfl ?_
  refine s_M_hangs hS (fun m f e1 e2 => ?_)
  have r11 : m 11 = μ 11 := f.row (fun i q => by unfold Whs at q; omega)
  have r12 : m 12 = μ 12 := f.row (fun i q => by unfold Whs at q; omega)
  have hm : MX m := by
    unfold MX
    rw [r11, r12]
    exact ⟨hS, e2, e1, hB, hF⟩
  refine Rj_aload_n (q := 201) d_M_street_200 rfl rfl rfl ?_
  refine Rj_gi (q := 204) (ki := 7) (v := μ 0 7) gM_M_230_0 rfl rfl (f 0 7 (by unfold Whs; omega)) d_M_street_201 rfl ?_
  refine Rj_iret d_M_street_204 rfl ?_
  exact hQ m f hm
set_option maxHeartbeats 4000000 in
theorem s_M_street_71 {μ : Mem} {Q : PV → Mem → Prop} {ρ : Mem} {n : Int} {σ : StS} (hσ : srOf ρ = σ) (hO : StOK n σ) (hA : AXI σ) (hx : 0 ≤ ρ 11 8 ∧ ρ 11 8 ≤ 2147483647) (e7 : μ 0 7 = σ.2.2.1) (e8 : μ 0 8 = σ.2.2.2.1) (e10 : μ 0 10 = σ.2.2.2.2.2.1) (e6 : μ 6 = σ.2.2.2.2.2.2.1) (e7r : μ 7 = σ.2.2.2.2.2.2.2) (q1 : ∀ j, 0 ≤ j → j < 134 → μ 11 j = 0) (hQ : ∀ μ', Fr Wst2 μ μ' → AGA (rowOf σ (ρ 11 8)) (μ' 11) → (∀ d, 0 ≤ d → d < 12 → μ' 12 d = 0) → MX μ' → Q (vI σ.2.2.1) μ') : Rj YM y_M_street 71 [vA 0, vI (ρ 11 8)] [] μ Q := by
  obtain ⟨o0, o1, o2, o3, o4, o5, o6⟩ := id hO
  refine Rj_aload_n (q := 72) d_M_street_71 rfl rfl rfl ?_
  refine Rj_gr (q := 75) (zd := 11) gM_M_42_0 rfl rfl d_M_street_72 rfl ?_
  refine Rj_bipush (q := 77) d_M_street_75 rfl (by decide +kernel) ?_
  refine Rj_iload_n (q := 78) d_M_street_77 rfl rfl rfl ?_
  refine Rj_is (q := 79) aM_11 rfl (by decide) d_M_street_78 rfl ?_
  refine Rj_aload_n (q := 80) d_M_street_79 rfl rfl rfl ?_
  refine Rj_gr (q := 83) (zd := 11) gM_M_42_0 rfl rfl d_M_street_80 rfl ?_
  refine Rj_iconst (q := 84) d_M_street_83 rfl ?_
  refine Rj_aload_n (q := 85) d_M_street_84 rfl rfl rfl ?_
  refine Rj_gi (q := 88) (ki := 7) (v := σ.2.2.1) gM_M_230_0 rfl rfl e7 d_M_street_85 rfl ?_
  refine Rj_is (q := 89) aM_11 rfl (by decide) d_M_street_88 rfl ?_
  refine Rj_aload_n (q := 90) d_M_street_89 rfl rfl rfl ?_
  refine Rj_gr (q := 93) (zd := 11) gM_M_42_0 rfl rfl d_M_street_90 rfl ?_
  refine Rj_iconst (q := 94) d_M_street_93 rfl ?_
  refine Rj_aload_n (q := 95) d_M_street_94 rfl rfl rfl ?_
  refine Rj_gi (q := 98) (ki := 8) (v := σ.2.2.2.1) gM_M_233_0 rfl rfl e8 d_M_street_95 rfl ?_
  refine Rj_is (q := 99) aM_11 rfl (by decide) d_M_street_98 rfl ?_
  refine Rj_aload_n (q := 100) d_M_street_99 rfl rfl rfl ?_
  refine Rj_gr (q := 103) (zd := 11) gM_M_42_0 rfl rfl d_M_street_100 rfl ?_
  refine Rj_iconst (q := 104) d_M_street_103 rfl ?_
  refine Rj_aload_n (q := 105) d_M_street_104 rfl rfl rfl ?_
  refine Rj_gi (q := 108) (ki := 10) (v := σ.2.2.2.2.2.1) gM_M_239_0 rfl rfl e10 d_M_street_105 rfl ?_
  refine Rj_is (q := 109) aM_11 rfl (by decide) d_M_street_108 rfl ?_
  refine Rj_iconst (q := 110) d_M_street_109 rfl ?_
  refine Rj_istore_n (q := 111) (ls' := [vA 0, vI (ρ 11 8), vI 0]) d_M_street_110 rfl rfl (by decide) rfl ?_
  refine s_M_street_111 (μ := (mset (mset (mset (mset μ 11 8 (ρ 11 8)) 11 0 σ.2.2.1) 11 1 σ.2.2.2.1) 11 2 σ.2.2.2.2.2.1)) (D := σ.2.2.1) _ (Nat.lt_succ_self _) e7 o2 (by omega) (fun m2 f2 q2 => ?_)
  refine Rj_iconst (q := 143) d_M_street_142 rfl ?_
  refine Rj_istore_n (q := 144) (ls' := [vA 0, vI (ρ 11 8), vI 0]) d_M_street_143 rfl rfl (by decide) rfl ?_
  have b0 : m2 0 = μ 0 := f2.row (fun i q => by omega)
  have b7 : m2 7 = μ 7 := f2.row (fun i q => by omega)
  refine s_M_street_144 (μ := m2) (D := σ.2.2.2.1) _ (Nat.lt_succ_self _) (by rw [b0]; exact e8) o3 (by omega) (fun m3 f3 q3 => ?_)
  refine Rj_iconst (q := 176) d_M_street_175 rfl ?_
  refine Rj_istore_n (q := 177) (ls' := [vA 0, vI (ρ 11 8), vI 0]) d_M_street_176 rfl rfl (by decide) rfl ?_
  refine s_M_street_177 (μ := m3) _ (Nat.lt_succ_self _) (by decide) (fun m4 f4 q4 => ?_)
  have c11 : m4 11 = m3 11 := f4.row (fun i q => by omega)
  have hag : AGA (rowOf σ (ρ 11 8)) (m4 11) := by
    intro i i0 i1
    rw [c11]
    by_cases h2 : 34 ≤ i ∧ i < 34 + 3 * σ.2.2.2.1
    · have := q3 (i - 34) (by omega) (by omega)
      rw [show 34 + (i - 34) = i by omega] at this
      rw [this, b7, e7r]
      have := rowOf_j (x := ρ 11 8) o2.2 (i := i - 34) (by omega) (by omega)
      rw [show 34 + (i - 34) = i by omega] at this
      exact this.symm
    · rw [f3 11 i (by omega)]
      by_cases h1 : 10 ≤ i ∧ i < 10 + 2 * σ.2.2.1
      · have := q2 (i - 10) (by omega) (by omega)
        rw [show 10 + (i - 10) = i by omega] at this
        rw [this]
        have := rowOf_d (x := ρ 11 8) o2.2 (i := i - 10) (by omega) (by omega)
        rw [show 10 + (i - 10) = i by omega] at this
        rw [this, ← e6]
        rfl
      · rw [f2 11 i (by omega)]
        by_cases k2 : i = 2
        · subst k2; rfl
        · rw [mset_o (by omega)]
          by_cases k1 : i = 1
          · subst k1; rfl
          · rw [mset_o (by omega)]
            by_cases k0 : i = 0
            · subst k0; rfl
            · rw [mset_o (by omega)]
              by_cases k8 : i = 8
              · subst k8; rfl
              · rw [mset_o (by omega), q1 i i0 i1]
                exact (rowOf_0 o2.2 ⟨k0, k1, k2, k8⟩ h1 h2).symm
  have hK := (rowOf_S (x := ρ 11 8) o2.2).ok hx hO hA
  have hK4 := hK.c hag
  have fr : Fr Wst2 μ m4 := (((((Fr.put (Fr.put (Fr.put (Fr.put (Fr.refl _ _) (Or.inl rfl)) (Or.inl rfl)) (Or.inl rfl)) (Or.inl rfl)).trans (Fr.wide f2 (fun c j q => Or.inl q.1))).trans (Fr.wide f3 (fun c j q => Or.inl q.1))).trans (Fr.wide f4 (fun c j q => Or.inr (Or.inl q.1)))))
  have d7 : m4 0 7 = σ.2.2.1 := by rw [f4 0 7 (by omega), f3 0 7 (by omega), b0]; exact e7
  refine s_M_street_196 hK4.1 (fun d d0 d1 => by rw [q4 d d0 d1]; decide) hK4.2.1 (by rw [d7]; exact ⟨by omega, by omega⟩) (fun m5 f5 h5 => ?_)
  have r11 : m5 11 = m4 11 := f5.row (fun i q => by unfold Whs at q; omega)
  have r12 : m5 12 = m4 12 := f5.row (fun i q => by unfold Whs at q; omega)
  rw [d7]
  exact hQ m5 (fr.trans (Fr.wide f5 (fun c j q => Or.inr (Or.inr q)))) (by rw [r11]; exact hag) (by rw [r12]; exact q4) h5
set_option maxHeartbeats 4000000 in
theorem s_M_street_41 {μ : Mem} {Q : PV → Mem → Prop} {n : Int} {σ : StS} (hσ : srOf μ = σ) (hO : StOK n σ) (hA : AXI σ) (hx : 0 ≤ μ 11 8 ∧ μ 11 8 ≤ 2147483647) (hQ : ∀ μ', Fr Wst2 μ μ' → AGA (rowOf σ (μ 11 8)) (μ' 11) → (∀ d, 0 ≤ d → d < 12 → μ' 12 d = 0) → MX μ' → Q (vI σ.2.2.1) μ') : Rj YM y_M_street 41 [vA 0] [] μ Q := by
  obtain ⟨o0, o1, o2, o3, o4, o5, o6⟩ := id hO
  have e7 : μ 0 7 = σ.2.2.1 := by rw [← hσ]; rfl
  have e8 : μ 0 8 = σ.2.2.2.1 := by rw [← hσ]; rfl
  have e10 : μ 0 10 = σ.2.2.2.2.2.1 := by rw [← hσ]; rfl
  have e6 : μ 6 = σ.2.2.2.2.2.2.1 := by rw [← hσ]; rfl
  have e7r : μ 7 = σ.2.2.2.2.2.2.2 := by rw [← hσ]; rfl
  refine Rj_aload_n (q := 42) d_M_street_41 rfl rfl rfl ?_
  refine Rj_gr (q := 45) (zd := 11) gM_M_42_0 rfl rfl d_M_street_42 rfl ?_
  refine Rj_bipush (q := 47) d_M_street_45 rfl (by decide +kernel) ?_
  refine Rj_ia (q := 48) (v := μ 11 8) aM_11 rfl (by decide) rfl d_M_street_47 rfl ?_
  refine Rj_istore_n (q := 49) (ls' := [vA 0, vI (μ 11 8)]) d_M_street_48 rfl rfl (by decide) rfl ?_
  refine Rj_iconst (q := 50) d_M_street_49 rfl ?_
  refine Rj_istore_n (q := 51) (ls' := [vA 0, vI (μ 11 8), vI 0]) d_M_street_50 rfl rfl (by decide) rfl ?_
  refine s_M_street_51 (μ := μ) _ (Nat.lt_succ_self _) (by decide) (fun m1 f1 q1 => ?_)
  have a0 : m1 0 = μ 0 := f1.row (fun i q => by omega)
  have a6 : m1 6 = μ 6 := f1.row (fun i q => by omega)
  have a7 : m1 7 = μ 7 := f1.row (fun i q => by omega)
  exact s_M_street_71 hσ hO hA hx (by rw [a0]; exact e7) (by rw [a0]; exact e8) (by rw [a0]; exact e10) (by rw [a6]; exact e6) (by rw [a7]; exact e7r) q1 (fun m f h1 h2 h3 => hQ m ((Fr.wide f1 (fun c j q => Or.inl q.1)).trans f) h1 h2 h3)
set_option maxHeartbeats 4000000 in
theorem s_M_street {μ : Mem} {Q : PV → Mem → Prop} (hX : TX (μ 1) (μ 0 1)) (hx : 0 ≤ μ 11 8 ∧ μ 11 8 ≤ 2147483647) (h2 : ∀ wr μ', stAll (μ 1) (μ 0 1) (μ 6) (μ 7) = .error wr → Fr (fun c i => Wra c i ∨ (c = 0 ∧ i = 16)) μ μ' → μ' 0 1 = 0 → Q (vI (-2 - wr)) μ') (h1 : ∀ σ μ', stAll (μ 1) (μ 0 1) (μ 6) (μ 7) = .ok σ → Fr (fun c i => Wra c i ∨ (c = 0 ∧ i = 16) ∨ Wst2 c i) μ μ' → μ' 0 1 = 0 → AGA (rowOf σ (μ 11 8)) (μ' 11) → (∀ d, 0 ≤ d → d < 12 → μ' 12 d = 0) → MX μ' → Q (vI σ.2.2.1) μ') : Rj YM y_M_street 0 [vA 0] [] μ Q := by
  refine Rj_aload_n (q := 1) d_M_street_0 rfl rfl rfl ?_
  refine Rj_bipush (q := 3) d_M_street_1 rfl (by decide +kernel) ?_
  refine Rj_pi (q := 6) (ki := 16) pM_M_158_0 rfl rfl d_M_street_3 rfl ?_
  refine Rj_aload_n (q := 7) d_M_street_6 rfl rfl rfl ?_
  refine Rj_iconst (q := 8) d_M_street_7 rfl ?_
  refine Rj_pi (q := 11) (ki := 7) pM_M_230_0 rfl rfl d_M_street_8 rfl ?_
  refine Rj_aload_n (q := 12) d_M_street_11 rfl rfl rfl ?_
  refine Rj_iconst (q := 13) d_M_street_12 rfl ?_
  refine Rj_pi (q := 16) (ki := 8) pM_M_233_0 rfl rfl d_M_street_13 rfl ?_
  refine Rj_aload_n (q := 17) d_M_street_16 rfl rfl rfl ?_
  refine Rj_iconst (q := 18) d_M_street_17 rfl ?_
  refine Rj_pi (q := 21) (ki := 9) pM_M_236_0 rfl rfl d_M_street_18 rfl ?_
  refine Rj_aload_n (q := 22) d_M_street_21 rfl rfl rfl ?_
  refine Rj_iconst (q := 23) d_M_street_22 rfl ?_
  refine Rj_pi (q := 26) (ki := 10) pM_M_239_0 rfl rfl d_M_street_23 rfl ?_
  refine Rj_aload_n (q := 27) d_M_street_26 rfl rfl rfl ?_
  refine Rj_vo (q := 30) (z := y_M_readsAll) (as := []) (rest := []) (la := [vA 0]) oM_0_M_readsAll ml_M_276 mw_M_readsAll mv_M_readsAll rfl d_M_street_27 rfl rfl rfl rfl rfl ?_
  have fr0 : Fr (fun c i => Wra c i ∨ (c = 0 ∧ i = 16)) μ ((mset (mset (mset (mset (mset μ 0 16 6) 0 7 0) 0 8 0) 0 9 0) 0 10 0)) := (Fr.put (Fr.put (Fr.put (Fr.put (Fr.put (Fr.refl _ _) (Or.inr ⟨rfl, rfl⟩)) (Or.inl (by decide))) (Or.inl (by decide))) (Or.inl (by decide))) (Or.inl (by decide)))
  refine s_M_readsSt (μ := (mset (mset (mset (mset (mset μ 0 16 6) 0 7 0) 0 8 0) 0 9 0) 0 10 0)) hX rfl rfl rfl rfl rfl (fun m σ q sg f g t => ?_) (fun wr m q f g t => ?_)
  · have z1 := True.intro
    refine Rj_if_ne (q := 33) (t := 41) d_M_street_30 rfl (by decide) (by decide) (fun _ => ?_) (fun c => absurd c (by decide))
    obtain ⟨i1, i2, i3⟩ := stAll_inv hX.1.1 q
    have e11 : m 11 = μ 11 := f.row (fun i q => by unfold Wra at q; omega)
    refine s_M_street_41 sg i1 i2 (by rw [e11]; exact hx) (fun m2 f2 a b c => ?_)
    rw [e11] at a
    exact h1 σ m2 q ((Fr.wide (fr0.trans (Fr.wide f (fun c i q => Or.inl q))) (fun c i q => q.elim Or.inl (fun q => Or.inr (Or.inl q)))).trans (Fr.wide f2 (fun c i q => Or.inr (Or.inr q)))) (by rw [f2 0 1 (by unfold Wst2 Whs; omega)]; exact t) a b c
  · have z1 := True.intro
    refine Rj_if_ne (q := 33) (t := 41) d_M_street_30 rfl (by decide) (by decide) (fun c => absurd c (by decide)) (fun _ => ?_)
    refine Rj_bipush (q := 35) d_M_street_33 rfl (by decide +kernel) ?_
    refine Rj_aload_n (q := 36) d_M_street_35 rfl rfl rfl ?_
    refine Rj_gi (q := 39) (ki := 14) (v := wr) gM_M_107_0 rfl rfl g d_M_street_36 rfl ?_
    refine Rj_isub (q := 40) d_M_street_39 rfl ?_
    refine Rj_iret d_M_street_40 rfl ?_
    exact h2 wr m q (fr0.trans (Fr.wide f (fun c i q => Or.inl q))) t
