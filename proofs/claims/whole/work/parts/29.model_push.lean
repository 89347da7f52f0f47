theorem gM_M_64_0 : GI YM "DoorsOnCogsModel" 64 0 32 (some none) := ⟨by decide, _, _, _, fl_M_64, cM_0, by decide, rfl⟩
theorem pM_M_64_0 : PI YM "DoorsOnCogsModel" 64 0 32 (some none) .long := ⟨by decide, _, _, _, fl_M_64, fp_10_32, cM_0, by decide, rfl⟩
theorem oM_0_M_hangsWithout : OI YM 0 y_M_hangsWithout := ⟨by decide, _, _, _, cM_0, rfl⟩
/-! the reference: parts, places, pushes -/
/-- below the line of all places: the product of the axles' teeth -/
def pts (S : Int → Int) : Int := prdB (axp S (axl S)) (S 1).toNat
theorem prdB_bd {S : Int → Int} (hS : StrOK S) {u : Nat → Bool} : ∀ n : Nat, (n : Int) ≤ S 1 → 1 ≤ prdB (axp S u) n ∧ prdB (axp S u) n ≤ 3600 ^ cntB u n
  | 0, _ => by simp [prdB, cntB]
  | n + 1, h => by
    obtain ⟨i1, i2⟩ := prdB_bd hS n (by omega)
    obtain ⟨k1, k2, -, -⟩ := hS.2.2.2.1 (n : Int) (by omega) (by omega)
    have t1 := (hS.2.2.1 _ k1.1 k1.2).1
    have t2 := (hS.2.2.1 _ k2.1 k2.2).1
    unfold prdB cntB
    unfold axp
    by_cases e : u n = true
    · rw [if_pos e, if_pos e, Int.pow_succ]
      have m1 : tee S (jn S n 0) * tee S (jn S n 1) ≤ 60 * 60 := Int.mul_le_mul t1.2 t2.2 (by omega) (by decide)
      have m2 : 4 * 4 ≤ tee S (jn S n 0) * tee S (jn S n 1) := Int.mul_le_mul t1.1 t2.1 (by decide) (by omega)
      constructor
      · have := Int.mul_le_mul i1 m2 (by decide) (by omega)
        have h3 : (1 : Int) * (4 * 4) ≤ prdB (fun j => if u j = true then tee S (jn S (j : Int) 0) * tee S (jn S (j : Int) 1) else 1) n * (tee S (jn S n 0) * tee S (jn S n 1)) := this
        omega
      · exact Int.mul_le_mul i2 (by omega) (by omega) (by omega)
    · rw [if_neg e, if_neg e, Int.mul_one, Nat.add_zero]
      exact ⟨i1, i2⟩
theorem pts_bd {S : Int → Int} (hS : StrOK S) : 1 ≤ pts S ∧ pts S ≤ 46656000000 := by
  have h := prdB_bd (u := axl S) hS (S 1).toNat (by have := hS.2.1; omega)
  have h2 : (3600 : Int) ^ cntB (axl S) (S 1).toNat ≤ 3600 ^ 3 := ipow_le (c := 3600) (by decide) hS.2.2.2.2
  unfold pts
  have h3 : (3600 : Int) ^ 3 = 46656000000 := by decide
  omega
set_option maxHeartbeats 4000000 in
theorem s_M_hangs_l : ∀ (f : Nat) {μ : Mem} {Q : PV → Mem → Prop} {j : Int}, ((μ 11 1 - j).toNat < f) → (StrOK (μ 11)) → (0 ≤ j ∧ j ≤ μ 11 1) → (μ 0 32 = prdB (axp (μ 11) (axl (μ 11))) j.toNat) → (Rj YM y_M_hangs 68 [vA 0] [] (mset μ 0 32 (pts (μ 11))) Q) → Rj YM y_M_hangs 7 [vA 0, vI j] [] μ Q := by
  intro f
  induction f with
  | zero => intro μ Q j hf hS hj hp hk; exact absurd hf (by omega)
  | succ f ih =>
    intro μ Q j hf hS hj hp hk
    obtain ⟨hS0, hS1, hS2, hS3, hS4⟩ := id hS
    refine Rj_iload_n (q := 8) d_M_hangs_7 rfl rfl rfl ?_
    refine Rj_aload_n (q := 9) d_M_hangs_8 rfl rfl rfl ?_
    refine Rj_gr (q := 12) (zd := 11) gM_M_42_0 rfl rfl d_M_hangs_9 rfl ?_
    refine Rj_iconst (q := 13) d_M_hangs_12 rfl ?_
    refine Rj_ia (q := 14) (v := μ 11 1) aM_11 rfl (by decide) rfl d_M_hangs_13 rfl ?_
    refine Rj_icmp_ge (q := 17) (t := 68) d_M_hangs_14 rfl (by decide) ⟨by omega, by omega⟩ ⟨by omega, by omega⟩ (fun c14 => ?_) (fun c14 => ?_)
    · have ej : j = μ 11 1 := by omega
      rw [ej] at hp
      rw [show pts (μ 11) = μ 0 32 from hp.symm, mset_id] at hk
      refine Rj_pre (ls' := [vA 0]) (t := [vI j]) rfl ?_
      exact hk
    · obtain ⟨ka, kb, kne, kk⟩ := hS3 j hj.1 c14
      have ta := hS2 _ ka.1 ka.2
      have tb := hS2 _ kb.1 kb.2
      have m1 := mul_bd (show -60 ≤ tee (μ 11) (jn (μ 11) j 0) ∧ tee (μ 11) (jn (μ 11) j 0) ≤ 60 by omega) (show -60 ≤ tee (μ 11) (jn (μ 11) j 1) ∧ tee (μ 11) (jn (μ 11) j 1) ≤ 60 by omega)
      have hst : prdB (axp (μ 11) (axl (μ 11))) (j + 1).toNat = prdB (axp (μ 11) (axl (μ 11))) j.toNat * (if jn (μ 11) j 2 = 2 then tee (μ 11) (jn (μ 11) j 0) * tee (μ 11) (jn (μ 11) j 1) else 1) := by
        rw [show (j + 1).toNat = j.toNat + 1 by omega, prdB, axp, axl, show ((j.toNat : Nat) : Int) = j by omega]
        simp
      refine Rj_aload_n (q := 18) d_M_hangs_17 rfl rfl rfl ?_
      refine Rj_dup (q := 19) d_M_hangs_18 rfl (by intro h; cases h) ?_
      refine Rj_gl (q := 22) (ki := 32) (v := μ 0 32) gM_M_64_0 rfl rfl rfl d_M_hangs_19 rfl ?_
      refine Rj_aload_n (q := 23) d_M_hangs_22 rfl rfl rfl ?_
      refine Rj_iload_n (q := 24) d_M_hangs_23 rfl rfl rfl ?_
      refine Rj_iconst (q := 25) d_M_hangs_24 rfl ?_
      refine Rj_vo (q := 28) (z := y_M_joinOf) (as := [vI j, vI 2]) (rest := [vL (μ 0 32), vA 0]) (la := [vA 0, vI j, vI 2]) oM_0_M_joinOf ml_M_297 mw_M_joinOf mv_M_joinOf rfl d_M_hangs_25 rfl rfl rfl rfl rfl ?_
      refine s_M_joinOf (by omega) (by decide) ?_
      refine Rj_iconst (q := 29) d_M_hangs_28 rfl ?_
      refine Rj_icmp_ne (q := 32) (t := 57) d_M_hangs_29 rfl (by decide) ⟨by omega, by omega⟩ (by decide) (fun c29 => ?_) (fun c29 => ?_)
      · refine Rj_lconst (q := 58) (z := 1) d_M_hangs_57 rfl rfl ?_
        refine Rj_lmul (q := 59) d_M_hangs_58 rfl ?_
        refine Rj_pl (q := 62) (ki := 32) pM_M_64_0 rfl rfl d_M_hangs_59 rfl ?_
        refine Rj_iinc (q := 65) (ls' := [vA 0, vI (j + 1)]) d_M_hangs_62 rfl rfl (by decide) rfl ?_
        refine Rj_goto (t := 7) d_M_hangs_65 (by decide) ?_
        refine ih (μ := (mset μ 0 32 ((μ 0 32) * 1))) (by show (μ 11 1 - (j + 1)).toNat < f; omega) hS (show 0 ≤ j + 1 ∧ j + 1 ≤ μ 11 1 by omega) ?_ ?_
        · rw [mset_same]; show _ = prdB (axp (μ 11) (axl (μ 11))) (j + 1).toNat
          rw [hst, ← hp]; simp [c29]
        · rw [mset_mset]; exact hk
      · refine Rj_aload_n (q := 33) d_M_hangs_32 rfl rfl rfl ?_
        refine Rj_aload_n (q := 34) d_M_hangs_33 rfl rfl rfl ?_
        refine Rj_iload_n (q := 35) d_M_hangs_34 rfl rfl rfl ?_
        refine Rj_iconst (q := 36) d_M_hangs_35 rfl ?_
        refine Rj_vo (q := 39) (z := y_M_joinOf) (as := [vI j, vI 0]) (rest := [vA 0, vL (μ 0 32), vA 0]) (la := [vA 0, vI j, vI 0]) oM_0_M_joinOf ml_M_297 mw_M_joinOf mv_M_joinOf rfl d_M_hangs_36 rfl rfl rfl rfl rfl ?_
        refine s_M_joinOf (by omega) (by decide) ?_
        refine Rj_vo (q := 42) (z := y_M_teeth) (as := [vI (jn (μ 11) j 0)]) (rest := [vL (μ 0 32), vA 0]) (la := [vA 0, vI (jn (μ 11) j 0)]) oM_0_M_teeth ml_M_301 mw_M_teeth mv_M_teeth rfl d_M_hangs_39 rfl rfl rfl rfl rfl ?_
        refine s_M_teeth (by omega) ?_
        refine Rj_aload_n (q := 43) d_M_hangs_42 rfl rfl rfl ?_
        refine Rj_aload_n (q := 44) d_M_hangs_43 rfl rfl rfl ?_
        refine Rj_iload_n (q := 45) d_M_hangs_44 rfl rfl rfl ?_
        refine Rj_iconst (q := 46) d_M_hangs_45 rfl ?_
        refine Rj_vo (q := 49) (z := y_M_joinOf) (as := [vI j, vI 1]) (rest := [vA 0, vI (tee (μ 11) (jn (μ 11) j 0)), vL (μ 0 32), vA 0]) (la := [vA 0, vI j, vI 1]) oM_0_M_joinOf ml_M_297 mw_M_joinOf mv_M_joinOf rfl d_M_hangs_46 rfl rfl rfl rfl rfl ?_
        refine s_M_joinOf (by omega) (by decide) ?_
        refine Rj_vo (q := 52) (z := y_M_teeth) (as := [vI (jn (μ 11) j 1)]) (rest := [vI (tee (μ 11) (jn (μ 11) j 0)), vL (μ 0 32), vA 0]) (la := [vA 0, vI (jn (μ 11) j 1)]) oM_0_M_teeth ml_M_301 mw_M_teeth mv_M_teeth rfl d_M_hangs_49 rfl rfl rfl rfl rfl ?_
        refine s_M_teeth (by omega) ?_
        refine Rj_imul (q := 53) d_M_hangs_52 rfl ?_
        refine Rj_i2l (q := 54) d_M_hangs_53 rfl ⟨by omega, by omega⟩ ?_
        refine Rj_goto (t := 58) d_M_hangs_54 (by decide) ?_
        refine Rj_lmul (q := 59) d_M_hangs_58 rfl ?_
        refine Rj_pl (q := 62) (ki := 32) pM_M_64_0 rfl rfl d_M_hangs_59 rfl ?_
        refine Rj_iinc (q := 65) (ls' := [vA 0, vI (j + 1)]) d_M_hangs_62 rfl rfl (by decide) rfl ?_
        refine Rj_goto (t := 7) d_M_hangs_65 (by decide) ?_
        refine ih (μ := (mset μ 0 32 ((μ 0 32) * ((tee (μ 11) (jn (μ 11) j 0)) * (tee (μ 11) (jn (μ 11) j 1)))))) (by show (μ 11 1 - (j + 1)).toNat < f; omega) hS (show 0 ≤ j + 1 ∧ j + 1 ≤ μ 11 1 by omega) ?_ ?_
        · rw [mset_same]; show _ = prdB (axp (μ 11) (axl (μ 11))) (j + 1).toNat
          rw [hst, ← hp]; simp [c29]
        · rw [mset_mset]; exact hk
abbrev Whs (c : Nat) (i : Int) : Prop := (c = 0 ∧ i = 32) ∨ c = 14 ∨ c = 15 ∨ c = 16 ∨ c = 17
theorem wd_hw_hs : ∀ c i, Whw c i → Whs c i := fun c i h => by unfold Whw at h; unfold Whs; omega
/-- the doors hang as the street says -/
def Hung (S : Int → Int) (w : Int) (lo up dn lk : Int → Int) : Prop := HI S w (S 0) (S 0) lo up dn ∧ ∀ x, 0 ≤ x → x < S 0 → (lk x = 0 ∨ lk x = 1) ∧ (lk x = 1 ↔ lkP S w lo up dn x)
set_option maxHeartbeats 4000000 in
theorem s_M_hangs_68 {μ : Mem} {Q : PV → Mem → Prop} (hS : StrOK (μ 11)) (hp : μ 0 32 = pts (μ 11)) (hk : ∀ μ', Fr Whs μ μ' → μ' 0 32 = pts (μ 11) → Hung (μ 11) 0 (μ' 14) (μ' 15) (μ' 16) (μ' 17) → Q vU μ') : Rj YM y_M_hangs 68 [vA 0] [] μ Q := by
  refine Rj_aload_n (q := 69) d_M_hangs_68 rfl rfl rfl ?_
  refine Rj_iconst (q := 70) d_M_hangs_69 rfl ?_
  refine Rj_vov (q := 73) (z := y_M_hangsWithout) (as := [vI 0]) (rest := []) (la := [vA 0, vI 0]) oM_0_M_hangsWithout ml_M_331 mw_M_hangsWithout mv_M_hangsWithout rfl d_M_hangs_70 rfl rfl rfl rfl rfl ?_
  refine s_M_hangsWithout (μ := μ) hS (by decide) (fun m70 f70 q70 l70 => ?_)
  refine Rj_vret d_M_hangs_73 rfl ?_
  exact hk m70 (Fr.wide f70 wd_hw_hs) ((f70 0 32 (by unfold Whw; omega)).trans hp) ⟨q70, l70⟩
set_option maxHeartbeats 4000000 in
theorem s_M_hangs {μ : Mem} {Q : PV → Mem → Prop} (hS : StrOK (μ 11)) (hk : ∀ μ', Fr Whs μ μ' → μ' 0 32 = pts (μ 11) → Hung (μ 11) 0 (μ' 14) (μ' 15) (μ' 16) (μ' 17) → Q vU μ') : Rj YM y_M_hangs 0 [vA 0] [] μ Q := by
  refine Rj_aload_n (q := 1) d_M_hangs_0 rfl rfl rfl ?_
  refine Rj_lconst (q := 2) (z := 1) d_M_hangs_1 rfl rfl ?_
  refine Rj_pl (q := 5) (ki := 32) pM_M_64_0 rfl rfl d_M_hangs_2 rfl ?_
  refine Rj_iconst (q := 6) d_M_hangs_5 rfl ?_
  refine Rj_istore_n (q := 7) (ls' := [vA 0, vI 0]) d_M_hangs_6 rfl rfl (by decide) rfl ?_
  refine s_M_hangs_l (μ := (mset μ 0 32 1)) _ (Nat.lt_succ_self _) hS (show 0 ≤ (0 : Int) ∧ (0 : Int) ≤ μ 11 1 from ⟨by decide, hS.2.1.1⟩) rfl ?_
  rw [mset_mset]
  exact s_M_hangs_68 (μ := mset μ 0 32 (pts (μ 11))) hS rfl (fun m f h1 h2 => hk m (Fr.trans (Fr.put (Fr.refl _ _) (by decide)) f) h1 h2)
