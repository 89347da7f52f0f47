theorem oD_59_Ge_gather : OI YD 59 y_Ge_gather := ⟨by decide, _, _, _, cD_59, rfl⟩
theorem gD_Ge_51_59 : GI YD "DoorsOnCogs$Gears" 51 59 8 none := ⟨by decide, _, _, _, fl_Ge_51, cD_59, by decide, rfl⟩
theorem pD_Ge_51_59 : PI YD "DoorsOnCogs$Gears" 51 59 8 none .int := ⟨by decide, _, _, _, fl_Ge_51, fp_2_8, cD_59, by decide, rfl⟩
theorem oD_67_Ge_gather : OI YD 67 y_Ge_gather := ⟨by decide, _, _, _, cD_67, rfl⟩
theorem gD_Ge_51_67 : GI YD "DoorsOnCogs$Gears" 51 67 8 none := ⟨by decide, _, _, _, fl_Ge_51, cD_67, by decide, rfl⟩
theorem pD_Ge_51_67 : PI YD "DoorsOnCogs$Gears" 51 67 8 none .int := ⟨by decide, _, _, _, fl_Ge_51, fp_2_8, cD_67, by decide, rfl⟩
/-! the class hangs all its doors: how many sets there are, and which doors are locked -/
abbrev Wh59 (c : Nat) (i : Int) : Prop := c = 60 ∨ c = 61 ∨ c = 62 ∨ (c = 59 ∧ (i = 7 ∨ i = 8))
theorem GS.h59 {μ ν : Mem} {S : Int → Int} (h : GS μ S) (f : Fr Wh59 μ ν) : GS ν S := h.keep f (fun i q => by unfold Wh59 at q; omega) (fun i q => by unfold Wh59 at q; omega) (fun i q => by unfold Wh59 at q; omega) (fun i q => by unfold Wh59 at q; omega) (fun i q => by unfold Wh59 at q; omega)
theorem Fr.gh59 {μ ν : Mem} (f : Fr Wg59 μ ν) : Fr Wh59 μ ν := Fr.wide f (fun c i h => by unfold Wg59 at h; unfold Wh59; omega)
set_option maxHeartbeats 4000000 in
theorem s_hang_59_20 : ∀ (f : Nat) {μ : Mem} {Q : PV → Mem → Prop} {S : Int → Int} {w d : Int}, ((S 0 - d).toNat < f) → (StrOK S) → (GS μ S) → (HI S w (d) (d) (μ 60) (μ 61) (μ 62)) → (0 ≤ w ∧ w ≤ 65535) → (0 ≤ d ∧ d ≤ S 0) → (μ 59 8 = ((cntB (fun k => decide (μ 60 (k : Int) = (k : Int))) (d).toNat : Nat) : Int)) → (∀ μ', Fr Wh59 μ μ' → HI S w (S 0) (S 0) (μ' 60) (μ' 61) (μ' 62) → μ' 59 8 = ((cntB (fun k => decide (μ' 60 (k : Int) = (k : Int))) (S 0).toNat : Nat) : Int) → μ' 59 7 = μ 59 7 → Rj YD y_Ge_hang 63 [vA 59, vI w] [] μ' Q) → Rj YD y_Ge_hang 20 [vA 59, vI w, vI d] [] μ Q := by
  intro f
  induction f with
  | zero => intro μ Q S w d hf hS hG hH hw hd hs hk; exact absurd hf (by omega)
  | succ f ih =>
    intro μ Q S w d hf hS hG hH hw hd hs hk
    obtain ⟨hS0, hS1, hS2, hS3, hS4⟩ := id hS
    obtain ⟨G0, G1, G4, G6⟩ := id hG
    obtain ⟨a1, a2, -⟩ := id hH
    have hcm := cntB_max (fun k => decide (μ 60 (k : Int) = (k : Int))) d.toNat
    refine Rj_iload_n (q := 21) d_Ge_hang_20 rfl rfl rfl ?_
    refine Rj_aload_n (q := 22) d_Ge_hang_21 rfl rfl rfl ?_
    refine Rj_gr (q := 25) (zd := 3) gD_Ge_31_59 rfl rfl d_Ge_hang_22 rfl ?_
    refine Rj_gi (q := 28) (ki := 0) (v := μ 3 0) gD_Ge_58_3 rfl rfl rfl d_Ge_hang_25 rfl ?_
    refine Rj_icmp_ge (q := 31) (t := 63) d_Ge_hang_28 rfl (by decide) ⟨by omega, by omega⟩ ⟨by omega, by omega⟩ (fun c28 => ?_) (fun c28 => ?_)
    · have ed : d = S 0 := by omega
      rw [ed] at hH hs
      refine Rj_pre (ls' := [vA 59, vI w]) (t := [vI d]) rfl ?_
      exact hk μ (Fr.refl _ _) hH hs rfl
    · have hlt : d < S 0 := by omega
      have x1 := a1 d hd.1 hlt
      refine Rj_aload_n (q := 32) d_Ge_hang_31 rfl rfl rfl ?_
      refine Rj_gr (q := 35) (zd := 60) gD_Ge_9_59 rfl rfl d_Ge_hang_32 rfl ?_
      refine Rj_iload_n (q := 36) d_Ge_hang_35 rfl rfl rfl ?_
      refine Rj_ia (q := 37) (v := μ 60 d) aD_60 rfl (by omega) rfl d_Ge_hang_36 rfl ?_
      refine Rj_iconst (q := 38) d_Ge_hang_37 rfl ?_
      refine Rj_icmp_ne (q := 41) (t := 57) d_Ge_hang_38 rfl (by decide) ⟨by omega, by omega⟩ (by decide) (fun c38 => ?_) (fun c38 => ?_)
      · refine Rj_iinc (q := 60) (ls' := [vA 59, vI w, vI (d + 1)]) d_Ge_hang_57 rfl rfl (by decide) rfl ?_
        refine Rj_goto (t := 20) d_Ge_hang_60 (by decide) ?_
        refine ih (μ := μ) (by omega) hS hG (HI_skip hS hH (by omega)) hw (by omega) ?_ hk
        rw [show (d + 1).toNat = d.toNat + 1 by omega]
        unfold cntB
        rw [if_neg (by simp only [decide_eq_true_eq]; rw [show ((d.toNat : Nat) : Int) = d by omega]; omega), hs]
        all_goals omega
      · refine Rj_aload_n (q := 42) d_Ge_hang_41 rfl rfl rfl ?_
        refine Rj_iload_n (q := 43) d_Ge_hang_42 rfl rfl rfl ?_
        refine Rj_iload_n (q := 44) d_Ge_hang_43 rfl rfl rfl ?_
        refine Rj_vov (q := 47) (z := y_Ge_gather) (as := [vI d, vI w]) (rest := []) (la := [vA 59, vI d, vI w]) oD_59_Ge_gather ml_Ge_63 mw_Ge_gather mv_Ge_gather rfl d_Ge_hang_44 rfl rfl rfl rfl rfl ?_
        refine s_gather_59 hS hG hH ⟨hd.1, hlt⟩ hw c38 (fun m44 f44 q44 k44 r44 => ?_)
        have e44 : m44 59 8 = μ 59 8 := f44 59 8 (by unfold Wg59; omega)
        refine Rj_aload_n (q := 48) d_Ge_hang_47 rfl rfl rfl ?_
        refine Rj_dup (q := 49) d_Ge_hang_48 rfl (by intro h; cases h) ?_
        refine Rj_gi (q := 52) (ki := 8) (v := m44 59 8) gD_Ge_51_59 rfl rfl rfl d_Ge_hang_49 rfl ?_
        refine Rj_iconst (q := 53) d_Ge_hang_52 rfl ?_
        refine Rj_iadd (q := 54) d_Ge_hang_53 rfl ?_
        refine Rj_pi (q := 57) (ki := 8) pD_Ge_51_59 rfl rfl d_Ge_hang_54 rfl ?_
        refine Rj_iinc (q := 60) (ls' := [vA 59, vI w, vI (d + 1)]) d_Ge_hang_57 rfl rfl (by decide) rfl ?_
        refine Rj_goto (t := 20) d_Ge_hang_60 (by decide) ?_
        have e7 : m44 59 7 = μ 59 7 := f44 59 7 (by unfold Wg59; omega)
        have fr : Fr Wh59 μ ((mset m44 59 8 ((m44 59 8) + 1))) := Fr.put (f44.gh59) (by unfold Wh59; omega)
        have eg : ∀ k : Int, ((mset m44 59 8 ((m44 59 8) + 1))) 60 k = m44 60 k := fun k => congrFun (mset_nc m44 _ _ _ _ (by decide)) k
        refine ih (μ := (mset m44 59 8 ((m44 59 8) + 1))) (by omega) hS (hG.h59 fr) (by simpa [mset_nc] using q44) hw (by omega) ?_ (fun m2 f2 h2 h3 h4 => hk m2 (fr.trans f2) h2 h3 (by rw [h4]; rw [mset_ne _ _ _ _ _ (by decide)]; exact e7))
        rw [mset_same, show (d + 1).toNat = d.toNat + 1 by omega]
        unfold cntB
        simp only [eg]
        rw [if_pos (by simp only [decide_eq_true_eq]; rw [show ((d.toNat : Nat) : Int) = d by omega]; exact r44), cntB_congr (q := fun k => decide (μ 60 (k : Int) = (k : Int))) d.toNat (fun k hk => by rw [k44 _ (a2 _ (by omega) (by omega) (by omega))]), e44, hs]
        all_goals omega
abbrev Wh67 (c : Nat) (i : Int) : Prop := c = 68 ∨ c = 69 ∨ c = 70 ∨ (c = 67 ∧ (i = 7 ∨ i = 8))
theorem GS.h67 {μ ν : Mem} {S : Int → Int} (h : GS μ S) (f : Fr Wh67 μ ν) : GS ν S := h.keep f (fun i q => by unfold Wh67 at q; omega) (fun i q => by unfold Wh67 at q; omega) (fun i q => by unfold Wh67 at q; omega) (fun i q => by unfold Wh67 at q; omega) (fun i q => by unfold Wh67 at q; omega)
theorem Fr.gh67 {μ ν : Mem} (f : Fr Wg67 μ ν) : Fr Wh67 μ ν := Fr.wide f (fun c i h => by unfold Wg67 at h; unfold Wh67; omega)
set_option maxHeartbeats 4000000 in
theorem s_hang_67_20 : ∀ (f : Nat) {μ : Mem} {Q : PV → Mem → Prop} {S : Int → Int} {w d : Int}, ((S 0 - d).toNat < f) → (StrOK S) → (GS μ S) → (HI S w (d) (d) (μ 68) (μ 69) (μ 70)) → (0 ≤ w ∧ w ≤ 65535) → (0 ≤ d ∧ d ≤ S 0) → (μ 67 8 = ((cntB (fun k => decide (μ 68 (k : Int) = (k : Int))) (d).toNat : Nat) : Int)) → (∀ μ', Fr Wh67 μ μ' → HI S w (S 0) (S 0) (μ' 68) (μ' 69) (μ' 70) → μ' 67 8 = ((cntB (fun k => decide (μ' 68 (k : Int) = (k : Int))) (S 0).toNat : Nat) : Int) → μ' 67 7 = μ 67 7 → Rj YD y_Ge_hang 63 [vA 67, vI w] [] μ' Q) → Rj YD y_Ge_hang 20 [vA 67, vI w, vI d] [] μ Q := by
  intro f
  induction f with
  | zero => intro μ Q S w d hf hS hG hH hw hd hs hk; exact absurd hf (by omega)
  | succ f ih =>
    intro μ Q S w d hf hS hG hH hw hd hs hk
    obtain ⟨hS0, hS1, hS2, hS3, hS4⟩ := id hS
    obtain ⟨G0, G1, G4, G6⟩ := id hG
    obtain ⟨a1, a2, -⟩ := id hH
    have hcm := cntB_max (fun k => decide (μ 68 (k : Int) = (k : Int))) d.toNat
    refine Rj_iload_n (q := 21) d_Ge_hang_20 rfl rfl rfl ?_
    refine Rj_aload_n (q := 22) d_Ge_hang_21 rfl rfl rfl ?_
    refine Rj_gr (q := 25) (zd := 3) gD_Ge_31_67 rfl rfl d_Ge_hang_22 rfl ?_
    refine Rj_gi (q := 28) (ki := 0) (v := μ 3 0) gD_Ge_58_3 rfl rfl rfl d_Ge_hang_25 rfl ?_
    refine Rj_icmp_ge (q := 31) (t := 63) d_Ge_hang_28 rfl (by decide) ⟨by omega, by omega⟩ ⟨by omega, by omega⟩ (fun c28 => ?_) (fun c28 => ?_)
    · have ed : d = S 0 := by omega
      rw [ed] at hH hs
      refine Rj_pre (ls' := [vA 67, vI w]) (t := [vI d]) rfl ?_
      exact hk μ (Fr.refl _ _) hH hs rfl
    · have hlt : d < S 0 := by omega
      have x1 := a1 d hd.1 hlt
      refine Rj_aload_n (q := 32) d_Ge_hang_31 rfl rfl rfl ?_
      refine Rj_gr (q := 35) (zd := 68) gD_Ge_9_67 rfl rfl d_Ge_hang_32 rfl ?_
      refine Rj_iload_n (q := 36) d_Ge_hang_35 rfl rfl rfl ?_
      refine Rj_ia (q := 37) (v := μ 68 d) aD_68 rfl (by omega) rfl d_Ge_hang_36 rfl ?_
      refine Rj_iconst (q := 38) d_Ge_hang_37 rfl ?_
      refine Rj_icmp_ne (q := 41) (t := 57) d_Ge_hang_38 rfl (by decide) ⟨by omega, by omega⟩ (by decide) (fun c38 => ?_) (fun c38 => ?_)
      · refine Rj_iinc (q := 60) (ls' := [vA 67, vI w, vI (d + 1)]) d_Ge_hang_57 rfl rfl (by decide) rfl ?_
        refine Rj_goto (t := 20) d_Ge_hang_60 (by decide) ?_
        refine ih (μ := μ) (by omega) hS hG (HI_skip hS hH (by omega)) hw (by omega) ?_ hk
        rw [show (d + 1).toNat = d.toNat + 1 by omega]
        unfold cntB
        rw [if_neg (by simp only [decide_eq_true_eq]; rw [show ((d.toNat : Nat) : Int) = d by omega]; omega), hs]
        all_goals omega
      · refine Rj_aload_n (q := 42) d_Ge_hang_41 rfl rfl rfl ?_
        refine Rj_iload_n (q := 43) d_Ge_hang_42 rfl rfl rfl ?_
        refine Rj_iload_n (q := 44) d_Ge_hang_43 rfl rfl rfl ?_
        refine Rj_vov (q := 47) (z := y_Ge_gather) (as := [vI d, vI w]) (rest := []) (la := [vA 67, vI d, vI w]) oD_67_Ge_gather ml_Ge_63 mw_Ge_gather mv_Ge_gather rfl d_Ge_hang_44 rfl rfl rfl rfl rfl ?_
        refine s_gather_67 hS hG hH ⟨hd.1, hlt⟩ hw c38 (fun m44 f44 q44 k44 r44 => ?_)
        have e44 : m44 67 8 = μ 67 8 := f44 67 8 (by unfold Wg67; omega)
        refine Rj_aload_n (q := 48) d_Ge_hang_47 rfl rfl rfl ?_
        refine Rj_dup (q := 49) d_Ge_hang_48 rfl (by intro h; cases h) ?_
        refine Rj_gi (q := 52) (ki := 8) (v := m44 67 8) gD_Ge_51_67 rfl rfl rfl d_Ge_hang_49 rfl ?_
        refine Rj_iconst (q := 53) d_Ge_hang_52 rfl ?_
        refine Rj_iadd (q := 54) d_Ge_hang_53 rfl ?_
        refine Rj_pi (q := 57) (ki := 8) pD_Ge_51_67 rfl rfl d_Ge_hang_54 rfl ?_
        refine Rj_iinc (q := 60) (ls' := [vA 67, vI w, vI (d + 1)]) d_Ge_hang_57 rfl rfl (by decide) rfl ?_
        refine Rj_goto (t := 20) d_Ge_hang_60 (by decide) ?_
        have e7 : m44 67 7 = μ 67 7 := f44 67 7 (by unfold Wg67; omega)
        have fr : Fr Wh67 μ ((mset m44 67 8 ((m44 67 8) + 1))) := Fr.put (f44.gh67) (by unfold Wh67; omega)
        have eg : ∀ k : Int, ((mset m44 67 8 ((m44 67 8) + 1))) 68 k = m44 68 k := fun k => congrFun (mset_nc m44 _ _ _ _ (by decide)) k
        refine ih (μ := (mset m44 67 8 ((m44 67 8) + 1))) (by omega) hS (hG.h67 fr) (by simpa [mset_nc] using q44) hw (by omega) ?_ (fun m2 f2 h2 h3 h4 => hk m2 (fr.trans f2) h2 h3 (by rw [h4]; rw [mset_ne _ _ _ _ _ (by decide)]; exact e7))
        rw [mset_same, show (d + 1).toNat = d.toNat + 1 by omega]
        unfold cntB
        simp only [eg]
        rw [if_pos (by simp only [decide_eq_true_eq]; rw [show ((d.toNat : Nat) : Int) = d by omega]; exact r44), cntB_congr (q := fun k => decide (μ 68 (k : Int) = (k : Int))) d.toNat (fun k hk => by rw [k44 _ (a2 _ (by omega) (by omega) (by omega))]), e44, hs]
        all_goals omega
