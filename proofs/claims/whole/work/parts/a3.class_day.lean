theorem gD_Di_23_86 : GI YD "DoorsOnCogs$Diary" 23 86 2 none := ⟨by decide, _, _, _, fl_Di_23, cD_86, by decide, rfl⟩
theorem pD_Di_23_86 : PI YD "DoorsOnCogs$Diary" 23 86 2 none .int := ⟨by decide, _, _, _, fl_Di_23, fp_1_2, cD_86, by decide, rfl⟩
theorem gD_Di_19_86 : GI YD "DoorsOnCogs$Diary" 19 86 1 (some (some 79)) := ⟨by decide, _, _, _, fl_Di_19, cD_86, by decide, rfl⟩
theorem oD_79_Bo_teethFor : OI YD 79 y_Bo_teethFor := ⟨by decide, _, _, _, cD_79, rfl⟩
theorem oD_86_Di_pushBy : OI YD 86 y_Di_pushBy := ⟨by decide, _, _, _, cD_86, rfl⟩
theorem aD_88 : AI YD 88 (.int) 60 := ⟨by decide, cD_88, by decide⟩
/-! the class spends a day -/
/-- a rule in the class's book -/
def RCL (μ : Mem) (r R : Int) (D : List CLS) : Prop := (0 ≤ r ∧ r < R) ∧ μ 79 1 = R ∧ R ≤ 6 ∧ LST (μ 80) (401 * r) (flC D) ∧ μ 81 r = ((flC D).length : Int) ∧ ((flC D).length : Int) ≤ 400 ∧ ∀ x ∈ D, WFc x
theorem RCL.keep {μ ν : Mem} {r R : Int} {D : List CLS} (h : RCL μ r R D) (e1 : ν 79 1 = μ 79 1) (e2 : ν 80 = μ 80) (e3 : ν 81 = μ 81) : RCL ν r R D := by
  unfold RCL; rw [e1, e2, e3]; exact h
theorem RCL.dy {μ ν : Mem} {r R : Int} {D : List CLS} (h : RCL μ r R D) (f : Fr Wdy μ ν) : RCL ν r R D := h.keep (f 79 1 (by unfold Wdy; omega)) (f.row (fun i q => by unfold Wdy at q; omega)) (f.row (fun i q => by unfold Wdy at q; omega))
theorem CDS.sk {μ ν : Mem} {S lo up dn lk : Int → Int} {σ : DS} (h : CDS μ S lo up dn lk σ) (f : Fr Wsk μ ν) : CDS ν S lo up dn lk σ := by
  obtain ⟨h1, ⟨h2, h3, h4⟩, h5⟩ := h
  refine ⟨h1.fr f (fun c i q => by unfold gxc at q; unfold Wsk; omega), ⟨(f 86 2 (by unfold Wsk; omega)).trans h2, (f 86 3 (by unfold Wsk; omega)).trans h3, (f 86 4 (by unfold Wsk; omega)).trans h4⟩, fun y y0 y1 => ?_⟩
  rw [f 87 y (by unfold Wsk; omega), f 63 y (by unfold Wsk; omega)]; exact h5 y y0 y1
theorem CDS.pas {μ : Mem} {S lo up dn lk : Int → Int} {σ : DS} {d v : Int} (h : CDS μ S lo up dn lk σ) (hv : v = σ.2.1 + (if opn S (pts S) d (σ.1 d) = true then 1 else 0)) : CDS (mset μ 86 2 v) S lo up dn lk (pas S d σ) := by
  obtain ⟨h1, ⟨h2, h3, h4⟩, h5⟩ := h
  exact ⟨h1.keep (fun c i q => mset_o (by unfold gxc at q; omega)), ⟨hv, h3, h4⟩, h5⟩
section CMS
variable {S lo up dn lk g : Int → Int} {D : List CLS} {N i d : Int} {f : Nat} {σ : DS}
theorem cms_y (h : i < N) : cms S lo up dn lk D g N (f + 1) i σ = cms S lo up dn lk D g N f (i + 1) (cmg S lo up dn lk D (g i) i σ) := by
  show (if i < N then _ else _) = _
  rw [if_pos h]
theorem cms_n (h : ¬ i < N) : cms S lo up dn lk D g N (f + 1) i σ = σ := by
  show (if i < N then _ else _) = _
  rw [if_neg h]
theorem cmg_o (h : opn S (pts S) d (σ.1 d) = true) : cmg S lo up dn lk D d i σ = pas S d σ := by unfold cmg; rw [if_pos h]
theorem cmg_s (h : opn S (pts S) d (σ.1 d) = false) : cmg S lo up dn lk D d i σ = pas S d (psd S lo up dn lk (tfD (wrd S σ.1 d i) D) d σ) := by unfold cmg; rw [if_neg (by rw [h]; decide)]
end CMS
theorem GX.spots {μ μ' : Mem} {S lo up dn lk pl : Int → Int} (h : GX μ S lo up dn lk pl) (f : ∀ c i, c ≠ 9 → gxc c i → μ' c i = μ c i) (q : ∀ y, 0 ≤ y → y < S 0 → μ' 9 y = μ 9 y) : GX μ' S lo up dn lk pl := by
  have k := (h.keep (ν := fun c i => if c = 9 then μ 9 i else μ' c i) (fun c i g => by
    show (if c = 9 then μ 9 i else μ' c i) = μ c i
    by_cases e : c = 9
    · rw [if_pos e, e]
    · rw [if_neg e]; exact f c i e g))
  obtain ⟨hS, hT, hH, hF, hp, hb⟩ := k
  exact ⟨hS, hT, hH, hF, fun d d0 d1 => by rw [q d d0 d1]; exact hp d d0 d1, hb⟩
set_option maxHeartbeats 4000000 in
theorem s_spend_11 : ∀ (f : Nat) {μ : Mem} {Q : PV → Mem → Prop} {S lo up dn lk g : Int → Int} {D : List CLS} {σ : DS} {K kp k r R N i : Int}, ((N - i).toNat < f) → (CDS μ S lo up dn lk σ) → (DSI S K kp k σ) → (RCL μ r R D) → (k + (N - i) ≤ 4000) → (K + (kp + (N - i)) * 2799360000000 ≤ 100000000000000000) → (0 ≤ N ∧ N ≤ 40) → (0 ≤ i ∧ i ≤ N) → (∀ j, 0 ≤ j → j < N → μ 11 j = g j ∧ (0 ≤ g j ∧ g j < S 0)) → (∀ μ', Fr Wdy μ μ' → CDS μ' S lo up dn lk (cms S lo up dn lk D g N f i σ) → Q vU μ') → Rj YD y_Di_spend 3 [vA 86, vI r, vA 11, vI N, vI i] [] μ Q := by
  intro f
  induction f with
  | zero => intro μ Q S lo up dn lk g D σ K kp k r R N i hf hC hI hRu hk hK hN hi hg hQ; exact absurd hf (by omega)
  | succ f ih =>
    intro μ Q S lo up dn lk g D σ K kp k r R N i hf hC hI hRu hk hK hN hi hg hQ
    obtain ⟨h, ⟨k2, k3, k4⟩, hw⟩ := id hC
    obtain ⟨z0, z1, z2, z3, z4, z5, z6, z7⟩ := h.z
    have i1 := hI.1
    refine Rj_iload (q := 5) d_Di_spend_3 rfl rfl ?_
    refine Rj_iload_n (q := 6) d_Di_spend_5 rfl rfl rfl ?_
    refine Rj_icmp_ge (q := 9) (t := 99) d_Di_spend_6 rfl (by decide) ⟨by omega, by omega⟩ ⟨by omega, by omega⟩ (fun c6 => ?_) (fun c6 => ?_)
    · refine Rj_vret d_Di_spend_99 rfl ?_
      exact hQ μ (Fr.refl _ _) (by rw [cms_n (by omega)]; exact hC)
    · have gi := hg i hi.1 (by omega)
      have hd := gi.2
      refine Rj_iload (q := 11) d_Di_spend_9 rfl rfl ?_
      refine Rj_aload_n (q := 12) d_Di_spend_11 rfl rfl rfl ?_
      refine Rj_al (q := 13) (zn := 40) aD_11 rfl rfl d_Di_spend_12 rfl ?_
      refine Rj_icmp_ge (q := 16) (t := 99) d_Di_spend_13 rfl (by decide) ⟨by omega, by omega⟩ (by decide) (fun c13 => ?_) (fun c13 => ?_)
      · exact absurd c13 (by omega)
      · refine Rj_aload_n (q := 17) d_Di_spend_16 rfl rfl rfl ?_
        refine Rj_iload (q := 19) d_Di_spend_17 rfl rfl ?_
        refine Rj_ia (q := 20) (v := g i) aD_11 rfl (by omega) gi.1 d_Di_spend_19 rfl ?_
        refine Rj_istore (q := 22) (ls' := [vA 86, vI r, vA 11, vI N, vI i, vI (g i)]) d_Di_spend_20 rfl (by decide) rfl ?_
        refine Rj_aload_n (q := 23) d_Di_spend_22 rfl rfl rfl ?_
        refine Rj_gr (q := 26) (zd := 59) gD_Di_15_86 rfl rfl d_Di_spend_23 rfl ?_
        refine Rj_gr (q := 29) (zd := 3) gD_Di_39_59 rfl rfl d_Di_spend_26 rfl ?_
        refine Rj_iload (q := 31) d_Di_spend_29 rfl rfl ?_
        refine Rj_vo (q := 34) (z := y_Sc_isDoor) (as := [vI (g i)]) (rest := []) (la := [vA 3, vI (g i)]) oD_3_Sc_isDoor ml_Di_45 mw_Sc_isDoor mv_Sc_isDoor rfl d_Di_spend_31 rfl rfl rfl rfl rfl ?_
        refine Rj_iload_n (q := 1) d_Sc_isDoor_0 rfl rfl rfl ?_
        refine Rj_if_lt (q := 4) (t := 16) d_Sc_isDoor_1 rfl (by decide) ⟨by omega, by omega⟩ (fun c31_1 => ?_) (fun c31_1 => ?_)
        · exact absurd c31_1 (by omega)
        · refine Rj_iload_n (q := 5) d_Sc_isDoor_4 rfl rfl rfl ?_
          refine Rj_aload_n (q := 6) d_Sc_isDoor_5 rfl rfl rfl ?_
          refine Rj_gi (q := 9) (ki := 0) (v := S 0) gD_Sc_37_3 rfl rfl z2 d_Sc_isDoor_6 rfl ?_
          refine Rj_icmp_ge (q := 12) (t := 16) d_Sc_isDoor_9 rfl (by decide) ⟨by omega, by omega⟩ ⟨by omega, by omega⟩ (fun c31_9 => ?_) (fun c31_9 => ?_)
          · exact absurd c31_9 (by omega)
          · refine Rj_iconst (q := 13) d_Sc_isDoor_12 rfl ?_
            refine Rj_goto (t := 17) d_Sc_isDoor_13 (by decide) ?_
            refine Rj_bret1 d_Sc_isDoor_17 rfl ?_
            refine Rj_if_eq (q := 37) (t := 93) d_Di_spend_34 rfl (by decide) (by decide) (fun c => absurd c (by decide)) (fun _ => ?_)
            refine Rj_aload_n (q := 38) d_Di_spend_37 rfl rfl rfl ?_
            refine Rj_gr (q := 41) (zd := 59) gD_Di_15_86 rfl rfl d_Di_spend_38 rfl ?_
            refine Rj_iload (q := 43) d_Di_spend_41 rfl rfl ?_
            refine Rj_vo (q := 46) (z := y_Ge_isOpen) (as := [vI (g i)]) (rest := []) (la := [vA 59, vI (g i)]) oD_59_Ge_isOpen ml_Di_51 mw_Ge_isOpen mv_Ge_isOpen rfl d_Di_spend_43 rfl rfl rfl rfl rfl ?_
            refine s_isOpen h hd ?_
            refine Rj_b_ne (q := 49) (t := 67) d_Di_spend_46 rfl (by decide) (fun c46 => ?_) (fun c46 => ?_)
            · refine Rj_aload_n (q := 68) d_Di_spend_67 rfl rfl rfl ?_
              refine Rj_dup (q := 69) d_Di_spend_68 rfl (by intro h; cases h) ?_
              refine Rj_gi (q := 72) (ki := 2) (v := σ.2.1) gD_Di_23_86 rfl rfl k2 d_Di_spend_69 rfl ?_
              refine Rj_aload_n (q := 73) d_Di_spend_72 rfl rfl rfl ?_
              refine Rj_gr (q := 76) (zd := 59) gD_Di_15_86 rfl rfl d_Di_spend_73 rfl ?_
              refine Rj_iload (q := 78) d_Di_spend_76 rfl rfl ?_
              refine Rj_vo (q := 81) (z := y_Ge_isOpen) (as := [vI (g i)]) (rest := [vI (σ.2.1), vA 86]) (la := [vA 59, vI (g i)]) oD_59_Ge_isOpen ml_Di_51 mw_Ge_isOpen mv_Ge_isOpen rfl d_Di_spend_78 rfl rfl rfl rfl rfl ?_
              refine s_isOpen h hd ?_
              refine Rj_b_eq (q := 84) (t := 88) d_Di_spend_81 rfl (by decide) (fun c81 => ?_) (fun c81 => ?_)
              · exact absurd (c46.symm.trans c81) (by decide)
              · refine Rj_iconst (q := 85) d_Di_spend_84 rfl ?_
                refine Rj_goto (t := 89) d_Di_spend_85 (by decide) ?_
                refine Rj_iadd (q := 90) d_Di_spend_89 rfl ?_
                refine Rj_pi (q := 93) (ki := 2) pD_Di_23_86 rfl rfl d_Di_spend_90 rfl ?_
                refine Rj_iinc (q := 96) (ls' := [vA 86, vI r, vA 11, vI N, vI (i + 1), vI (g i)]) d_Di_spend_93 rfl rfl (by decide) rfl ?_
                refine Rj_goto (t := 3) d_Di_spend_96 (by decide) ?_
                refine Rj_pre (ls' := [vA 86, vI r, vA 11, vI N, vI (i + 1)]) (t := [vI (g i)]) rfl ?_
                have ec : cmg S lo up dn lk D (g i) i σ = pas S (g i) σ := cmg_o c46
                have cM : CDS ((mset μ 86 2 (σ.2.1 + 1))) S lo up dn lk (cmg S lo up dn lk D (g i) i σ) := by rw [ec]; exact hC.pas (by rw [if_pos c46])
                have fM : Fr Wdy μ ((mset μ 86 2 (σ.2.1 + 1))) := Fr.put (Fr.refl _ _) (by unfold Wdy; omega)
                refine ih (μ := (mset μ 86 2 (σ.2.1 + 1))) (σ := cmg S lo up dn lk D (g i) i σ) (kp := kp + 1) (k := k + 1) (i := i + 1) (by omega) cM (cmg_I h.1 h.2.2.1 hd hI) (hRu.dy fM) (by omega) (by omega) hN (by omega) (fun j j0 j1 => ⟨(fM 11 j (by unfold Wdy; omega)).trans (hg j j0 j1).1, (hg j j0 j1).2⟩) (fun m b1 b2 => hQ m (fM.trans b1) ?_)
                rw [cms_y (by omega)]; exact b2
            · refine Rj_aload_n (q := 50) d_Di_spend_49 rfl rfl rfl ?_
              refine Rj_aload_n (q := 51) d_Di_spend_50 rfl rfl rfl ?_
              refine Rj_gr (q := 54) (zd := 79) gD_Di_19_86 rfl rfl d_Di_spend_51 rfl ?_
              refine Rj_iload_n (q := 55) d_Di_spend_54 rfl rfl rfl ?_
              refine Rj_iload (q := 57) d_Di_spend_55 rfl rfl ?_
              refine Rj_iload (q := 59) d_Di_spend_57 rfl rfl ?_
              refine Rj_vo (q := 62) (z := y_Bo_teethFor) (as := [vI r, vI (g i), vI i]) (rest := [vA 86]) (la := [vA 79, vI r, vI (g i), vI i]) oD_79_Bo_teethFor ml_Di_54 mw_Bo_teethFor mv_Bo_teethFor rfl d_Di_spend_59 rfl rfl rfl rfl rfl ?_
              refine s_teethFor (R := R) h hd (by omega) hRu.1 hRu.2.1 hRu.2.2.1 hRu.2.2.2.1 hRu.2.2.2.2.1 hRu.2.2.2.2.2.1 hRu.2.2.2.2.2.2 (fun m59 f59 => ?_)
              have n60 := tfD_60 (wrd S σ.1 (g i) i) D
              refine Rj_iload (q := 64) d_Di_spend_62 rfl rfl ?_
              refine Rj_vov (q := 67) (z := y_Di_pushBy) (as := [vI (tfD (wrd S σ.1 (g i) i) D), vI (g i)]) (rest := []) (la := [vA 86, vI (tfD (wrd S σ.1 (g i) i) D), vI (g i)]) oD_86_Di_pushBy ml_Di_60 mw_Di_pushBy mv_Di_pushBy rfl d_Di_spend_64 rfl rfl rfl rfl rfl ?_
              refine s_pushBy (hC.sk f59) hI (by omega) (by omega) hd n60 (fun m64 f64 c64 => ?_)
              have fr64 : Fr Wdy μ m64 := (Fr.wide f59 (fun c i q => by unfold Wsk at q; unfold Wdy; omega)).trans f64
              refine Rj_aload_n (q := 68) d_Di_spend_67 rfl rfl rfl ?_
              refine Rj_dup (q := 69) d_Di_spend_68 rfl (by intro h; cases h) ?_
              refine Rj_gi (q := 72) (ki := 2) (v := σ.2.1) gD_Di_23_86 rfl rfl (c64.2.1.1.trans (psd_p _ _ _)) d_Di_spend_69 rfl ?_
              refine Rj_aload_n (q := 73) d_Di_spend_72 rfl rfl rfl ?_
              refine Rj_gr (q := 76) (zd := 59) gD_Di_15_86 rfl rfl d_Di_spend_73 rfl ?_
              refine Rj_iload (q := 78) d_Di_spend_76 rfl rfl ?_
              refine Rj_vo (q := 81) (z := y_Ge_isOpen) (as := [vI (g i)]) (rest := [vI (σ.2.1), vA 86]) (la := [vA 59, vI (g i)]) oD_59_Ge_isOpen ml_Di_51 mw_Ge_isOpen mv_Ge_isOpen rfl d_Di_spend_78 rfl rfl rfl rfl rfl ?_
              refine s_isOpen c64.1 hd ?_
              refine Rj_b_eq (q := 84) (t := 88) d_Di_spend_81 rfl (by decide) (fun c81 => ?_) (fun c81 => ?_)
              · refine Rj_iconst (q := 89) d_Di_spend_88 rfl ?_
                refine Rj_iadd (q := 90) d_Di_spend_89 rfl ?_
                refine Rj_pi (q := 93) (ki := 2) pD_Di_23_86 rfl rfl d_Di_spend_90 rfl ?_
                refine Rj_iinc (q := 96) (ls' := [vA 86, vI r, vA 11, vI N, vI (i + 1), vI (g i)]) d_Di_spend_93 rfl rfl (by decide) rfl ?_
                refine Rj_goto (t := 3) d_Di_spend_96 (by decide) ?_
                refine Rj_pre (ls' := [vA 86, vI r, vA 11, vI N, vI (i + 1)]) (t := [vI (g i)]) rfl ?_
                have ec : cmg S lo up dn lk D (g i) i σ = pas S (g i) (psd S lo up dn lk (tfD (wrd S σ.1 (g i) i) D) (g i) σ) := cmg_s c46
                have cM : CDS ((mset m64 86 2 (σ.2.1 + 0))) S lo up dn lk (cmg S lo up dn lk D (g i) i σ) := by rw [ec]; exact c64.pas (by rw [psd_p, if_neg (by rw [c81]; decide)])
                have fM : Fr Wdy μ ((mset m64 86 2 (σ.2.1 + 0))) := Fr.put fr64 (by unfold Wdy; omega)
                refine ih (μ := (mset m64 86 2 (σ.2.1 + 0))) (σ := cmg S lo up dn lk D (g i) i σ) (kp := kp + 1) (k := k + 1) (i := i + 1) (by omega) cM (cmg_I h.1 h.2.2.1 hd hI) (hRu.dy fM) (by omega) (by omega) hN (by omega) (fun j j0 j1 => ⟨(fM 11 j (by unfold Wdy; omega)).trans (hg j j0 j1).1, (hg j j0 j1).2⟩) (fun m b1 b2 => hQ m (fM.trans b1) ?_)
                rw [cms_y (by omega)]; exact b2
              · refine Rj_iconst (q := 85) d_Di_spend_84 rfl ?_
                refine Rj_goto (t := 89) d_Di_spend_85 (by decide) ?_
                refine Rj_iadd (q := 90) d_Di_spend_89 rfl ?_
                refine Rj_pi (q := 93) (ki := 2) pD_Di_23_86 rfl rfl d_Di_spend_90 rfl ?_
                refine Rj_iinc (q := 96) (ls' := [vA 86, vI r, vA 11, vI N, vI (i + 1), vI (g i)]) d_Di_spend_93 rfl rfl (by decide) rfl ?_
                refine Rj_goto (t := 3) d_Di_spend_96 (by decide) ?_
                refine Rj_pre (ls' := [vA 86, vI r, vA 11, vI N, vI (i + 1)]) (t := [vI (g i)]) rfl ?_
                have ec : cmg S lo up dn lk D (g i) i σ = pas S (g i) (psd S lo up dn lk (tfD (wrd S σ.1 (g i) i) D) (g i) σ) := cmg_s c46
                have cM : CDS ((mset m64 86 2 (σ.2.1 + 1))) S lo up dn lk (cmg S lo up dn lk D (g i) i σ) := by rw [ec]; exact c64.pas (by rw [psd_p, if_pos c81])
                have fM : Fr Wdy μ ((mset m64 86 2 (σ.2.1 + 1))) := Fr.put fr64 (by unfold Wdy; omega)
                refine ih (μ := (mset m64 86 2 (σ.2.1 + 1))) (σ := cmg S lo up dn lk D (g i) i σ) (kp := kp + 1) (k := k + 1) (i := i + 1) (by omega) cM (cmg_I h.1 h.2.2.1 hd hI) (hRu.dy fM) (by omega) (by omega) hN (by omega) (fun j j0 j1 => ⟨(fM 11 j (by unfold Wdy; omega)).trans (hg j j0 j1).1, (hg j j0 j1).2⟩) (fun m b1 b2 => hQ m (fM.trans b1) ?_)
                rw [cms_y (by omega)]; exact b2
set_option maxHeartbeats 4000000 in
theorem s_spend11 {μ : Mem} {Q : PV → Mem → Prop} {S lo up dn lk g : Int → Int} {D : List CLS} {σ : DS} {K kp k r R N : Int} (hC : CDS μ S lo up dn lk σ) (hI : DSI S K kp k σ) (hRu : RCL μ r R D) (hk : k + N ≤ 4000) (hK : K + (kp + N) * 2799360000000 ≤ 100000000000000000) (hN : 0 ≤ N ∧ N ≤ 40) (hg : ∀ j, 0 ≤ j → j < N → μ 11 j = g j ∧ (0 ≤ g j ∧ g j < S 0)) (hQ : ∀ μ', Fr Wdy μ μ' → CDS μ' S lo up dn lk (cms S lo up dn lk D g N 61 0 σ) → Q vU μ') : Rj YD y_Di_spend 0 [vA 86, vI r, vA 11, vI N] [] μ Q := by
  refine Rj_iconst (q := 1) d_Di_spend_0 rfl ?_
  refine Rj_istore (q := 3) (ls' := [vA 86, vI r, vA 11, vI N, vI 0]) d_Di_spend_1 rfl (by decide) rfl ?_
  exact s_spend_11 61 (by omega) hC hI hRu (by omega) (by omega) hN (by omega) hg hQ
set_option maxHeartbeats 4000000 in
theorem s_spend_88 : ∀ (f : Nat) {μ : Mem} {Q : PV → Mem → Prop} {S lo up dn lk g : Int → Int} {D : List CLS} {σ : DS} {K kp k r R N i : Int}, ((N - i).toNat < f) → (CDS μ S lo up dn lk σ) → (DSI S K kp k σ) → (RCL μ r R D) → (k + (N - i) ≤ 4000) → (K + (kp + (N - i)) * 2799360000000 ≤ 100000000000000000) → (0 ≤ N ∧ N ≤ 60) → (0 ≤ i ∧ i ≤ N) → (∀ j, 0 ≤ j → j < N → μ 88 j = g j ∧ (0 ≤ g j ∧ g j < S 0)) → (∀ μ', Fr Wdy μ μ' → CDS μ' S lo up dn lk (cms S lo up dn lk D g N f i σ) → Q vU μ') → Rj YD y_Di_spend 3 [vA 86, vI r, vA 88, vI N, vI i] [] μ Q := by
  intro f
  induction f with
  | zero => intro μ Q S lo up dn lk g D σ K kp k r R N i hf hC hI hRu hk hK hN hi hg hQ; exact absurd hf (by omega)
  | succ f ih =>
    intro μ Q S lo up dn lk g D σ K kp k r R N i hf hC hI hRu hk hK hN hi hg hQ
    obtain ⟨h, ⟨k2, k3, k4⟩, hw⟩ := id hC
    obtain ⟨z0, z1, z2, z3, z4, z5, z6, z7⟩ := h.z
    have i1 := hI.1
    refine Rj_iload (q := 5) d_Di_spend_3 rfl rfl ?_
    refine Rj_iload_n (q := 6) d_Di_spend_5 rfl rfl rfl ?_
    refine Rj_icmp_ge (q := 9) (t := 99) d_Di_spend_6 rfl (by decide) ⟨by omega, by omega⟩ ⟨by omega, by omega⟩ (fun c6 => ?_) (fun c6 => ?_)
    · refine Rj_vret d_Di_spend_99 rfl ?_
      exact hQ μ (Fr.refl _ _) (by rw [cms_n (by omega)]; exact hC)
    · have gi := hg i hi.1 (by omega)
      have hd := gi.2
      refine Rj_iload (q := 11) d_Di_spend_9 rfl rfl ?_
      refine Rj_aload_n (q := 12) d_Di_spend_11 rfl rfl rfl ?_
      refine Rj_al (q := 13) (zn := 60) aD_88 rfl rfl d_Di_spend_12 rfl ?_
      refine Rj_icmp_ge (q := 16) (t := 99) d_Di_spend_13 rfl (by decide) ⟨by omega, by omega⟩ (by decide) (fun c13 => ?_) (fun c13 => ?_)
      · exact absurd c13 (by omega)
      · refine Rj_aload_n (q := 17) d_Di_spend_16 rfl rfl rfl ?_
        refine Rj_iload (q := 19) d_Di_spend_17 rfl rfl ?_
        refine Rj_ia (q := 20) (v := g i) aD_88 rfl (by omega) gi.1 d_Di_spend_19 rfl ?_
        refine Rj_istore (q := 22) (ls' := [vA 86, vI r, vA 88, vI N, vI i, vI (g i)]) d_Di_spend_20 rfl (by decide) rfl ?_
        refine Rj_aload_n (q := 23) d_Di_spend_22 rfl rfl rfl ?_
        refine Rj_gr (q := 26) (zd := 59) gD_Di_15_86 rfl rfl d_Di_spend_23 rfl ?_
        refine Rj_gr (q := 29) (zd := 3) gD_Di_39_59 rfl rfl d_Di_spend_26 rfl ?_
        refine Rj_iload (q := 31) d_Di_spend_29 rfl rfl ?_
        refine Rj_vo (q := 34) (z := y_Sc_isDoor) (as := [vI (g i)]) (rest := []) (la := [vA 3, vI (g i)]) oD_3_Sc_isDoor ml_Di_45 mw_Sc_isDoor mv_Sc_isDoor rfl d_Di_spend_31 rfl rfl rfl rfl rfl ?_
        refine Rj_iload_n (q := 1) d_Sc_isDoor_0 rfl rfl rfl ?_
        refine Rj_if_lt (q := 4) (t := 16) d_Sc_isDoor_1 rfl (by decide) ⟨by omega, by omega⟩ (fun c31_1 => ?_) (fun c31_1 => ?_)
        · exact absurd c31_1 (by omega)
        · refine Rj_iload_n (q := 5) d_Sc_isDoor_4 rfl rfl rfl ?_
          refine Rj_aload_n (q := 6) d_Sc_isDoor_5 rfl rfl rfl ?_
          refine Rj_gi (q := 9) (ki := 0) (v := S 0) gD_Sc_37_3 rfl rfl z2 d_Sc_isDoor_6 rfl ?_
          refine Rj_icmp_ge (q := 12) (t := 16) d_Sc_isDoor_9 rfl (by decide) ⟨by omega, by omega⟩ ⟨by omega, by omega⟩ (fun c31_9 => ?_) (fun c31_9 => ?_)
          · exact absurd c31_9 (by omega)
          · refine Rj_iconst (q := 13) d_Sc_isDoor_12 rfl ?_
            refine Rj_goto (t := 17) d_Sc_isDoor_13 (by decide) ?_
            refine Rj_bret1 d_Sc_isDoor_17 rfl ?_
            refine Rj_if_eq (q := 37) (t := 93) d_Di_spend_34 rfl (by decide) (by decide) (fun c => absurd c (by decide)) (fun _ => ?_)
            refine Rj_aload_n (q := 38) d_Di_spend_37 rfl rfl rfl ?_
            refine Rj_gr (q := 41) (zd := 59) gD_Di_15_86 rfl rfl d_Di_spend_38 rfl ?_
            refine Rj_iload (q := 43) d_Di_spend_41 rfl rfl ?_
            refine Rj_vo (q := 46) (z := y_Ge_isOpen) (as := [vI (g i)]) (rest := []) (la := [vA 59, vI (g i)]) oD_59_Ge_isOpen ml_Di_51 mw_Ge_isOpen mv_Ge_isOpen rfl d_Di_spend_43 rfl rfl rfl rfl rfl ?_
            refine s_isOpen h hd ?_
            refine Rj_b_ne (q := 49) (t := 67) d_Di_spend_46 rfl (by decide) (fun c46 => ?_) (fun c46 => ?_)
            · refine Rj_aload_n (q := 68) d_Di_spend_67 rfl rfl rfl ?_
              refine Rj_dup (q := 69) d_Di_spend_68 rfl (by intro h; cases h) ?_
              refine Rj_gi (q := 72) (ki := 2) (v := σ.2.1) gD_Di_23_86 rfl rfl k2 d_Di_spend_69 rfl ?_
              refine Rj_aload_n (q := 73) d_Di_spend_72 rfl rfl rfl ?_
              refine Rj_gr (q := 76) (zd := 59) gD_Di_15_86 rfl rfl d_Di_spend_73 rfl ?_
              refine Rj_iload (q := 78) d_Di_spend_76 rfl rfl ?_
              refine Rj_vo (q := 81) (z := y_Ge_isOpen) (as := [vI (g i)]) (rest := [vI (σ.2.1), vA 86]) (la := [vA 59, vI (g i)]) oD_59_Ge_isOpen ml_Di_51 mw_Ge_isOpen mv_Ge_isOpen rfl d_Di_spend_78 rfl rfl rfl rfl rfl ?_
              refine s_isOpen h hd ?_
              refine Rj_b_eq (q := 84) (t := 88) d_Di_spend_81 rfl (by decide) (fun c81 => ?_) (fun c81 => ?_)
              · exact absurd (c46.symm.trans c81) (by decide)
              · refine Rj_iconst (q := 85) d_Di_spend_84 rfl ?_
                refine Rj_goto (t := 89) d_Di_spend_85 (by decide) ?_
                refine Rj_iadd (q := 90) d_Di_spend_89 rfl ?_
                refine Rj_pi (q := 93) (ki := 2) pD_Di_23_86 rfl rfl d_Di_spend_90 rfl ?_
                refine Rj_iinc (q := 96) (ls' := [vA 86, vI r, vA 88, vI N, vI (i + 1), vI (g i)]) d_Di_spend_93 rfl rfl (by decide) rfl ?_
                refine Rj_goto (t := 3) d_Di_spend_96 (by decide) ?_
                refine Rj_pre (ls' := [vA 86, vI r, vA 88, vI N, vI (i + 1)]) (t := [vI (g i)]) rfl ?_
                have ec : cmg S lo up dn lk D (g i) i σ = pas S (g i) σ := cmg_o c46
                have cM : CDS ((mset μ 86 2 (σ.2.1 + 1))) S lo up dn lk (cmg S lo up dn lk D (g i) i σ) := by rw [ec]; exact hC.pas (by rw [if_pos c46])
                have fM : Fr Wdy μ ((mset μ 86 2 (σ.2.1 + 1))) := Fr.put (Fr.refl _ _) (by unfold Wdy; omega)
                refine ih (μ := (mset μ 86 2 (σ.2.1 + 1))) (σ := cmg S lo up dn lk D (g i) i σ) (kp := kp + 1) (k := k + 1) (i := i + 1) (by omega) cM (cmg_I h.1 h.2.2.1 hd hI) (hRu.dy fM) (by omega) (by omega) hN (by omega) (fun j j0 j1 => ⟨(fM 88 j (by unfold Wdy; omega)).trans (hg j j0 j1).1, (hg j j0 j1).2⟩) (fun m b1 b2 => hQ m (fM.trans b1) ?_)
                rw [cms_y (by omega)]; exact b2
            · refine Rj_aload_n (q := 50) d_Di_spend_49 rfl rfl rfl ?_
              refine Rj_aload_n (q := 51) d_Di_spend_50 rfl rfl rfl ?_
              refine Rj_gr (q := 54) (zd := 79) gD_Di_19_86 rfl rfl d_Di_spend_51 rfl ?_
              refine Rj_iload_n (q := 55) d_Di_spend_54 rfl rfl rfl ?_
              refine Rj_iload (q := 57) d_Di_spend_55 rfl rfl ?_
              refine Rj_iload (q := 59) d_Di_spend_57 rfl rfl ?_
              refine Rj_vo (q := 62) (z := y_Bo_teethFor) (as := [vI r, vI (g i), vI i]) (rest := [vA 86]) (la := [vA 79, vI r, vI (g i), vI i]) oD_79_Bo_teethFor ml_Di_54 mw_Bo_teethFor mv_Bo_teethFor rfl d_Di_spend_59 rfl rfl rfl rfl rfl ?_
              refine s_teethFor (R := R) h hd (by omega) hRu.1 hRu.2.1 hRu.2.2.1 hRu.2.2.2.1 hRu.2.2.2.2.1 hRu.2.2.2.2.2.1 hRu.2.2.2.2.2.2 (fun m59 f59 => ?_)
              have n60 := tfD_60 (wrd S σ.1 (g i) i) D
              refine Rj_iload (q := 64) d_Di_spend_62 rfl rfl ?_
              refine Rj_vov (q := 67) (z := y_Di_pushBy) (as := [vI (tfD (wrd S σ.1 (g i) i) D), vI (g i)]) (rest := []) (la := [vA 86, vI (tfD (wrd S σ.1 (g i) i) D), vI (g i)]) oD_86_Di_pushBy ml_Di_60 mw_Di_pushBy mv_Di_pushBy rfl d_Di_spend_64 rfl rfl rfl rfl rfl ?_
              refine s_pushBy (hC.sk f59) hI (by omega) (by omega) hd n60 (fun m64 f64 c64 => ?_)
              have fr64 : Fr Wdy μ m64 := (Fr.wide f59 (fun c i q => by unfold Wsk at q; unfold Wdy; omega)).trans f64
              refine Rj_aload_n (q := 68) d_Di_spend_67 rfl rfl rfl ?_
              refine Rj_dup (q := 69) d_Di_spend_68 rfl (by intro h; cases h) ?_
              refine Rj_gi (q := 72) (ki := 2) (v := σ.2.1) gD_Di_23_86 rfl rfl (c64.2.1.1.trans (psd_p _ _ _)) d_Di_spend_69 rfl ?_
              refine Rj_aload_n (q := 73) d_Di_spend_72 rfl rfl rfl ?_
              refine Rj_gr (q := 76) (zd := 59) gD_Di_15_86 rfl rfl d_Di_spend_73 rfl ?_
              refine Rj_iload (q := 78) d_Di_spend_76 rfl rfl ?_
              refine Rj_vo (q := 81) (z := y_Ge_isOpen) (as := [vI (g i)]) (rest := [vI (σ.2.1), vA 86]) (la := [vA 59, vI (g i)]) oD_59_Ge_isOpen ml_Di_51 mw_Ge_isOpen mv_Ge_isOpen rfl d_Di_spend_78 rfl rfl rfl rfl rfl ?_
              refine s_isOpen c64.1 hd ?_
              refine Rj_b_eq (q := 84) (t := 88) d_Di_spend_81 rfl (by decide) (fun c81 => ?_) (fun c81 => ?_)
              · refine Rj_iconst (q := 89) d_Di_spend_88 rfl ?_
                refine Rj_iadd (q := 90) d_Di_spend_89 rfl ?_
                refine Rj_pi (q := 93) (ki := 2) pD_Di_23_86 rfl rfl d_Di_spend_90 rfl ?_
                refine Rj_iinc (q := 96) (ls' := [vA 86, vI r, vA 88, vI N, vI (i + 1), vI (g i)]) d_Di_spend_93 rfl rfl (by decide) rfl ?_
                refine Rj_goto (t := 3) d_Di_spend_96 (by decide) ?_
                refine Rj_pre (ls' := [vA 86, vI r, vA 88, vI N, vI (i + 1)]) (t := [vI (g i)]) rfl ?_
                have ec : cmg S lo up dn lk D (g i) i σ = pas S (g i) (psd S lo up dn lk (tfD (wrd S σ.1 (g i) i) D) (g i) σ) := cmg_s c46
                have cM : CDS ((mset m64 86 2 (σ.2.1 + 0))) S lo up dn lk (cmg S lo up dn lk D (g i) i σ) := by rw [ec]; exact c64.pas (by rw [psd_p, if_neg (by rw [c81]; decide)])
                have fM : Fr Wdy μ ((mset m64 86 2 (σ.2.1 + 0))) := Fr.put fr64 (by unfold Wdy; omega)
                refine ih (μ := (mset m64 86 2 (σ.2.1 + 0))) (σ := cmg S lo up dn lk D (g i) i σ) (kp := kp + 1) (k := k + 1) (i := i + 1) (by omega) cM (cmg_I h.1 h.2.2.1 hd hI) (hRu.dy fM) (by omega) (by omega) hN (by omega) (fun j j0 j1 => ⟨(fM 88 j (by unfold Wdy; omega)).trans (hg j j0 j1).1, (hg j j0 j1).2⟩) (fun m b1 b2 => hQ m (fM.trans b1) ?_)
                rw [cms_y (by omega)]; exact b2
              · refine Rj_iconst (q := 85) d_Di_spend_84 rfl ?_
                refine Rj_goto (t := 89) d_Di_spend_85 (by decide) ?_
                refine Rj_iadd (q := 90) d_Di_spend_89 rfl ?_
                refine Rj_pi (q := 93) (ki := 2) pD_Di_23_86 rfl rfl d_Di_spend_90 rfl ?_
                refine Rj_iinc (q := 96) (ls' := [vA 86, vI r, vA 88, vI N, vI (i + 1), vI (g i)]) d_Di_spend_93 rfl rfl (by decide) rfl ?_
                refine Rj_goto (t := 3) d_Di_spend_96 (by decide) ?_
                refine Rj_pre (ls' := [vA 86, vI r, vA 88, vI N, vI (i + 1)]) (t := [vI (g i)]) rfl ?_
                have ec : cmg S lo up dn lk D (g i) i σ = pas S (g i) (psd S lo up dn lk (tfD (wrd S σ.1 (g i) i) D) (g i) σ) := cmg_s c46
                have cM : CDS ((mset m64 86 2 (σ.2.1 + 1))) S lo up dn lk (cmg S lo up dn lk D (g i) i σ) := by rw [ec]; exact c64.pas (by rw [psd_p, if_pos c81])
                have fM : Fr Wdy μ ((mset m64 86 2 (σ.2.1 + 1))) := Fr.put fr64 (by unfold Wdy; omega)
                refine ih (μ := (mset m64 86 2 (σ.2.1 + 1))) (σ := cmg S lo up dn lk D (g i) i σ) (kp := kp + 1) (k := k + 1) (i := i + 1) (by omega) cM (cmg_I h.1 h.2.2.1 hd hI) (hRu.dy fM) (by omega) (by omega) hN (by omega) (fun j j0 j1 => ⟨(fM 88 j (by unfold Wdy; omega)).trans (hg j j0 j1).1, (hg j j0 j1).2⟩) (fun m b1 b2 => hQ m (fM.trans b1) ?_)
                rw [cms_y (by omega)]; exact b2
set_option maxHeartbeats 4000000 in
theorem s_spend88 {μ : Mem} {Q : PV → Mem → Prop} {S lo up dn lk g : Int → Int} {D : List CLS} {σ : DS} {K kp k r R N : Int} (hC : CDS μ S lo up dn lk σ) (hI : DSI S K kp k σ) (hRu : RCL μ r R D) (hk : k + N ≤ 4000) (hK : K + (kp + N) * 2799360000000 ≤ 100000000000000000) (hN : 0 ≤ N ∧ N ≤ 60) (hg : ∀ j, 0 ≤ j → j < N → μ 88 j = g j ∧ (0 ≤ g j ∧ g j < S 0)) (hQ : ∀ μ', Fr Wdy μ μ' → CDS μ' S lo up dn lk (cms S lo up dn lk D g N 61 0 σ) → Q vU μ') : Rj YD y_Di_spend 0 [vA 86, vI r, vA 88, vI N] [] μ Q := by
  refine Rj_iconst (q := 1) d_Di_spend_0 rfl ?_
  refine Rj_istore (q := 3) (ls' := [vA 86, vI r, vA 88, vI N, vI 0]) d_Di_spend_1 rfl (by decide) rfl ?_
  exact s_spend_88 61 (by omega) hC hI hRu (by omega) (by omega) hN (by omega) hg hQ
