theorem gD_Ge_28_59 : GI YD "DoorsOnCogs$Gears" 28 59 6 (some (some 65)) := ⟨by decide, _, _, _, fl_Ge_28, cD_59, by decide, rfl⟩
theorem aD_65 : AI YD 65 (.long) 12 := ⟨by decide, cD_65, by decide⟩
theorem gD_D_97_0 : GI YD "DoorsOnCogs" 97 0 13 (some (some 86)) := ⟨by decide, _, _, _, fl_D_97, cD_0, by decide, rfl⟩
theorem oD_86_Di_clear : OI YD 86 y_Di_clear := ⟨by decide, _, _, _, cD_86, rfl⟩
theorem oD_59_Ge_keepSpots : OI YD 59 y_Ge_keepSpots := ⟨by decide, _, _, _, cD_59, rfl⟩
theorem oD_86_Di_spend : OI YD 86 y_Di_spend := ⟨by decide, _, _, _, cD_86, rfl⟩
theorem oD_59_Ge_takeSpotsBack : OI YD 59 y_Ge_takeSpotsBack := ⟨by decide, _, _, _, cD_59, rfl⟩
/-! the class's whole days -/
abbrev Wdc (c : Nat) (i : Int) : Prop := (c = 86 ∧ (i = 2 ∨ i = 3 ∨ i = 4)) ∨ c = 87
abbrev Wig (c : Nat) (i : Int) : Prop := Wdy c i ∨ c = 65
set_option maxHeartbeats 4000000 in
theorem s_diClear {μ : Mem} {Q : PV → Mem → Prop} (hQ : ∀ μ', Fr Wdc μ μ' → (μ' 86 2 = 0 ∧ μ' 86 3 = 0 ∧ μ' 86 4 = 0) → (∀ j, 0 ≤ j → j < 12 → μ' 87 j = 0) → Q vU μ') : Rj YD y_Di_clear 0 [vA 86] [] μ Q := by
  refine Rj_aload_n (q := 1) d_Di_clear_0 rfl rfl rfl ?_
  refine Rj_iconst (q := 2) d_Di_clear_1 rfl ?_
  refine Rj_pi (q := 5) (ki := 2) pD_Di_23_86 rfl rfl d_Di_clear_2 rfl ?_
  refine Rj_aload_n (q := 6) d_Di_clear_5 rfl rfl rfl ?_
  refine Rj_iconst (q := 7) d_Di_clear_6 rfl ?_
  refine Rj_pi (q := 10) (ki := 3) pD_Di_27_86 rfl rfl d_Di_clear_7 rfl ?_
  refine Rj_aload_n (q := 11) d_Di_clear_10 rfl rfl rfl ?_
  refine Rj_iconst (q := 12) d_Di_clear_11 rfl ?_
  refine Rj_pi (q := 15) (ki := 4) pD_Di_30_86 rfl rfl d_Di_clear_12 rfl ?_
  refine Rj_aload_n (q := 16) d_Di_clear_15 rfl rfl rfl ?_
  refine Rj_gr (q := 19) (zd := 87) gD_Di_9_86 rfl rfl d_Di_clear_16 rfl ?_
  refine Rj_lconst (q := 20) (z := 0) d_Di_clear_19 rfl rfl ?_
  refine Rj_csv (q := 23) (z := y_Jarr_fill_aJJ) (as := [vA 87, vL 0]) (rest := []) (la := [vA 87, vL 0, vU]) ml_Di_33 mw_Jarr_fill_aJJ ms_Jarr_fill_aJJ d_Di_clear_20 rfl rfl rfl rfl rfl ?_
  refine s_Jarr_fill_aJJ aD_87 rfl (fun m20 f20 q20 => ?_)
  refine Rj_vret d_Di_clear_23 rfl ?_
  exact hQ m20 (Fr.trans (Fr.put (Fr.put (Fr.put (Fr.refl _ _) (by decide)) (by decide)) (by decide)) (Fr.wide f20 (fun c i h => by subst h; simp [Wdc]))) ⟨f20 86 2 (show ¬ (86 : Nat) = 87 by decide), f20 86 3 (show ¬ (86 : Nat) = 87 by decide), f20 86 4 (show ¬ (86 : Nat) = 87 by decide)⟩ (fun j j0 j1 => q20 j j0 (show j < ((12 : Nat) : Int) from j1))
set_option maxHeartbeats 4000000 in
theorem s_keepSpots {μ : Mem} {Q : PV → Mem → Prop} (hQ : ∀ μ', Fr (fun c _ => c = 65) μ μ' → (∀ j, 0 ≤ j → j < 12 → μ' 65 j = μ 9 j) → Q vU μ') : Rj YD y_Ge_keepSpots 0 [vA 59] [] μ Q := by
  refine Rj_aload_n (q := 1) d_Ge_keepSpots_0 rfl rfl rfl ?_
  refine Rj_gr (q := 4) (zd := 3) gD_Ge_31_59 rfl rfl d_Ge_keepSpots_1 rfl ?_
  refine Rj_gr (q := 7) (zd := 9) gD_Ge_117_3 rfl rfl d_Ge_keepSpots_4 rfl ?_
  refine Rj_iconst (q := 8) d_Ge_keepSpots_7 rfl ?_
  refine Rj_aload_n (q := 9) d_Ge_keepSpots_8 rfl rfl rfl ?_
  refine Rj_gr (q := 12) (zd := 65) gD_Ge_28_59 rfl rfl d_Ge_keepSpots_9 rfl ?_
  refine Rj_iconst (q := 13) d_Ge_keepSpots_12 rfl ?_
  refine Rj_bipush (q := 15) d_Ge_keepSpots_13 rfl (by decide +kernel) ?_
  refine Rj_cpyl (q := 18) ml_Ge_144 aD_9 aD_65 rfl rfl (by decide) (by decide) (by decide) (by decide) (by decide) d_Ge_keepSpots_15 rfl ?_
  refine Rj_vret d_Ge_keepSpots_18 rfl ?_
  exact hQ _ (Fr.cpy (Fr.refl _ _) (fun i => rfl)) (fun j j0 j1 => mcpy_in _ _ _ _ _ j0 j1)
set_option maxHeartbeats 4000000 in
theorem s_takeSpotsBack {μ : Mem} {Q : PV → Mem → Prop} (hQ : ∀ μ', Fr (fun c _ => c = 9) μ μ' → (∀ j, 0 ≤ j → j < 12 → μ' 9 j = μ 65 j) → Q vU μ') : Rj YD y_Ge_takeSpotsBack 0 [vA 59] [] μ Q := by
  refine Rj_aload_n (q := 1) d_Ge_takeSpotsBack_0 rfl rfl rfl ?_
  refine Rj_gr (q := 4) (zd := 65) gD_Ge_28_59 rfl rfl d_Ge_takeSpotsBack_1 rfl ?_
  refine Rj_iconst (q := 5) d_Ge_takeSpotsBack_4 rfl ?_
  refine Rj_aload_n (q := 6) d_Ge_takeSpotsBack_5 rfl rfl rfl ?_
  refine Rj_gr (q := 9) (zd := 3) gD_Ge_31_59 rfl rfl d_Ge_takeSpotsBack_6 rfl ?_
  refine Rj_gr (q := 12) (zd := 9) gD_Ge_117_3 rfl rfl d_Ge_takeSpotsBack_9 rfl ?_
  refine Rj_iconst (q := 13) d_Ge_takeSpotsBack_12 rfl ?_
  refine Rj_bipush (q := 15) d_Ge_takeSpotsBack_13 rfl (by decide +kernel) ?_
  refine Rj_cpyl (q := 18) ml_Ge_144 aD_65 aD_9 rfl rfl (by decide) (by decide) (by decide) (by decide) (by decide) d_Ge_takeSpotsBack_15 rfl ?_
  refine Rj_vret d_Ge_takeSpotsBack_18 rfl ?_
  exact hQ _ (Fr.cpy (Fr.refl _ _) (fun i => rfl)) (fun j j0 j1 => mcpy_in _ _ _ _ _ j0 j1)
theorem CDS_0 {μ : Mem} {S lo up dn lk pl : Int → Int} (h : GX μ S lo up dn lk pl) (h1 : μ 86 2 = 0 ∧ μ 86 3 = 0 ∧ μ 86 4 = 0) (h2 : ∀ j, 0 ≤ j → j < 12 → μ 87 j = 0) : CDS μ S lo up dn lk (s0 pl) := by
  refine ⟨h, h1, fun y y0 y1 => ?_⟩
  have := h.1.1
  rw [h2 y y0 (by omega)]
  show 0 * pts S = 0 * μ 63 y
  rw [Int.zero_mul, Int.zero_mul]
/-- the diary behind a day that was only imagined -/
def CDT (μ : Mem) (S : Int → Int) (τ : DS) : Prop := (μ 86 2 = τ.2.1 ∧ μ 86 3 = τ.2.2.1 ∧ μ 86 4 = τ.2.2.2.1) ∧ ∀ y, 0 ≤ y → y < S 0 → μ 87 y * pts S = τ.2.2.2.2 y * μ 63 y
set_option maxHeartbeats 4000000 in
theorem s_imagine {μ : Mem} {Q : PV → Mem → Prop} {S lo up dn lk pl : Int → Int} (h : GX μ S lo up dn lk pl) {K r R : Int} {D : List CLS} (hRu : RCL μ r R D) (hbk : ∀ d, 0 ≤ d → d < 12 → -K ≤ pl d ∧ pl d ≤ K) (hs : SB S pl) (h5 : μ 3 14 = S 5) (hN : 0 ≤ S 5 ∧ S 5 ≤ 40) (hg : ∀ j, 0 ≤ j → j < S 5 → μ 11 j = S (94 + j) ∧ (0 ≤ S (94 + j) ∧ S (94 + j) < S 0)) (hK : K + 40 * 2799360000000 ≤ 100000000000000000) (hQ : ∀ μ', Fr Wig μ μ' → (∀ j, 0 ≤ j → j < 12 → μ' 9 j = μ 9 j) → CDT μ' S (cms S lo up dn lk D (fun j => S (94 + j)) (S 5) 61 0 (s0 pl)) → Q (vI (opS S (pts S) (cms S lo up dn lk D (fun j => S (94 + j)) (S 5) 61 0 (s0 pl)).1 (S 0).toNat)) μ') : Rj YD y_D_imagineDay 0 [vA 0, vI r] [] μ Q := by
  refine Rj_aload_n (q := 1) d_D_imagineDay_0 rfl rfl rfl ?_
  refine Rj_gr (q := 4) (zd := 86) gD_D_97_0 rfl rfl d_D_imagineDay_1 rfl ?_
  refine Rj_vov (q := 7) (z := y_Di_clear) (as := []) (rest := []) (la := [vA 86]) oD_86_Di_clear ml_D_272 mw_Di_clear mv_Di_clear rfl d_D_imagineDay_4 rfl rfl rfl rfl rfl ?_
  refine s_diClear (fun m4 f4 a4 b4 => ?_)
  refine Rj_aload_n (q := 8) d_D_imagineDay_7 rfl rfl rfl ?_
  refine Rj_gr (q := 11) (zd := 59) gD_D_45_0 rfl rfl d_D_imagineDay_8 rfl ?_
  refine Rj_vov (q := 14) (z := y_Ge_keepSpots) (as := []) (rest := []) (la := [vA 59]) oD_59_Ge_keepSpots ml_D_294 mw_Ge_keepSpots mv_Ge_keepSpots rfl d_D_imagineDay_11 rfl rfl rfl rfl rfl ?_
  refine s_keepSpots (fun m11 f11 q11 => ?_)
  have g4 : GX m4 S lo up dn lk pl := h.fr f4 (fun c i q => by unfold gxc at q; unfold Wdc; omega)
  have g11 : GX m11 S lo up dn lk pl := g4.keep (fun c i q => f11 c i (by unfold gxc at q; omega))
  have c11 : CDS m11 S lo up dn lk (s0 pl) := CDS_0 g11 ⟨(f11 86 2 (show ¬ (86 : Nat) = 65 by decide)).trans a4.1, (f11 86 3 (show ¬ (86 : Nat) = 65 by decide)).trans a4.2.1, (f11 86 4 (show ¬ (86 : Nat) = 65 by decide)).trans a4.2.2⟩ (fun j j0 j1 => (f11 87 j (show ¬ (87 : Nat) = 65 by decide)).trans (b4 j j0 j1))
  have e11 : ∀ c i, ¬ (Wdc c i ∨ c = 65) → m11 c i = μ c i := fun c i q => (f11 c i (fun e => q (Or.inr e))).trans (f4 c i (fun e => q (Or.inl e)))
  have r11 : RCL m11 r R D := hRu.keep (e11 79 1 (by unfold Wdc; omega)) (funext fun i => e11 80 i (by unfold Wdc; omega)) (funext fun i => e11 81 i (by unfold Wdc; omega))
  refine Rj_aload_n (q := 15) d_D_imagineDay_14 rfl rfl rfl ?_
  refine Rj_gr (q := 18) (zd := 86) gD_D_97_0 rfl rfl d_D_imagineDay_15 rfl ?_
  refine Rj_iload_n (q := 19) d_D_imagineDay_18 rfl rfl rfl ?_
  refine Rj_aload_n (q := 20) d_D_imagineDay_19 rfl rfl rfl ?_
  refine Rj_gr (q := 23) (zd := 3) gD_D_25_0 rfl rfl d_D_imagineDay_20 rfl ?_
  refine Rj_gr (q := 26) (zd := 11) gD_D_266_3 rfl rfl d_D_imagineDay_23 rfl ?_
  refine Rj_aload_n (q := 27) d_D_imagineDay_26 rfl rfl rfl ?_
  refine Rj_gr (q := 30) (zd := 3) gD_D_25_0 rfl rfl d_D_imagineDay_27 rfl ?_
  refine Rj_gi (q := 33) (ki := 14) (v := S 5) gD_D_263_3 rfl rfl ((e11 3 14 (by unfold Wdc; omega)).trans h5) d_D_imagineDay_30 rfl ?_
  refine Rj_vov (q := 36) (z := y_Di_spend) (as := [vI r, vA 11, vI (S 5)]) (rest := []) (la := [vA 86, vI r, vA 11, vI (S 5)]) oD_86_Di_spend ml_D_275 mw_Di_spend mv_Di_spend rfl d_D_imagineDay_33 rfl rfl rfl rfl rfl ?_
  refine s_spend11 (g := fun j => S (94 + j)) (N := S 5) (K := K) (kp := 0) (k := 0) c11 (s0_I hbk hs) r11 (by omega) (by omega) hN (fun j j0 j1 => ⟨(e11 11 j (by unfold Wdc; omega)).trans (hg j j0 j1).1, (hg j j0 j1).2⟩) (fun m33 f33 c33 => ?_)
  refine Rj_aload_n (q := 37) d_D_imagineDay_36 rfl rfl rfl ?_
  refine Rj_gr (q := 40) (zd := 59) gD_D_45_0 rfl rfl d_D_imagineDay_37 rfl ?_
  refine Rj_vo (q := 43) (z := y_Ge_openSet) (as := []) (rest := []) (la := [vA 59]) oD_59_Ge_openSet ml_D_297 mw_Ge_openSet mv_Ge_openSet rfl d_D_imagineDay_40 rfl rfl rfl rfl rfl ?_
  refine s_openSet c33.1 ?_
  refine Rj_istore_n (q := 44) (ls' := [vA 0, vI r, vI (opS S (pts S) (cms S lo up dn lk D (fun j => S (94 + j)) (S 5) 61 0 (s0 pl)).1 (S 0).toNat)]) d_D_imagineDay_43 rfl rfl (by decide) rfl ?_
  refine Rj_aload_n (q := 45) d_D_imagineDay_44 rfl rfl rfl ?_
  refine Rj_gr (q := 48) (zd := 59) gD_D_45_0 rfl rfl d_D_imagineDay_45 rfl ?_
  refine Rj_vov (q := 51) (z := y_Ge_takeSpotsBack) (as := []) (rest := []) (la := [vA 59]) oD_59_Ge_takeSpotsBack ml_D_300 mw_Ge_takeSpotsBack mv_Ge_takeSpotsBack rfl d_D_imagineDay_48 rfl rfl rfl rfl rfl ?_
  refine s_takeSpotsBack (fun m48 f48 q48 => ?_)
  refine Rj_iload_n (q := 52) d_D_imagineDay_51 rfl rfl rfl ?_
  refine Rj_iret d_D_imagineDay_52 rfl ?_
  have r48 : ∀ c i, c ≠ 9 → m48 c i = m33 c i := fun c i q => f48 c i q
  refine hQ m48 ?_ (fun j j0 j1 => ?_) ⟨⟨?_, ?_, ?_⟩, fun y y0 y1 => ?_⟩
  · intro c i q
    have q9 : c ≠ 9 := fun e => q (Or.inl (Or.inl e))
    rw [r48 c i q9, f33 c i (fun e => q (Or.inl e))]
    exact e11 c i (by unfold Wig Wdy at q; unfold Wdc; omega)
  · rw [q48 j j0 j1, f33 65 j (by unfold Wdy; omega), q11 j j0 j1]
    exact f4 9 j (by unfold Wdc; omega)
  · exact (r48 86 2 (by decide)).trans c33.2.1.1
  · exact (r48 86 3 (by decide)).trans c33.2.1.2.1
  · exact (r48 86 4 (by decide)).trans c33.2.1.2.2
  · rw [r48 87 y (by decide), r48 63 y (by decide)]; exact c33.2.2 y y0 y1
