theorem gD_D_32_0 : GI YD "DoorsOnCogs" 32 0 5 (some (some 21)) := ⟨by decide, _, _, _, fl_D_32, cD_0, by decide, rfl⟩
theorem oD_22_Sc_copyFrom : OI YD 22 y_Sc_copyFrom := ⟨by decide, _, _, _, cD_22, rfl⟩
theorem gD_D_36_0 : GI YD "DoorsOnCogs" 36 0 6 (some (some 58)) := ⟨by decide, _, _, _, fl_D_36, cD_0, by decide, rfl⟩
theorem aD_58 : AI YD 58 (.boolean) 4 := ⟨by decide, cD_58, by decide⟩
theorem oD_3_Sc_copyFrom : OI YD 3 y_Sc_copyFrom := ⟨by decide, _, _, _, cD_3, rfl⟩
theorem oD_59_Ge_fit : OI YD 59 y_Ge_fit := ⟨by decide, _, _, _, cD_59, rfl⟩
theorem oD_31_Sc_copyFrom : OI YD 31 y_Sc_copyFrom := ⟨by decide, _, _, _, cD_31, rfl⟩
theorem oD_40_Sc_copyFrom : OI YD 40 y_Sc_copyFrom := ⟨by decide, _, _, _, cD_40, rfl⟩
theorem oD_49_Sc_copyFrom : OI YD 49 y_Sc_copyFrom := ⟨by decide, _, _, _, cD_49, rfl⟩
/-! pairs of calls: image, back -/
set_option maxHeartbeats 4000000 in
theorem s_fit0 {μ : Mem} {Q : PV → Mem → Prop} {S : Int → Int} (hS : StrOK S) (hT : GT μ S) (hk : ∀ μ' lo up dn lk, Fr Wft μ μ' → Hung S 0 lo up dn lk → GF μ' S lo up dn lk → Q vU μ') : Rj YD y_Ge_fit 0 [vA 59] [] μ Q := by
  refine Rj_aload_n (q := 1) d_Ge_fit_0 rfl rfl rfl ?_
  refine Rj_iconst (q := 2) d_Ge_fit_1 rfl ?_
  refine Rj_vov (q := 5) (z := y_Ge_hang) (as := [vI 0]) (rest := []) (la := [vA 59, vI 0]) oD_59_Ge_hang ml_Ge_41 mw_Ge_hang mv_Ge_hang rfl d_Ge_fit_2 rfl rfl rfl rfl rfl ?_
  refine s_hang_59 (w := 0) hS hT.1 (by decide) (fun m f q1 q2 q3 q4 => ?_)
  refine Rj_aload_n (q := 6) d_Ge_fit_5 rfl rfl rfl ?_
  refine Rj_vov (q := 9) (z := y_Ge_measure) (as := []) (rest := []) (la := [vA 59]) oD_59_Ge_measure ml_Ge_45 mw_Ge_measure mv_Ge_measure rfl d_Ge_fit_6 rfl rfl rfl rfl rfl ?_
  have fr : Fr Wft μ m := Fr.wide f (fun c i q => by unfold Wh59 at q; unfold Wft; omega)
  have hH2 : Hung S 0 (m 60) (m 61) (m 62) (fun x => zbit (m 59 7) x) := ⟨q1, fun x x1 x2 => ⟨zbit_01 _ _, (q4 x x1).trans ⟨fun q => q.2, fun q => ⟨x2, q⟩⟩⟩⟩
  obtain ⟨a1, a2, -, -, a5, -⟩ := id q1
  refine s_measure (lk := fun x => zbit (m 59 7) x) hS (hT.1.h59 f) q1 (fun y y1 y2 => by have := a1 y y1 y2; have := hS.1; omega) (fun y y1 y2 => ⟨(HI_bd hS q1 y y1 y2 (a2 y y1 y2 y2)).1, (a5 y y1 y2 (a2 y y1 y2 y2)).2.1, (HI_bd hS q1 y y1 y2 (a2 y y1 y2 y2)).2⟩) q3 (fun d d1 d2 => Iff.rfl) (fun d d1 d2 => zbit_01 _ _) (fun m2 f2 g1 g2 => ?_)
  have r60 : m2 60 = m 60 := f2.row (fun i q => by unfold Wme at q; omega)
  have r59 : m2 59 = m 59 := f2.row (fun i q => by unfold Wme at q; omega)
  refine Rj_vret d_Ge_fit_9 rfl ?_
  refine hk m2 _ _ _ _ (fr.trans (Fr.wide f2 (fun c i q => by unfold Wme at q; unfold Wft; omega))) hH2 ⟨fun d d0 d1 => by rw [r60], ?_, ?_, g1, g2⟩
  · rw [r59]
    refine ⟨q3, fun k k1 => ⟨fun q => ⟨((q4 k k1).mp q).1, q⟩, fun q => q.2⟩⟩
  · rw [r59]; exact q2
set_option maxHeartbeats 4000000 in
theorem s_image_0 {μ : Mem} {Q : PV → Mem → Prop} {S lo up dn lk pl : Int → Int} (h : GX μ S lo up dn lk pl) (hQ : ∀ μ', Fr (fun c i => (22 ≤ c ∧ c ≤ 30) ∨ (c = 58 ∧ i = 0)) μ μ' → CPY μ μ' 22 3 → μ' 58 0 = 1 → Q (vI (opS S (pts S) pl (S 0).toNat)) μ') : Rj YD y_D_image 0 [vA 0, vI 0] [] μ Q := by
  refine Rj_iload_n (q := 1) d_D_image_0 rfl rfl rfl ?_
  refine Rj_if_lt (q := 4) (t := 9) d_D_image_1 rfl (by decide) (by decide) (fun c => absurd c (by decide)) (fun _ => ?_)
  refine Rj_iload_n (q := 5) d_D_image_4 rfl rfl rfl ?_
  refine Rj_iconst (q := 6) d_D_image_5 rfl ?_
  refine Rj_icmp_lt (q := 9) (t := 11) d_D_image_6 rfl (by decide) (by decide) (by decide) (fun _ => ?_) (fun c => absurd c (by decide))
  refine Rj_aload_n (q := 12) d_D_image_11 rfl rfl rfl ?_
  refine Rj_gr (q := 15) (zd := 21) gD_D_32_0 rfl rfl d_D_image_12 rfl ?_
  refine Rj_iload_n (q := 16) d_D_image_15 rfl rfl rfl ?_
  refine Rj_aald (q := 17) (zd := 22) rfl (by decide) cD_21 (by decide) (by decide) rfl rfl d_D_image_16 rfl ?_
  refine Rj_aload_n (q := 18) d_D_image_17 rfl rfl rfl ?_
  refine Rj_gr (q := 21) (zd := 3) gD_D_25_0 rfl rfl d_D_image_18 rfl ?_
  refine Rj_vov (q := 24) (z := y_Sc_copyFrom) (as := [vA 3]) (rest := []) (la := [vA 22, vA 3]) oD_22_Sc_copyFrom ml_D_124 mw_Sc_copyFrom mv_Sc_copyFrom rfl d_D_image_21 rfl rfl rfl rfl rfl ?_
  refine s_copy_22_3 (μ := μ) (fun m21 f21 q21 => ?_)
  refine Rj_aload_n (q := 25) d_D_image_24 rfl rfl rfl ?_
  refine Rj_gr (q := 28) (zd := 58) gD_D_36_0 rfl rfl d_D_image_25 rfl ?_
  refine Rj_iload_n (q := 29) d_D_image_28 rfl rfl rfl ?_
  refine Rj_iconst (q := 30) d_D_image_29 rfl ?_
  refine Rj_zs (q := 31) aD_58 rfl (by decide) (by omega) d_D_image_30 rfl ?_
  refine Rj_aload_n (q := 32) d_D_image_31 rfl rfl rfl ?_
  refine Rj_gr (q := 35) (zd := 59) gD_D_45_0 rfl rfl d_D_image_32 rfl ?_
  refine Rj_vo (q := 38) (z := y_Ge_openSet) (as := []) (rest := []) (la := [vA 59]) oD_59_Ge_openSet ml_D_297 mw_Ge_openSet mv_Ge_openSet rfl d_D_image_35 rfl rfl rfl rfl rfl ?_
  refine s_openSet (h.keep (fun c i q => (mset_o (by unfold gxc at q; omega)).trans (f21 c i (by unfold Wcp22; unfold gxc at q; omega)))) ?_
  refine Rj_iret d_D_image_38 rfl ?_
  refine hQ _ (Fr.put (Fr.wide f21 (fun c i q => Or.inl q)) (Or.inr ⟨rfl, rfl⟩)) ?_ (mset_same _ _ _ _)
  obtain ⟨c1, c2, c3, c4⟩ := q21
  exact ⟨c1, c2, c3, c4⟩
set_option maxHeartbeats 4000000 in
theorem s_back_0 {μ : Mem} {Q : PV → Mem → Prop} {S pl : Int → Int} (hm : μ 58 0 = 1) (hS : StrOK S) (hT : ∀ μ', CPY μ μ' 3 22 → GT μ' S) (hP : ∀ μ', CPY μ μ' 3 22 → ∀ lo up dn lk, Hung S 0 lo up dn lk → ∀ d, 0 ≤ d → d < S 0 → μ' 9 d * pts S = pl d * bel S lo up dn lk d) (hB : PB pl) (hQ : ∀ μ' lo up dn lk, Fr (fun c i => Wcp3 c i ∨ Wft c i) μ μ' → SCN μ' 3 S → GX μ' S lo up dn lk pl → Q (vI (opS S (pts S) pl (S 0).toNat)) μ') (hN : ∀ μ', CPY μ μ' 3 22 → SCN μ' 3 S) : Rj YD y_D_back 0 [vA 0, vI 0] [] μ Q := by
  refine Rj_iload_n (q := 1) d_D_back_0 rfl rfl rfl ?_
  refine Rj_if_lt (q := 4) (t := 18) d_D_back_1 rfl (by decide) (by decide) (fun c => absurd c (by decide)) (fun _ => ?_)
  refine Rj_iload_n (q := 5) d_D_back_4 rfl rfl rfl ?_
  refine Rj_iconst (q := 6) d_D_back_5 rfl ?_
  refine Rj_icmp_ge (q := 9) (t := 18) d_D_back_6 rfl (by decide) (by decide) (by decide) (fun c => absurd c (by decide)) (fun _ => ?_)
  refine Rj_aload_n (q := 10) d_D_back_9 rfl rfl rfl ?_
  refine Rj_gr (q := 13) (zd := 58) gD_D_36_0 rfl rfl d_D_back_10 rfl ?_
  refine Rj_iload_n (q := 14) d_D_back_13 rfl rfl rfl ?_
  refine Rj_za (q := 15) (v := μ 58 0) aD_58 rfl (by decide) rfl d_D_back_14 rfl ?_
  refine Rj_if_ne (q := 18) (t := 20) d_D_back_15 rfl (by decide) (by rw [hm]; decide) (fun c15 => ?_) (fun c15 => ?_)
  · refine Rj_aload_n (q := 21) d_D_back_20 rfl rfl rfl ?_
    refine Rj_gr (q := 24) (zd := 3) gD_D_25_0 rfl rfl d_D_back_21 rfl ?_
    refine Rj_aload_n (q := 25) d_D_back_24 rfl rfl rfl ?_
    refine Rj_gr (q := 28) (zd := 21) gD_D_32_0 rfl rfl d_D_back_25 rfl ?_
    refine Rj_iload_n (q := 29) d_D_back_28 rfl rfl rfl ?_
    refine Rj_aald (q := 30) (zd := 22) rfl (by decide) cD_21 (by decide) (by decide) rfl rfl d_D_back_29 rfl ?_
    refine Rj_vov (q := 33) (z := y_Sc_copyFrom) (as := [vA 22]) (rest := []) (la := [vA 3, vA 22]) oD_3_Sc_copyFrom ml_D_124 mw_Sc_copyFrom mv_Sc_copyFrom rfl d_D_back_30 rfl rfl rfl rfl rfl ?_
    refine s_copy_3_22 (μ := μ) (fun m30 f30 q30 => ?_)
    refine Rj_aload_n (q := 34) d_D_back_33 rfl rfl rfl ?_
    refine Rj_gr (q := 37) (zd := 59) gD_D_45_0 rfl rfl d_D_back_34 rfl ?_
    refine Rj_vov (q := 40) (z := y_Ge_fit) (as := []) (rest := []) (la := [vA 59]) oD_59_Ge_fit ml_D_127 mw_Ge_fit mv_Ge_fit rfl d_D_back_37 rfl rfl rfl rfl rfl ?_
    refine s_fit0 hS (hT _ q30) (fun m37 lo up dn lk f37 g37 e37 => ?_)
    have rr : ∀ c i, ¬ Wft c i → m37 c i = m30 c i := fun c i q => f37 c i q
    have gx : GX m37 S lo up dn lk pl := by
      have t0 := hT _ q30
      have s0 := hP _ q30 lo up dn lk g37
      have r : ∀ c, (∀ i, ¬ Wft c i) → m37 c = m30 c := fun c h => funext (fun i => rr c i (h i))
      refine ⟨hS, ?_, g37, e37, ?_, hB⟩
      · unfold GT GS
        rw [r 3 (fun i => by unfold Wft; omega), r 4 (fun i => by unfold Wft; omega), r 5 (fun i => by unfold Wft; omega), r 6 (fun i => by unfold Wft; omega), r 7 (fun i => by unfold Wft; omega), r 8 (fun i => by unfold Wft; omega)]
        exact t0
      · rw [r 9 (fun i => by unfold Wft; omega)]; exact s0
    refine Rj_aload_n (q := 41) d_D_back_40 rfl rfl rfl ?_
    refine Rj_gr (q := 44) (zd := 59) gD_D_45_0 rfl rfl d_D_back_41 rfl ?_
    refine Rj_vo (q := 47) (z := y_Ge_openSet) (as := []) (rest := []) (la := [vA 59]) oD_59_Ge_openSet ml_D_297 mw_Ge_openSet mv_Ge_openSet rfl d_D_back_44 rfl rfl rfl rfl rfl ?_
    refine s_openSet gx ?_
    refine Rj_iret d_D_back_47 rfl ?_
    exact hQ m37 lo up dn lk ((Fr.wide f30 (fun c i q => Or.inl q)).trans (Fr.wide f37 (fun c i q => Or.inr q))) ((hN _ q30).keep (fun c i q1 q2 => rr c i (by unfold Wft; omega))) gx
  · exact absurd hm (by omega)
set_option maxHeartbeats 4000000 in
theorem s_image_1 {μ : Mem} {Q : PV → Mem → Prop} {S lo up dn lk pl : Int → Int} (h : GX μ S lo up dn lk pl) (hQ : ∀ μ', Fr (fun c i => (31 ≤ c ∧ c ≤ 39) ∨ (c = 58 ∧ i = 1)) μ μ' → CPY μ μ' 31 3 → μ' 58 1 = 1 → Q (vI (opS S (pts S) pl (S 0).toNat)) μ') : Rj YD y_D_image 0 [vA 0, vI 1] [] μ Q := by
  refine Rj_iload_n (q := 1) d_D_image_0 rfl rfl rfl ?_
  refine Rj_if_lt (q := 4) (t := 9) d_D_image_1 rfl (by decide) (by decide) (fun c => absurd c (by decide)) (fun _ => ?_)
  refine Rj_iload_n (q := 5) d_D_image_4 rfl rfl rfl ?_
  refine Rj_iconst (q := 6) d_D_image_5 rfl ?_
  refine Rj_icmp_lt (q := 9) (t := 11) d_D_image_6 rfl (by decide) (by decide) (by decide) (fun _ => ?_) (fun c => absurd c (by decide))
  refine Rj_aload_n (q := 12) d_D_image_11 rfl rfl rfl ?_
  refine Rj_gr (q := 15) (zd := 21) gD_D_32_0 rfl rfl d_D_image_12 rfl ?_
  refine Rj_iload_n (q := 16) d_D_image_15 rfl rfl rfl ?_
  refine Rj_aald (q := 17) (zd := 31) rfl (by decide) cD_21 (by decide) (by decide) rfl rfl d_D_image_16 rfl ?_
  refine Rj_aload_n (q := 18) d_D_image_17 rfl rfl rfl ?_
  refine Rj_gr (q := 21) (zd := 3) gD_D_25_0 rfl rfl d_D_image_18 rfl ?_
  refine Rj_vov (q := 24) (z := y_Sc_copyFrom) (as := [vA 3]) (rest := []) (la := [vA 31, vA 3]) oD_31_Sc_copyFrom ml_D_124 mw_Sc_copyFrom mv_Sc_copyFrom rfl d_D_image_21 rfl rfl rfl rfl rfl ?_
  refine s_copy_31_3 (μ := μ) (fun m21 f21 q21 => ?_)
  refine Rj_aload_n (q := 25) d_D_image_24 rfl rfl rfl ?_
  refine Rj_gr (q := 28) (zd := 58) gD_D_36_0 rfl rfl d_D_image_25 rfl ?_
  refine Rj_iload_n (q := 29) d_D_image_28 rfl rfl rfl ?_
  refine Rj_iconst (q := 30) d_D_image_29 rfl ?_
  refine Rj_zs (q := 31) aD_58 rfl (by decide) (by omega) d_D_image_30 rfl ?_
  refine Rj_aload_n (q := 32) d_D_image_31 rfl rfl rfl ?_
  refine Rj_gr (q := 35) (zd := 59) gD_D_45_0 rfl rfl d_D_image_32 rfl ?_
  refine Rj_vo (q := 38) (z := y_Ge_openSet) (as := []) (rest := []) (la := [vA 59]) oD_59_Ge_openSet ml_D_297 mw_Ge_openSet mv_Ge_openSet rfl d_D_image_35 rfl rfl rfl rfl rfl ?_
  refine s_openSet (h.keep (fun c i q => (mset_o (by unfold gxc at q; omega)).trans (f21 c i (by unfold Wcp31; unfold gxc at q; omega)))) ?_
  refine Rj_iret d_D_image_38 rfl ?_
  refine hQ _ (Fr.put (Fr.wide f21 (fun c i q => Or.inl q)) (Or.inr ⟨rfl, rfl⟩)) ?_ (mset_same _ _ _ _)
  obtain ⟨c1, c2, c3, c4⟩ := q21
  exact ⟨c1, c2, c3, c4⟩
set_option maxHeartbeats 4000000 in
theorem s_back_1 {μ : Mem} {Q : PV → Mem → Prop} {S pl : Int → Int} (hm : μ 58 1 = 1) (hS : StrOK S) (hT : ∀ μ', CPY μ μ' 3 31 → GT μ' S) (hP : ∀ μ', CPY μ μ' 3 31 → ∀ lo up dn lk, Hung S 0 lo up dn lk → ∀ d, 0 ≤ d → d < S 0 → μ' 9 d * pts S = pl d * bel S lo up dn lk d) (hB : PB pl) (hQ : ∀ μ' lo up dn lk, Fr (fun c i => Wcp3 c i ∨ Wft c i) μ μ' → SCN μ' 3 S → GX μ' S lo up dn lk pl → Q (vI (opS S (pts S) pl (S 0).toNat)) μ') (hN : ∀ μ', CPY μ μ' 3 31 → SCN μ' 3 S) : Rj YD y_D_back 0 [vA 0, vI 1] [] μ Q := by
  refine Rj_iload_n (q := 1) d_D_back_0 rfl rfl rfl ?_
  refine Rj_if_lt (q := 4) (t := 18) d_D_back_1 rfl (by decide) (by decide) (fun c => absurd c (by decide)) (fun _ => ?_)
  refine Rj_iload_n (q := 5) d_D_back_4 rfl rfl rfl ?_
  refine Rj_iconst (q := 6) d_D_back_5 rfl ?_
  refine Rj_icmp_ge (q := 9) (t := 18) d_D_back_6 rfl (by decide) (by decide) (by decide) (fun c => absurd c (by decide)) (fun _ => ?_)
  refine Rj_aload_n (q := 10) d_D_back_9 rfl rfl rfl ?_
  refine Rj_gr (q := 13) (zd := 58) gD_D_36_0 rfl rfl d_D_back_10 rfl ?_
  refine Rj_iload_n (q := 14) d_D_back_13 rfl rfl rfl ?_
  refine Rj_za (q := 15) (v := μ 58 1) aD_58 rfl (by decide) rfl d_D_back_14 rfl ?_
  refine Rj_if_ne (q := 18) (t := 20) d_D_back_15 rfl (by decide) (by rw [hm]; decide) (fun c15 => ?_) (fun c15 => ?_)
  · refine Rj_aload_n (q := 21) d_D_back_20 rfl rfl rfl ?_
    refine Rj_gr (q := 24) (zd := 3) gD_D_25_0 rfl rfl d_D_back_21 rfl ?_
    refine Rj_aload_n (q := 25) d_D_back_24 rfl rfl rfl ?_
    refine Rj_gr (q := 28) (zd := 21) gD_D_32_0 rfl rfl d_D_back_25 rfl ?_
    refine Rj_iload_n (q := 29) d_D_back_28 rfl rfl rfl ?_
    refine Rj_aald (q := 30) (zd := 31) rfl (by decide) cD_21 (by decide) (by decide) rfl rfl d_D_back_29 rfl ?_
    refine Rj_vov (q := 33) (z := y_Sc_copyFrom) (as := [vA 31]) (rest := []) (la := [vA 3, vA 31]) oD_3_Sc_copyFrom ml_D_124 mw_Sc_copyFrom mv_Sc_copyFrom rfl d_D_back_30 rfl rfl rfl rfl rfl ?_
    refine s_copy_3_31 (μ := μ) (fun m30 f30 q30 => ?_)
    refine Rj_aload_n (q := 34) d_D_back_33 rfl rfl rfl ?_
    refine Rj_gr (q := 37) (zd := 59) gD_D_45_0 rfl rfl d_D_back_34 rfl ?_
    refine Rj_vov (q := 40) (z := y_Ge_fit) (as := []) (rest := []) (la := [vA 59]) oD_59_Ge_fit ml_D_127 mw_Ge_fit mv_Ge_fit rfl d_D_back_37 rfl rfl rfl rfl rfl ?_
    refine s_fit0 hS (hT _ q30) (fun m37 lo up dn lk f37 g37 e37 => ?_)
    have rr : ∀ c i, ¬ Wft c i → m37 c i = m30 c i := fun c i q => f37 c i q
    have gx : GX m37 S lo up dn lk pl := by
      have t0 := hT _ q30
      have s0 := hP _ q30 lo up dn lk g37
      have r : ∀ c, (∀ i, ¬ Wft c i) → m37 c = m30 c := fun c h => funext (fun i => rr c i (h i))
      refine ⟨hS, ?_, g37, e37, ?_, hB⟩
      · unfold GT GS
        rw [r 3 (fun i => by unfold Wft; omega), r 4 (fun i => by unfold Wft; omega), r 5 (fun i => by unfold Wft; omega), r 6 (fun i => by unfold Wft; omega), r 7 (fun i => by unfold Wft; omega), r 8 (fun i => by unfold Wft; omega)]
        exact t0
      · rw [r 9 (fun i => by unfold Wft; omega)]; exact s0
    refine Rj_aload_n (q := 41) d_D_back_40 rfl rfl rfl ?_
    refine Rj_gr (q := 44) (zd := 59) gD_D_45_0 rfl rfl d_D_back_41 rfl ?_
    refine Rj_vo (q := 47) (z := y_Ge_openSet) (as := []) (rest := []) (la := [vA 59]) oD_59_Ge_openSet ml_D_297 mw_Ge_openSet mv_Ge_openSet rfl d_D_back_44 rfl rfl rfl rfl rfl ?_
    refine s_openSet gx ?_
    refine Rj_iret d_D_back_47 rfl ?_
    exact hQ m37 lo up dn lk ((Fr.wide f30 (fun c i q => Or.inl q)).trans (Fr.wide f37 (fun c i q => Or.inr q))) ((hN _ q30).keep (fun c i q1 q2 => rr c i (by unfold Wft; omega))) gx
  · exact absurd hm (by omega)
set_option maxHeartbeats 4000000 in
theorem s_image_2 {μ : Mem} {Q : PV → Mem → Prop} {S lo up dn lk pl : Int → Int} (h : GX μ S lo up dn lk pl) (hQ : ∀ μ', Fr (fun c i => (40 ≤ c ∧ c ≤ 48) ∨ (c = 58 ∧ i = 2)) μ μ' → CPY μ μ' 40 3 → μ' 58 2 = 1 → Q (vI (opS S (pts S) pl (S 0).toNat)) μ') : Rj YD y_D_image 0 [vA 0, vI 2] [] μ Q := by
  refine Rj_iload_n (q := 1) d_D_image_0 rfl rfl rfl ?_
  refine Rj_if_lt (q := 4) (t := 9) d_D_image_1 rfl (by decide) (by decide) (fun c => absurd c (by decide)) (fun _ => ?_)
  refine Rj_iload_n (q := 5) d_D_image_4 rfl rfl rfl ?_
  refine Rj_iconst (q := 6) d_D_image_5 rfl ?_
  refine Rj_icmp_lt (q := 9) (t := 11) d_D_image_6 rfl (by decide) (by decide) (by decide) (fun _ => ?_) (fun c => absurd c (by decide))
  refine Rj_aload_n (q := 12) d_D_image_11 rfl rfl rfl ?_
  refine Rj_gr (q := 15) (zd := 21) gD_D_32_0 rfl rfl d_D_image_12 rfl ?_
  refine Rj_iload_n (q := 16) d_D_image_15 rfl rfl rfl ?_
  refine Rj_aald (q := 17) (zd := 40) rfl (by decide) cD_21 (by decide) (by decide) rfl rfl d_D_image_16 rfl ?_
  refine Rj_aload_n (q := 18) d_D_image_17 rfl rfl rfl ?_
  refine Rj_gr (q := 21) (zd := 3) gD_D_25_0 rfl rfl d_D_image_18 rfl ?_
  refine Rj_vov (q := 24) (z := y_Sc_copyFrom) (as := [vA 3]) (rest := []) (la := [vA 40, vA 3]) oD_40_Sc_copyFrom ml_D_124 mw_Sc_copyFrom mv_Sc_copyFrom rfl d_D_image_21 rfl rfl rfl rfl rfl ?_
  refine s_copy_40_3 (μ := μ) (fun m21 f21 q21 => ?_)
  refine Rj_aload_n (q := 25) d_D_image_24 rfl rfl rfl ?_
  refine Rj_gr (q := 28) (zd := 58) gD_D_36_0 rfl rfl d_D_image_25 rfl ?_
  refine Rj_iload_n (q := 29) d_D_image_28 rfl rfl rfl ?_
  refine Rj_iconst (q := 30) d_D_image_29 rfl ?_
  refine Rj_zs (q := 31) aD_58 rfl (by decide) (by omega) d_D_image_30 rfl ?_
  refine Rj_aload_n (q := 32) d_D_image_31 rfl rfl rfl ?_
  refine Rj_gr (q := 35) (zd := 59) gD_D_45_0 rfl rfl d_D_image_32 rfl ?_
  refine Rj_vo (q := 38) (z := y_Ge_openSet) (as := []) (rest := []) (la := [vA 59]) oD_59_Ge_openSet ml_D_297 mw_Ge_openSet mv_Ge_openSet rfl d_D_image_35 rfl rfl rfl rfl rfl ?_
  refine s_openSet (h.keep (fun c i q => (mset_o (by unfold gxc at q; omega)).trans (f21 c i (by unfold Wcp40; unfold gxc at q; omega)))) ?_
  refine Rj_iret d_D_image_38 rfl ?_
  refine hQ _ (Fr.put (Fr.wide f21 (fun c i q => Or.inl q)) (Or.inr ⟨rfl, rfl⟩)) ?_ (mset_same _ _ _ _)
  obtain ⟨c1, c2, c3, c4⟩ := q21
  exact ⟨c1, c2, c3, c4⟩
set_option maxHeartbeats 4000000 in
theorem s_back_2 {μ : Mem} {Q : PV → Mem → Prop} {S pl : Int → Int} (hm : μ 58 2 = 1) (hS : StrOK S) (hT : ∀ μ', CPY μ μ' 3 40 → GT μ' S) (hP : ∀ μ', CPY μ μ' 3 40 → ∀ lo up dn lk, Hung S 0 lo up dn lk → ∀ d, 0 ≤ d → d < S 0 → μ' 9 d * pts S = pl d * bel S lo up dn lk d) (hB : PB pl) (hQ : ∀ μ' lo up dn lk, Fr (fun c i => Wcp3 c i ∨ Wft c i) μ μ' → SCN μ' 3 S → GX μ' S lo up dn lk pl → Q (vI (opS S (pts S) pl (S 0).toNat)) μ') (hN : ∀ μ', CPY μ μ' 3 40 → SCN μ' 3 S) : Rj YD y_D_back 0 [vA 0, vI 2] [] μ Q := by
  refine Rj_iload_n (q := 1) d_D_back_0 rfl rfl rfl ?_
  refine Rj_if_lt (q := 4) (t := 18) d_D_back_1 rfl (by decide) (by decide) (fun c => absurd c (by decide)) (fun _ => ?_)
  refine Rj_iload_n (q := 5) d_D_back_4 rfl rfl rfl ?_
  refine Rj_iconst (q := 6) d_D_back_5 rfl ?_
  refine Rj_icmp_ge (q := 9) (t := 18) d_D_back_6 rfl (by decide) (by decide) (by decide) (fun c => absurd c (by decide)) (fun _ => ?_)
  refine Rj_aload_n (q := 10) d_D_back_9 rfl rfl rfl ?_
  refine Rj_gr (q := 13) (zd := 58) gD_D_36_0 rfl rfl d_D_back_10 rfl ?_
  refine Rj_iload_n (q := 14) d_D_back_13 rfl rfl rfl ?_
  refine Rj_za (q := 15) (v := μ 58 2) aD_58 rfl (by decide) rfl d_D_back_14 rfl ?_
  refine Rj_if_ne (q := 18) (t := 20) d_D_back_15 rfl (by decide) (by rw [hm]; decide) (fun c15 => ?_) (fun c15 => ?_)
  · refine Rj_aload_n (q := 21) d_D_back_20 rfl rfl rfl ?_
    refine Rj_gr (q := 24) (zd := 3) gD_D_25_0 rfl rfl d_D_back_21 rfl ?_
    refine Rj_aload_n (q := 25) d_D_back_24 rfl rfl rfl ?_
    refine Rj_gr (q := 28) (zd := 21) gD_D_32_0 rfl rfl d_D_back_25 rfl ?_
    refine Rj_iload_n (q := 29) d_D_back_28 rfl rfl rfl ?_
    refine Rj_aald (q := 30) (zd := 40) rfl (by decide) cD_21 (by decide) (by decide) rfl rfl d_D_back_29 rfl ?_
    refine Rj_vov (q := 33) (z := y_Sc_copyFrom) (as := [vA 40]) (rest := []) (la := [vA 3, vA 40]) oD_3_Sc_copyFrom ml_D_124 mw_Sc_copyFrom mv_Sc_copyFrom rfl d_D_back_30 rfl rfl rfl rfl rfl ?_
    refine s_copy_3_40 (μ := μ) (fun m30 f30 q30 => ?_)
    refine Rj_aload_n (q := 34) d_D_back_33 rfl rfl rfl ?_
    refine Rj_gr (q := 37) (zd := 59) gD_D_45_0 rfl rfl d_D_back_34 rfl ?_
    refine Rj_vov (q := 40) (z := y_Ge_fit) (as := []) (rest := []) (la := [vA 59]) oD_59_Ge_fit ml_D_127 mw_Ge_fit mv_Ge_fit rfl d_D_back_37 rfl rfl rfl rfl rfl ?_
    refine s_fit0 hS (hT _ q30) (fun m37 lo up dn lk f37 g37 e37 => ?_)
    have rr : ∀ c i, ¬ Wft c i → m37 c i = m30 c i := fun c i q => f37 c i q
    have gx : GX m37 S lo up dn lk pl := by
      have t0 := hT _ q30
      have s0 := hP _ q30 lo up dn lk g37
      have r : ∀ c, (∀ i, ¬ Wft c i) → m37 c = m30 c := fun c h => funext (fun i => rr c i (h i))
      refine ⟨hS, ?_, g37, e37, ?_, hB⟩
      · unfold GT GS
        rw [r 3 (fun i => by unfold Wft; omega), r 4 (fun i => by unfold Wft; omega), r 5 (fun i => by unfold Wft; omega), r 6 (fun i => by unfold Wft; omega), r 7 (fun i => by unfold Wft; omega), r 8 (fun i => by unfold Wft; omega)]
        exact t0
      · rw [r 9 (fun i => by unfold Wft; omega)]; exact s0
    refine Rj_aload_n (q := 41) d_D_back_40 rfl rfl rfl ?_
    refine Rj_gr (q := 44) (zd := 59) gD_D_45_0 rfl rfl d_D_back_41 rfl ?_
    refine Rj_vo (q := 47) (z := y_Ge_openSet) (as := []) (rest := []) (la := [vA 59]) oD_59_Ge_openSet ml_D_297 mw_Ge_openSet mv_Ge_openSet rfl d_D_back_44 rfl rfl rfl rfl rfl ?_
    refine s_openSet gx ?_
    refine Rj_iret d_D_back_47 rfl ?_
    exact hQ m37 lo up dn lk ((Fr.wide f30 (fun c i q => Or.inl q)).trans (Fr.wide f37 (fun c i q => Or.inr q))) ((hN _ q30).keep (fun c i q1 q2 => rr c i (by unfold Wft; omega))) gx
  · exact absurd hm (by omega)
set_option maxHeartbeats 4000000 in
theorem s_image_3 {μ : Mem} {Q : PV → Mem → Prop} {S lo up dn lk pl : Int → Int} (h : GX μ S lo up dn lk pl) (hQ : ∀ μ', Fr (fun c i => (49 ≤ c ∧ c ≤ 57) ∨ (c = 58 ∧ i = 3)) μ μ' → CPY μ μ' 49 3 → μ' 58 3 = 1 → Q (vI (opS S (pts S) pl (S 0).toNat)) μ') : Rj YD y_D_image 0 [vA 0, vI 3] [] μ Q := by
  refine Rj_iload_n (q := 1) d_D_image_0 rfl rfl rfl ?_
  refine Rj_if_lt (q := 4) (t := 9) d_D_image_1 rfl (by decide) (by decide) (fun c => absurd c (by decide)) (fun _ => ?_)
  refine Rj_iload_n (q := 5) d_D_image_4 rfl rfl rfl ?_
  refine Rj_iconst (q := 6) d_D_image_5 rfl ?_
  refine Rj_icmp_lt (q := 9) (t := 11) d_D_image_6 rfl (by decide) (by decide) (by decide) (fun _ => ?_) (fun c => absurd c (by decide))
  refine Rj_aload_n (q := 12) d_D_image_11 rfl rfl rfl ?_
  refine Rj_gr (q := 15) (zd := 21) gD_D_32_0 rfl rfl d_D_image_12 rfl ?_
  refine Rj_iload_n (q := 16) d_D_image_15 rfl rfl rfl ?_
  refine Rj_aald (q := 17) (zd := 49) rfl (by decide) cD_21 (by decide) (by decide) rfl rfl d_D_image_16 rfl ?_
  refine Rj_aload_n (q := 18) d_D_image_17 rfl rfl rfl ?_
  refine Rj_gr (q := 21) (zd := 3) gD_D_25_0 rfl rfl d_D_image_18 rfl ?_
  refine Rj_vov (q := 24) (z := y_Sc_copyFrom) (as := [vA 3]) (rest := []) (la := [vA 49, vA 3]) oD_49_Sc_copyFrom ml_D_124 mw_Sc_copyFrom mv_Sc_copyFrom rfl d_D_image_21 rfl rfl rfl rfl rfl ?_
  refine s_copy_49_3 (μ := μ) (fun m21 f21 q21 => ?_)
  refine Rj_aload_n (q := 25) d_D_image_24 rfl rfl rfl ?_
  refine Rj_gr (q := 28) (zd := 58) gD_D_36_0 rfl rfl d_D_image_25 rfl ?_
  refine Rj_iload_n (q := 29) d_D_image_28 rfl rfl rfl ?_
  refine Rj_iconst (q := 30) d_D_image_29 rfl ?_
  refine Rj_zs (q := 31) aD_58 rfl (by decide) (by omega) d_D_image_30 rfl ?_
  refine Rj_aload_n (q := 32) d_D_image_31 rfl rfl rfl ?_
  refine Rj_gr (q := 35) (zd := 59) gD_D_45_0 rfl rfl d_D_image_32 rfl ?_
  refine Rj_vo (q := 38) (z := y_Ge_openSet) (as := []) (rest := []) (la := [vA 59]) oD_59_Ge_openSet ml_D_297 mw_Ge_openSet mv_Ge_openSet rfl d_D_image_35 rfl rfl rfl rfl rfl ?_
  refine s_openSet (h.keep (fun c i q => (mset_o (by unfold gxc at q; omega)).trans (f21 c i (by unfold Wcp49; unfold gxc at q; omega)))) ?_
  refine Rj_iret d_D_image_38 rfl ?_
  refine hQ _ (Fr.put (Fr.wide f21 (fun c i q => Or.inl q)) (Or.inr ⟨rfl, rfl⟩)) ?_ (mset_same _ _ _ _)
  obtain ⟨c1, c2, c3, c4⟩ := q21
  exact ⟨c1, c2, c3, c4⟩
set_option maxHeartbeats 4000000 in
theorem s_back_3 {μ : Mem} {Q : PV → Mem → Prop} {S pl : Int → Int} (hm : μ 58 3 = 1) (hS : StrOK S) (hT : ∀ μ', CPY μ μ' 3 49 → GT μ' S) (hP : ∀ μ', CPY μ μ' 3 49 → ∀ lo up dn lk, Hung S 0 lo up dn lk → ∀ d, 0 ≤ d → d < S 0 → μ' 9 d * pts S = pl d * bel S lo up dn lk d) (hB : PB pl) (hQ : ∀ μ' lo up dn lk, Fr (fun c i => Wcp3 c i ∨ Wft c i) μ μ' → SCN μ' 3 S → GX μ' S lo up dn lk pl → Q (vI (opS S (pts S) pl (S 0).toNat)) μ') (hN : ∀ μ', CPY μ μ' 3 49 → SCN μ' 3 S) : Rj YD y_D_back 0 [vA 0, vI 3] [] μ Q := by
  refine Rj_iload_n (q := 1) d_D_back_0 rfl rfl rfl ?_
  refine Rj_if_lt (q := 4) (t := 18) d_D_back_1 rfl (by decide) (by decide) (fun c => absurd c (by decide)) (fun _ => ?_)
  refine Rj_iload_n (q := 5) d_D_back_4 rfl rfl rfl ?_
  refine Rj_iconst (q := 6) d_D_back_5 rfl ?_
  refine Rj_icmp_ge (q := 9) (t := 18) d_D_back_6 rfl (by decide) (by decide) (by decide) (fun c => absurd c (by decide)) (fun _ => ?_)
  refine Rj_aload_n (q := 10) d_D_back_9 rfl rfl rfl ?_
  refine Rj_gr (q := 13) (zd := 58) gD_D_36_0 rfl rfl d_D_back_10 rfl ?_
  refine Rj_iload_n (q := 14) d_D_back_13 rfl rfl rfl ?_
  refine Rj_za (q := 15) (v := μ 58 3) aD_58 rfl (by decide) rfl d_D_back_14 rfl ?_
  refine Rj_if_ne (q := 18) (t := 20) d_D_back_15 rfl (by decide) (by rw [hm]; decide) (fun c15 => ?_) (fun c15 => ?_)
  · refine Rj_aload_n (q := 21) d_D_back_20 rfl rfl rfl ?_
    refine Rj_gr (q := 24) (zd := 3) gD_D_25_0 rfl rfl d_D_back_21 rfl ?_
    refine Rj_aload_n (q := 25) d_D_back_24 rfl rfl rfl ?_
    refine Rj_gr (q := 28) (zd := 21) gD_D_32_0 rfl rfl d_D_back_25 rfl ?_
    refine Rj_iload_n (q := 29) d_D_back_28 rfl rfl rfl ?_
    refine Rj_aald (q := 30) (zd := 49) rfl (by decide) cD_21 (by decide) (by decide) rfl rfl d_D_back_29 rfl ?_
    refine Rj_vov (q := 33) (z := y_Sc_copyFrom) (as := [vA 49]) (rest := []) (la := [vA 3, vA 49]) oD_3_Sc_copyFrom ml_D_124 mw_Sc_copyFrom mv_Sc_copyFrom rfl d_D_back_30 rfl rfl rfl rfl rfl ?_
    refine s_copy_3_49 (μ := μ) (fun m30 f30 q30 => ?_)
    refine Rj_aload_n (q := 34) d_D_back_33 rfl rfl rfl ?_
    refine Rj_gr (q := 37) (zd := 59) gD_D_45_0 rfl rfl d_D_back_34 rfl ?_
    refine Rj_vov (q := 40) (z := y_Ge_fit) (as := []) (rest := []) (la := [vA 59]) oD_59_Ge_fit ml_D_127 mw_Ge_fit mv_Ge_fit rfl d_D_back_37 rfl rfl rfl rfl rfl ?_
    refine s_fit0 hS (hT _ q30) (fun m37 lo up dn lk f37 g37 e37 => ?_)
    have rr : ∀ c i, ¬ Wft c i → m37 c i = m30 c i := fun c i q => f37 c i q
    have gx : GX m37 S lo up dn lk pl := by
      have t0 := hT _ q30
      have s0 := hP _ q30 lo up dn lk g37
      have r : ∀ c, (∀ i, ¬ Wft c i) → m37 c = m30 c := fun c h => funext (fun i => rr c i (h i))
      refine ⟨hS, ?_, g37, e37, ?_, hB⟩
      · unfold GT GS
        rw [r 3 (fun i => by unfold Wft; omega), r 4 (fun i => by unfold Wft; omega), r 5 (fun i => by unfold Wft; omega), r 6 (fun i => by unfold Wft; omega), r 7 (fun i => by unfold Wft; omega), r 8 (fun i => by unfold Wft; omega)]
        exact t0
      · rw [r 9 (fun i => by unfold Wft; omega)]; exact s0
    refine Rj_aload_n (q := 41) d_D_back_40 rfl rfl rfl ?_
    refine Rj_gr (q := 44) (zd := 59) gD_D_45_0 rfl rfl d_D_back_41 rfl ?_
    refine Rj_vo (q := 47) (z := y_Ge_openSet) (as := []) (rest := []) (la := [vA 59]) oD_59_Ge_openSet ml_D_297 mw_Ge_openSet mv_Ge_openSet rfl d_D_back_44 rfl rfl rfl rfl rfl ?_
    refine s_openSet gx ?_
    refine Rj_iret d_D_back_47 rfl ?_
    exact hQ m37 lo up dn lk ((Fr.wide f30 (fun c i q => Or.inl q)).trans (Fr.wide f37 (fun c i q => Or.inr q))) ((hN _ q30).keep (fun c i q1 q2 => rr c i (by unfold Wft; omega))) gx
  · exact absurd hm (by omega)
