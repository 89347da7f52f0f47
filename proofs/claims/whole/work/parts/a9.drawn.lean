theorem oD_0_D_drawComings : OI YD 0 y_D_drawComings := ⟨by decide, _, _, _, cD_0, rfl⟩
/-! drawn days in both -/
abbrev Wdw (c : Nat) (i : Int) : Prop := Wdy c i ∨ c = 88
set_option maxHeartbeats 4000000 in
theorem s_drawn_72 : ∀ (f : Nat) {μ : Mem} {Q : PV → Mem → Prop} {S lo up dn lk pl : Int → Int} {D : List CLS} {t : Int × Int × Int × (Int → Int)} {K kk r R B N w x y : Int}, ((B - y).toNat < f) → (GX μ S lo up dn lk pl) → (CDT μ S (pl, t)) → (∀ j, 0 ≤ j → j < 12 → μ 65 j = μ 9 j) → (RCL μ r R D) → (DSI S K 0 kk (pl, t)) → (∀ d, 0 ≤ d → d < 12 → -K ≤ pl d ∧ pl d ≤ K) → (SB S pl) → (kk + (B - y) * 60 ≤ 1200) → (K + 60 * 2799360000000 ≤ 100000000000000000) → (1 ≤ N ∧ N ≤ 60) → (0 < S 0) → (0 ≤ x ∧ x ≤ 2147483647) → (0 ≤ y ∧ y ≤ B ∧ B ≤ 20) → (0 ≤ w ∧ w ≤ 2) → (∀ μ', Fr Wdw μ μ' → (∀ j, 0 ≤ j → j < 12 → μ' 9 j = μ 9 j) → CDT μ' S (dws S lo up dn lk D pl N (B - y).toNat x (pl, t)) → Q (vI (tal w (dws S lo up dn lk D pl N (B - y).toNat x (pl, t)))) μ') → Rj YD y_D_drawn 72 [vA 0, vI r, vI B, vI N, vI w, vL x, vU, vI y] [] μ Q := by
  intro f
  induction f with
  | zero => intro μ Q S lo up dn lk pl D t K kk r R B N w x y hf h hT h65 hRu hI hbk hs hkk hK hN hS0 hx hy hw hQ; exact absurd hf (by omega)
  | succ f ih =>
    intro μ Q S lo up dn lk pl D t K kk r R B N w x y hf h hT h65 hRu hI hbk hs hkk hK hN hS0 hx hy hw hQ
    obtain ⟨z0, z1, z2, z3, z4, z5, z6, z7⟩ := h.z
    have i1 : 0 ≤ t.1 ∧ t.1 ≤ kk := hI.1
    have i2 : 0 ≤ t.2.1 ∧ t.2.1 ≤ kk := hI.2.1
    have i3 : 0 ≤ t.2.2.1 ∧ t.2.2.1 ≤ kk := hI.2.2.1
    refine Rj_iload (q := 74) d_D_drawn_72 rfl rfl ?_
    refine Rj_iload_n (q := 75) d_D_drawn_74 rfl rfl rfl ?_
    refine Rj_icmp_ge (q := 78) (t := 113) d_D_drawn_75 rfl (by decide) ⟨by omega, by omega⟩ ⟨by omega, by omega⟩ (fun c75 => ?_) (fun c75 => ?_)
    · refine Rj_aload_n (q := 114) d_D_drawn_113 rfl rfl rfl ?_
      refine Rj_gr (q := 117) (zd := 86) gD_D_97_0 rfl rfl d_D_drawn_114 rfl ?_
      refine Rj_iload (q := 119) d_D_drawn_117 rfl rfl ?_
      refine Rj_vo (q := 122) (z := y_Di_tally) (as := [vI w]) (rest := []) (la := [vA 86, vI w]) oD_86_Di_tally ml_D_286 mw_Di_tally mv_Di_tally rfl d_D_drawn_119 rfl rfl rfl rfl rfl ?_
      refine Rj_iload_n (q := 1) d_Di_tally_0 rfl rfl rfl ?_
      refine Rj_if_ne (q := 4) (t := 9) d_Di_tally_1 rfl (by decide) ⟨by omega, by omega⟩ (fun c119_1 => ?_) (fun c119_1 => ?_)
      · refine Rj_iload_n (q := 10) d_Di_tally_9 rfl rfl rfl ?_
        refine Rj_iconst (q := 11) d_Di_tally_10 rfl ?_
        refine Rj_icmp_ne (q := 14) (t := 21) d_Di_tally_11 rfl (by decide) ⟨by omega, by omega⟩ (by decide) (fun c119_11 => ?_) (fun c119_11 => ?_)
        · refine Rj_aload_n (q := 22) d_Di_tally_21 rfl rfl rfl ?_
          refine Rj_gi (q := 25) (ki := 4) (v := t.2.2.1) gD_Di_30_86 rfl rfl hT.1.2.2 d_Di_tally_22 rfl ?_
          refine Rj_iret d_Di_tally_25 rfl ?_
          refine Rj_iret d_D_drawn_122 rfl ?_
          have e0 : dws S lo up dn lk D pl N (B - y).toNat x (pl, t) = (pl, t) := by rw [show (B - y).toNat = 0 by omega]; rfl
          exact fin_I (hQ μ (Fr.refl _ _) (fun j _ _ => rfl) (by rw [e0]; exact hT)) (by rw [e0]; show (if w = 0 then t.1 else if w = 1 then t.2.1 else t.2.2.1) = t.2.2.1; rw [if_neg (by omega), if_neg (by omega)])
        · refine Rj_aload_n (q := 15) d_Di_tally_14 rfl rfl rfl ?_
          refine Rj_gi (q := 18) (ki := 3) (v := t.2.1) gD_Di_27_86 rfl rfl hT.1.2.1 d_Di_tally_15 rfl ?_
          refine Rj_goto (t := 25) d_Di_tally_18 (by decide) ?_
          refine Rj_iret d_Di_tally_25 rfl ?_
          refine Rj_iret d_D_drawn_122 rfl ?_
          have e0 : dws S lo up dn lk D pl N (B - y).toNat x (pl, t) = (pl, t) := by rw [show (B - y).toNat = 0 by omega]; rfl
          exact fin_I (hQ μ (Fr.refl _ _) (fun j _ _ => rfl) (by rw [e0]; exact hT)) (by rw [e0]; show (if w = 0 then t.1 else if w = 1 then t.2.1 else t.2.2.1) = t.2.1; rw [if_neg (by omega), if_pos (by omega)])
      · refine Rj_aload_n (q := 5) d_Di_tally_4 rfl rfl rfl ?_
        refine Rj_gi (q := 8) (ki := 2) (v := t.1) gD_Di_23_86 rfl rfl hT.1.1 d_Di_tally_5 rfl ?_
        refine Rj_iret d_Di_tally_8 rfl ?_
        refine Rj_iret d_D_drawn_122 rfl ?_
        have e0 : dws S lo up dn lk D pl N (B - y).toNat x (pl, t) = (pl, t) := by rw [show (B - y).toNat = 0 by omega]; rfl
        exact fin_I (hQ μ (Fr.refl _ _) (fun j _ _ => rfl) (by rw [e0]; exact hT)) (by rw [e0]; show (if w = 0 then t.1 else if w = 1 then t.2.1 else t.2.2.1) = t.1; rw [if_pos (by omega)])
    · refine Rj_aload_n (q := 79) d_D_drawn_78 rfl rfl rfl ?_
      refine Rj_lload (q := 81) d_D_drawn_79 rfl rfl ?_
      refine Rj_iload_n (q := 82) d_D_drawn_81 rfl rfl rfl ?_
      refine Rj_vo (q := 85) (z := y_D_drawComings) (as := [vL x, vI N]) (rest := []) (la := [vA 0, vL x, vU, vI N]) oD_0_D_drawComings ml_D_303 mw_D_drawComings mv_D_drawComings rfl d_D_drawn_82 rfl rfl rfl rfl rfl ?_
      refine s_draw hx (by omega) ⟨z2, hS0, z0.2⟩ (fun m82 f82 q82 => ?_)
      refine Rj_lstore (q := 87) (ls' := [vA 0, vI r, vI B, vI N, vI w, vL (itr N.toNat x), vU, vI y]) d_D_drawn_85 rfl (by decide) rfl ?_
      refine Rj_aload_n (q := 88) d_D_drawn_87 rfl rfl rfl ?_
      refine Rj_gr (q := 91) (zd := 86) gD_D_97_0 rfl rfl d_D_drawn_88 rfl ?_
      refine Rj_iload_n (q := 92) d_D_drawn_91 rfl rfl rfl ?_
      refine Rj_aload_n (q := 93) d_D_drawn_92 rfl rfl rfl ?_
      refine Rj_gr (q := 96) (zd := 88) gD_D_101_0 rfl rfl d_D_drawn_93 rfl ?_
      refine Rj_iload_n (q := 97) d_D_drawn_96 rfl rfl rfl ?_
      refine Rj_vov (q := 100) (z := y_Di_spend) (as := [vI r, vA 88, vI N]) (rest := []) (la := [vA 86, vI r, vA 88, vI N]) oD_86_Di_spend ml_D_275 mw_Di_spend mv_Di_spend rfl d_D_drawn_97 rfl rfl rfl rfl rfl ?_
      have g82 : GX m82 S lo up dn lk pl := h.keep (fun c i q => f82 c i (by unfold gxc at q; omega))
      have c82 : CDS m82 S lo up dn lk (pl, t) := ⟨g82, ⟨(f82 86 2 (show ¬ (86 : Nat) = 88 by decide)).trans hT.1.1, (f82 86 3 (show ¬ (86 : Nat) = 88 by decide)).trans hT.1.2.1, (f82 86 4 (show ¬ (86 : Nat) = 88 by decide)).trans hT.1.2.2⟩, fun y y0 y1 => by rw [f82 87 y (show ¬ (87 : Nat) = 88 by decide), f82 63 y (show ¬ (63 : Nat) = 88 by decide)]; exact hT.2 y y0 y1⟩
      have tI := cms_I (D := D) (g := drw (S 0) x) (N := N) (K := K) h.1 h.2.2.1 (fun j j0 j1 => drw_rng hS0) 61 0 0 kk (pl, t) (by decide) (by omega) (by omega) hI
      refine s_spend88 (g := drw (S 0) x) (N := N) (K := K) (kp := 0) (k := kk) c82 hI (hRu.keep (f82 79 1 (show ¬ (79 : Nat) = 88 by decide)) (f82.row (fun i q => absurd (show (80 : Nat) = 88 from q) (by decide))) (f82.row (fun i q => absurd (show (81 : Nat) = 88 from q) (by decide)))) (by omega) (by omega) (by omega) (fun j j0 j1 => ⟨q82 j j0 j1, drw_rng hS0⟩) (fun m97 f97 c97 => ?_)
      refine Rj_aload_n (q := 101) d_D_drawn_100 rfl rfl rfl ?_
      refine Rj_gr (q := 104) (zd := 59) gD_D_45_0 rfl rfl d_D_drawn_101 rfl ?_
      refine Rj_vov (q := 107) (z := y_Ge_takeSpotsBack) (as := []) (rest := []) (la := [vA 59]) oD_59_Ge_takeSpotsBack ml_D_300 mw_Ge_takeSpotsBack mv_Ge_takeSpotsBack rfl d_D_drawn_104 rfl rfl rfl rfl rfl ?_
      refine s_takeSpotsBack (fun m104 f104 q104 => ?_)
      refine Rj_iinc (q := 110) (ls' := [vA 0, vI r, vI B, vI N, vI w, vL (itr N.toNat x), vU, vI (y + 1)]) d_D_drawn_107 rfl rfl (by decide) rfl ?_
      refine Rj_goto (t := 72) d_D_drawn_110 (by decide) ?_
      have a9 : ∀ j, 0 ≤ j → j < 12 → m104 9 j = μ 9 j := fun j j0 j1 => by
        rw [q104 j j0 j1, f97 65 j (by unfold Wdy; omega), f82 65 j (show ¬ (65 : Nat) = 88 by decide)]; exact h65 j j0 j1
      have fr : Fr Wdw μ m104 := fun c i q => by
        unfold Wdw Wdy at q
        exact ((f104 c i (show ¬ c = 9 by omega)).trans (f97 c i (by unfold Wdy; omega))).trans (f82 c i (show ¬ c = 88 by omega))
      have r104 : ∀ c i, c ≠ 9 → m104 c i = m97 c i := fun c i q => f104 c i q
      refine ih (μ := m104) (t := (cms S lo up dn lk D (drw (S 0) x) N 61 0 (pl, t)).2) (K := K) (kk := kk + (N - 0)) (x := itr N.toNat x) (y := y + 1) (by omega) (h.spots (fun c i q1 q2 => fr c i (by unfold gxc at q2; unfold Wdw Wdy; omega)) (fun y y0 y1 => a9 y y0 (by omega))) ⟨⟨(r104 86 2 (by decide)).trans c97.2.1.1, (r104 86 3 (by decide)).trans c97.2.1.2.1, (r104 86 4 (by decide)).trans c97.2.1.2.2⟩, fun y y0 y1 => by rw [r104 87 y (by decide), r104 63 y (by decide)]; exact c97.2.2 y y0 y1⟩ (fun j j0 j1 => by rw [a9 j j0 j1, fr 65 j (by unfold Wdw Wdy; omega)]; exact h65 j j0 j1) (hRu.keep (fr 79 1 (by unfold Wdw Wdy; omega)) (fr.row (fun i q => by unfold Wdw Wdy at q; omega)) (fr.row (fun i q => by unfold Wdw Wdy at q; omega))) (tI.back hbk hs) hbk hs (by omega) hK hN hS0 (itr_rng hx _) (by omega) hw (fun m b1 b2 b3 => ?_)
      have q := hQ m (fr.trans b1) (fun j j0 j1 => (b2 j j0 j1).trans (a9 j j0 j1))
      rw [show (B - y).toNat = (B - (y + 1)).toNat + 1 by omega] at q
      exact q b3
set_option maxHeartbeats 4000000 in
theorem s_M_puts2_2 : ∀ (f : Nat) {μ : Mem} {Q : PV → Mem → Prop} {h : Int → Int} {i : Int}, ((12 - i).toNat < f) → (0 ≤ i ∧ i ≤ 12) → (μ 13 = h) → (∀ j, 0 ≤ j → j < i → μ 12 j = h j) → (∀ μ', Fr (fun c i => c = 12 ∧ 0 ≤ i ∧ i < 12) μ μ' → (∀ j, 0 ≤ j → j < 12 → μ' 12 j = h j) → Q vU μ') → Rj YM y_M_putsBack 2 [vA 0, vI i] [] μ Q := by
  intro f
  induction f with
  | zero => intro μ Q h i hf hi hh hb hQ; exact absurd hf (by omega)
  | succ f ih =>
    intro μ Q h i hf hi hh hb hQ
    have hhi : μ 13 i = h i := by rw [hh]
    refine Rj_iload_n (q := 3) d_M_putsBack_2 rfl rfl rfl ?_
    refine Rj_bipush (q := 5) d_M_putsBack_3 rfl (by decide +kernel) ?_
    refine Rj_icmp_ge (q := 8) (t := 26) d_M_putsBack_5 rfl (by decide) ⟨by omega, by omega⟩ (by decide) (fun c5 => ?_) (fun c5 => ?_)
    · refine Rj_vret d_M_putsBack_26 rfl ?_
      exact hQ μ (Fr.refl _ _) (fun j j0 j1 => hb j j0 (by omega))
    · refine Rj_aload_n (q := 9) d_M_putsBack_8 rfl rfl rfl ?_
      refine Rj_gr (q := 12) (zd := 12) gM_M_45_0 rfl rfl d_M_putsBack_9 rfl ?_
      refine Rj_iload_n (q := 13) d_M_putsBack_12 rfl rfl rfl ?_
      refine Rj_aload_n (q := 14) d_M_putsBack_13 rfl rfl rfl ?_
      refine Rj_gr (q := 17) (zd := 13) gM_M_48_0 rfl rfl d_M_putsBack_14 rfl ?_
      refine Rj_iload_n (q := 18) d_M_putsBack_17 rfl rfl rfl ?_
      refine Rj_la (q := 19) (v := h i) aM_13 rfl (by omega) hhi d_M_putsBack_18 rfl ?_
      refine Rj_lst (q := 20) aM_12 rfl (by omega) d_M_putsBack_19 rfl ?_
      refine Rj_iinc (q := 23) (ls' := [vA 0, vI (i + 1)]) d_M_putsBack_20 rfl rfl (by decide) rfl ?_
      refine Rj_goto (t := 2) d_M_putsBack_23 (by decide) ?_
      refine ih (μ := mset μ 12 i (h i)) (by omega) (by omega) hh (fun j j0 j1 => ?_) (fun m f q => hQ m (Fr.trans (Fr.put (Fr.refl _ _) ⟨rfl, by omega, by omega⟩) f) q)
      by_cases e : j = i
      · rw [e, mset_same]
      · rw [mset_ne _ _ _ _ _ e]; exact hb j j0 (by omega)
set_option maxHeartbeats 4000000 in
theorem s_M_puts2 {μ : Mem} {Q : PV → Mem → Prop} (hQ : ∀ μ', Fr (fun c i => c = 12 ∧ 0 ≤ i ∧ i < 12) μ μ' → (∀ j, 0 ≤ j → j < 12 → μ' 12 j = μ 13 j) → Q vU μ') : Rj YM y_M_putsBack 0 [vA 0] [] μ Q := by
  refine Rj_iconst (q := 1) d_M_putsBack_0 rfl ?_
  refine Rj_istore_n (q := 2) (ls' := [vA 0, vI 0]) d_M_putsBack_1 rfl rfl (by decide) rfl ?_
  exact s_M_puts2_2 (h := μ 13) _ (Nat.lt_succ_self _) (by decide) rfl (fun j j0 j1 => absurd j1 (by omega)) hQ
set_option maxHeartbeats 4000000 in
theorem s_M_drawn_77 : ∀ (f : Nat) {μ : Mem} {Q : PV → Mem → Prop} {S lo up dn lk : Int → Int} {D : List CLS} {σ : DS} {K kp k r B N w x0 x y j : Int}, ((N - j).toNat < f) → (MX μ) → (μ 11 = S ∧ μ 14 = lo ∧ μ 15 = up ∧ μ 16 = dn ∧ μ 17 = lk) → (MDS μ σ) → (DSI S K kp k σ) → (RML μ r D) → (k + (N - j) ≤ 4000) → (K + (kp + (N - j)) * 2799360000000 ≤ 100000000000000000) → (N ≤ 60) → (0 ≤ j ∧ j ≤ N) → (0 ≤ x0 ∧ x0 ≤ 2147483647) → (x = itr j.toNat x0) → (0 < S 0) → (∀ μ', Fr Wcm μ μ' → MDS μ' (cms S lo up dn lk D (drw (S 0) x0) N f j σ) → Rj YM y_M_drawn 127 [vA 0, vI r, vI B, vI N, vI w, vL (itr N.toNat x0), vU, vI y] [] μ' Q) → Rj YM y_M_drawn 77 [vA 0, vI r, vI B, vI N, vI w, vL x, vU, vI y, vI j] [] μ Q := by
  intro f
  induction f with
  | zero => intro μ Q S lo up dn lk D σ K kp k r B N w x0 x y j hf h hE hM hI hR hk hK hN hj hx0 hxj hS0 hQ; exact absurd hf (by omega)
  | succ f ih =>
    intro μ Q S lo up dn lk D σ K kp k r B N w x0 x y j hf h hE hM hI hR hk hK hN hj hx0 hxj hS0 hQ
    have n0 : μ 11 0 = S 0 := by rw [hE.1]
    have z0 := h.z.1
    have xr := itr_rng hx0 j.toNat
    rw [← hxj] at xr
    have nr := nxr_rng x
    refine Rj_iload (q := 79) d_M_drawn_77 rfl rfl ?_
    refine Rj_iload_n (q := 80) d_M_drawn_79 rfl rfl rfl ?_
    refine Rj_icmp_ge (q := 83) (t := 127) d_M_drawn_80 rfl (by decide) ⟨by omega, by omega⟩ ⟨by omega, by omega⟩ (fun c80 => ?_) (fun c80 => ?_)
    · refine Rj_pre (ls' := [vA 0, vI r, vI B, vI N, vI w, vL x, vU, vI y]) (t := [vI j]) rfl ?_
      have q := hQ μ (Fr.refl _ _) (by rw [cms_n (by omega)]; exact hM)
      rw [show itr N.toNat x0 = x by rw [hxj, show j = N by omega]] at q
      exact q
    · refine Rj_lload (q := 85) d_M_drawn_83 rfl rfl ?_
      refine Rj_ldc2 (q := 88) k_M_505 d_M_drawn_85 rfl ?_
      refine Rj_lmul (q := 89) d_M_drawn_88 rfl ?_
      refine Rj_ldc2 (q := 92) k_M_507 d_M_drawn_89 rfl ?_
      refine Rj_ladd (q := 93) d_M_drawn_92 rfl ?_
      refine Rj_ldc2 (q := 96) k_M_509 d_M_drawn_93 rfl ?_
      refine Rj_lrem (q := 97) d_M_drawn_96 rfl ⟨by omega, by omega⟩ (by decide) (by decide) ?_
      rw [show ((x * 1103515245) + 12345).tmod 2147483648 = nxr x from Int.tmod_eq_emod_of_nonneg (by omega)]
      refine Rj_lstore (q := 99) (ls' := [vA 0, vI r, vI B, vI N, vI w, vL (nxr x), vU, vI y, vI j]) d_M_drawn_97 rfl (by decide) rfl ?_
      refine Rj_aload_n (q := 100) d_M_drawn_99 rfl rfl rfl ?_
      refine Rj_iload_n (q := 101) d_M_drawn_100 rfl rfl rfl ?_
      refine Rj_lload (q := 103) d_M_drawn_101 rfl rfl ?_
      refine Rj_ldc2 (q := 106) k_M_511 d_M_drawn_103 rfl ?_
      refine Rj_ldiv (q := 107) d_M_drawn_106 rfl ⟨by omega, by omega⟩ (by decide) (by decide) ?_
      rw [show (nxr x).tdiv 65536 = nxr x / 65536 from Int.tdiv_eq_ediv_of_nonneg nr.1]
      refine Rj_aload_n (q := 108) d_M_drawn_107 rfl rfl rfl ?_
      refine Rj_gr (q := 111) (zd := 11) gM_M_42_0 rfl rfl d_M_drawn_108 rfl ?_
      refine Rj_iconst (q := 112) d_M_drawn_111 rfl ?_
      refine Rj_ia (q := 113) (v := S 0) aM_11 rfl (by decide) n0 d_M_drawn_112 rfl ?_
      refine Rj_i2l (q := 114) d_M_drawn_113 rfl ⟨by omega, by omega⟩ ?_
      refine Rj_lrem (q := 115) d_M_drawn_114 rfl ⟨by omega, by omega⟩ ⟨by omega, by omega⟩ (by omega) ?_
      rw [show (nxr x / 65536).tmod (S 0) = (nxr x / 65536) % S 0 from Int.tmod_eq_emod_of_nonneg (by omega)]
      refine Rj_l2i (q := 116) d_M_drawn_115 rfl ?_
      refine Rj_iload (q := 118) d_M_drawn_116 rfl rfl ?_
      refine Rj_vov (q := 121) (z := y_M_comes) (as := [vI r, vI ((nxr x / 65536) % S 0), vI j]) (rest := []) (la := [vA 0, vI r, vI ((nxr x / 65536) % S 0), vI j]) oM_0_M_comes ml_M_483 mw_M_comes mv_M_comes rfl d_M_drawn_118 rfl rfl rfl rfl rfl ?_
      obtain ⟨e11, e14, e15, e16, e17⟩ := id hE
      have ed : (nxr x / 65536) % S 0 = drw (S 0) x0 j := by unfold drw; rw [hxj]; rfl
      rw [ed]
      refine s_M_comes (D := D) (σ := σ) (K := K) (kp := kp) (k := k) h (by rw [e11]; exact drw_rng hS0) (by omega) hR hM (by rw [e11]; exact hI) (by omega) (by omega) (fun m28 f28 q28 => ?_)
      rw [e11, e14, e15, e16, e17] at q28
      refine Rj_iinc (q := 124) (ls' := [vA 0, vI r, vI B, vI N, vI w, vL (nxr x), vU, vI y, vI (j + 1)]) d_M_drawn_121 rfl rfl (by decide) rfl ?_
      refine Rj_goto (t := 77) d_M_drawn_124 (by decide) ?_
      have w11 : m28 11 = S := (f28.row (fun i q => by unfold Wcm at q; omega)).trans e11
      have w14 : m28 14 = lo := (f28.row (fun i q => by unfold Wcm at q; omega)).trans e14
      have w15 : m28 15 = up := (f28.row (fun i q => by unfold Wcm at q; omega)).trans e15
      have w16 : m28 16 = dn := (f28.row (fun i q => by unfold Wcm at q; omega)).trans e16
      have w17 : m28 17 = lk := (f28.row (fun i q => by unfold Wcm at q; omega)).trans e17
      have hI2 := cmg_I (S := S) (lo := lo) (up := up) (dn := dn) (lk := lk) (D := D) (d := drw (S 0) x0 j) (ah := j) (by rw [← e11]; exact h.1) (by rw [← e11, ← e14, ← e15, ← e16, ← e17]; exact h.2.1) (drw_rng hS0) hI
      refine ih (μ := m28) (σ := cmg S lo up dn lk D (drw (S 0) x0 j) j σ) (kp := kp + 1) (k := k + 1) (x := nxr x) (j := j + 1) (by omega) (h.mv (w11.trans e11.symm) (w14.trans e14.symm) (w15.trans e15.symm) (w16.trans e16.symm) (w17.trans e17.symm) (f28 0 32 (by unfold Wcm; omega)) (by rw [q28.1]; exact fun y y0 y1 => by have := hI2.2.2.2.2.1 y y0 y1; omega)) ⟨w11, w14, w15, w16, w17⟩ q28 hI2 (hR.cm f28) (by omega) (by omega) hN (by omega) hx0 (by rw [itr_s hj.1, ← hxj]) hS0 (fun m b1 b2 => hQ m (f28.trans b1) ?_)
      rw [cms_y (by omega)]; exact b2
set_option maxHeartbeats 4000000 in
theorem s_M_drawn_127 {μ : Mem} {Q : PV → Mem → Prop} {r B N w x y : Int} (hy : 0 ≤ y ∧ y ≤ 20) (hQ : ∀ μ', Fr (fun c i => c = 12 ∧ 0 ≤ i ∧ i < 12) μ μ' → (∀ j, 0 ≤ j → j < 12 → μ' 12 j = μ 13 j) → Rj YM y_M_drawn 68 [vA 0, vI r, vI B, vI N, vI w, vL x, vU, vI (y + 1)] [] μ' Q) : Rj YM y_M_drawn 127 [vA 0, vI r, vI B, vI N, vI w, vL x, vU, vI y] [] μ Q := by
  refine Rj_aload_n (q := 128) d_M_drawn_127 rfl rfl rfl ?_
  refine Rj_vov (q := 131) (z := y_M_putsBack) (as := []) (rest := []) (la := [vA 0]) oM_0_M_putsBack ml_M_500 mw_M_putsBack mv_M_putsBack rfl d_M_drawn_128 rfl rfl rfl rfl rfl ?_
  refine s_M_puts2 (fun m f q => ?_)
  refine Rj_iinc (q := 134) (ls' := [vA 0, vI r, vI B, vI N, vI w, vL x, vU, vI (y + 1)]) d_M_drawn_131 rfl rfl (by decide) rfl ?_
  refine Rj_goto (t := 68) d_M_drawn_134 (by decide) ?_
  exact hQ m f q
set_option maxHeartbeats 4000000 in
theorem s_M_drawn_68 : ∀ (f : Nat) {μ : Mem} {Q : PV → Mem → Prop} {S lo up dn lk pl : Int → Int} {D : List CLS} {t : Int × Int × Int × (Int → Int)} {K kk r B N w x y : Int}, ((B - y).toNat < f) → (MX μ) → (μ 11 = S ∧ μ 14 = lo ∧ μ 15 = up ∧ μ 16 = dn ∧ μ 17 = lk) → (MDS μ (pl, t)) → (∀ j, 0 ≤ j → j < 12 → μ 13 j = pl j) → (RML μ r D) → (DSI S K 0 kk (pl, t)) → (∀ d, 0 ≤ d → d < 12 → -K ≤ pl d ∧ pl d ≤ K) → (SB S pl) → (kk + (B - y) * 60 ≤ 1200) → (K + 60 * 2799360000000 ≤ 100000000000000000) → (1 ≤ N ∧ N ≤ 60) → (0 < S 0) → (0 ≤ x ∧ x ≤ 2147483647) → (0 ≤ y ∧ y ≤ B ∧ B ≤ 20) → (0 ≤ w ∧ w ≤ 2) → (∀ μ', Fr Wcm μ μ' → MDS μ' (dws S lo up dn lk D pl N (B - y).toNat x (pl, t)) → Q (vI (tal w (dws S lo up dn lk D pl N (B - y).toNat x (pl, t)))) μ') → Rj YM y_M_drawn 68 [vA 0, vI r, vI B, vI N, vI w, vL x, vU, vI y] [] μ Q := by
  intro f
  induction f with
  | zero => intro μ Q S lo up dn lk pl D t K kk r B N w x y hf h hE hM h13 hR hI hbk hs hkk hK hN hS0 hx hy hw hQ; exact absurd hf (by omega)
  | succ f ih =>
    intro μ Q S lo up dn lk pl D t K kk r B N w x y hf h hE hM h13 hR hI hbk hs hkk hK hN hS0 hx hy hw hQ
    have z0 : S 0 ≤ 12 := by rw [← hE.1]; exact h.z.1.2
    have i1 : 0 ≤ t.1 ∧ t.1 ≤ kk := hI.1
    have i2 : 0 ≤ t.2.1 ∧ t.2.1 ≤ kk := hI.2.1
    have i3 : 0 ≤ t.2.2.1 ∧ t.2.2.1 ≤ kk := hI.2.2.1
    refine Rj_iload (q := 70) d_M_drawn_68 rfl rfl ?_
    refine Rj_iload_n (q := 71) d_M_drawn_70 rfl rfl rfl ?_
    refine Rj_icmp_ge (q := 74) (t := 137) d_M_drawn_71 rfl (by decide) ⟨by omega, by omega⟩ ⟨by omega, by omega⟩ (fun c71 => ?_) (fun c71 => ?_)
    · refine Rj_iload (q := 139) d_M_drawn_137 rfl rfl ?_
      refine Rj_if_ne (q := 142) (t := 149) d_M_drawn_139 rfl (by decide) ⟨by omega, by omega⟩ (fun c139 => ?_) (fun c139 => ?_)
      · refine Rj_iload (q := 151) d_M_drawn_149 rfl rfl ?_
        refine Rj_iconst (q := 152) d_M_drawn_151 rfl ?_
        refine Rj_icmp_ne (q := 155) (t := 162) d_M_drawn_152 rfl (by decide) ⟨by omega, by omega⟩ (by decide) (fun c152 => ?_) (fun c152 => ?_)
        · refine Rj_aload_n (q := 163) d_M_drawn_162 rfl rfl rfl ?_
          refine Rj_gi (q := 166) (ki := 42) (v := t.2.2.1) gM_M_474_0 rfl rfl hM.2.2.2.1 d_M_drawn_163 rfl ?_
          refine Rj_iret d_M_drawn_166 rfl ?_
          have e0 : dws S lo up dn lk D pl N (B - y).toNat x (pl, t) = (pl, t) := by rw [show (B - y).toNat = 0 by omega]; rfl
          exact fin_I (hQ μ (Fr.refl _ _) (by rw [e0]; exact hM)) (by rw [e0]; show (if w = 0 then t.1 else if w = 1 then t.2.1 else t.2.2.1) = t.2.2.1; rw [if_neg (by omega), if_neg (by omega)])
        · refine Rj_aload_n (q := 156) d_M_drawn_155 rfl rfl rfl ?_
          refine Rj_gi (q := 159) (ki := 41) (v := t.2.1) gM_M_471_0 rfl rfl hM.2.2.1 d_M_drawn_156 rfl ?_
          refine Rj_goto (t := 166) d_M_drawn_159 (by decide) ?_
          refine Rj_iret d_M_drawn_166 rfl ?_
          have e0 : dws S lo up dn lk D pl N (B - y).toNat x (pl, t) = (pl, t) := by rw [show (B - y).toNat = 0 by omega]; rfl
          exact fin_I (hQ μ (Fr.refl _ _) (by rw [e0]; exact hM)) (by rw [e0]; show (if w = 0 then t.1 else if w = 1 then t.2.1 else t.2.2.1) = t.2.1; rw [if_neg (by omega), if_pos (by omega)])
      · refine Rj_aload_n (q := 143) d_M_drawn_142 rfl rfl rfl ?_
        refine Rj_gi (q := 146) (ki := 40) (v := t.1) gM_M_468_0 rfl rfl hM.2.1 d_M_drawn_143 rfl ?_
        refine Rj_goto (t := 166) d_M_drawn_146 (by decide) ?_
        refine Rj_iret d_M_drawn_166 rfl ?_
        have e0 : dws S lo up dn lk D pl N (B - y).toNat x (pl, t) = (pl, t) := by rw [show (B - y).toNat = 0 by omega]; rfl
        exact fin_I (hQ μ (Fr.refl _ _) (by rw [e0]; exact hM)) (by rw [e0]; show (if w = 0 then t.1 else if w = 1 then t.2.1 else t.2.2.1) = t.1; rw [if_pos (by omega)])
    · refine Rj_iconst (q := 75) d_M_drawn_74 rfl ?_
      refine Rj_istore (q := 77) (ls' := [vA 0, vI r, vI B, vI N, vI w, vL x, vU, vI y, vI 0]) d_M_drawn_75 rfl (by decide) rfl ?_
      obtain ⟨e11, e14, e15, e16, e17⟩ := id hE
      have hS : StrOK S := by rw [← e11]; exact h.1
      have hH : Hung S 0 lo up dn lk := by rw [← e11, ← e14, ← e15, ← e16, ← e17]; exact h.2.1
      have tI := cms_I (D := D) (g := drw (S 0) x) (N := N) (K := K) hS hH (fun j j0 j1 => drw_rng hS0) 61 0 0 kk (pl, t) (by decide) (by omega) (by omega) hI
      refine s_M_drawn_77 (S := S) (lo := lo) (up := up) (dn := dn) (lk := lk) (D := D) (σ := (pl, t)) (K := K) (kp := 0) (k := kk) (x0 := x) 61 (by omega) h hE hM hI hR (by omega) (by omega) hN.2 (by omega) hx rfl hS0 (fun m f1 q1 => ?_)
      refine s_M_drawn_127 (by omega) (fun m2 f2 q2 => ?_)
      have w11 : m 11 = S := (f1.row (fun i q => by unfold Wcm at q; omega)).trans e11
      have w14 : m 14 = lo := (f1.row (fun i q => by unfold Wcm at q; omega)).trans e14
      have w15 : m 15 = up := (f1.row (fun i q => by unfold Wcm at q; omega)).trans e15
      have w16 : m 16 = dn := (f1.row (fun i q => by unfold Wcm at q; omega)).trans e16
      have w17 : m 17 = lk := (f1.row (fun i q => by unfold Wcm at q; omega)).trans e17
      have v11 : m2 11 = S := (f2.row (fun i q => absurd (show (11 : Nat) = 12 from q.1) (by decide))).trans w11
      have v14 : m2 14 = lo := (f2.row (fun i q => absurd (show (14 : Nat) = 12 from q.1) (by decide))).trans w14
      have v15 : m2 15 = up := (f2.row (fun i q => absurd (show (15 : Nat) = 12 from q.1) (by decide))).trans w15
      have v16 : m2 16 = dn := (f2.row (fun i q => absurd (show (16 : Nat) = 12 from q.1) (by decide))).trans w16
      have v17 : m2 17 = lk := (f2.row (fun i q => absurd (show (17 : Nat) = 12 from q.1) (by decide))).trans w17
      have v0 : m2 0 = m 0 := f2.row (fun i q => absurd (show (0 : Nat) = 12 from q.1) (by decide))
      have v23 : m2 23 = m 23 := f2.row (fun i q => absurd (show (23 : Nat) = 12 from q.1) (by decide))
      have v13 : ∀ j, m2 13 j = μ 13 j := fun j => (f2 13 j (fun q => absurd (show (13 : Nat) = 12 from q.1) (by decide))).trans (f1 13 j (by unfold Wcm; omega))
      have v12 : m2 12 = pl := by
        funext j
        by_cases e : 0 ≤ j ∧ j < 12
        · rw [q2 j e.1 e.2, f1 13 j (by unfold Wcm; omega)]; exact h13 j e.1 e.2
        · rw [f2 12 j (fun q => e q.2), q1.1]; exact cms_out z0 e 61 0 (pl, t)
      have fr : Fr Wcm μ m2 := f1.trans (Fr.wide f2 (fun c i q => by unfold Wcm; omega))
      refine ih (μ := m2) (pl := pl) (t := (cms S lo up dn lk D (drw (S 0) x) N 61 0 (pl, t)).2) (K := K) (kk := kk + (N - 0)) (x := itr N.toNat x) (y := y + 1) (by omega) (h.mv (v11.trans e11.symm) (v14.trans e14.symm) (v15.trans e15.symm) (v16.trans e16.symm) (v17.trans e17.symm) (fr 0 32 (by unfold Wcm; omega)) (by rw [v12]; exact fun y y0 y1 => by have := hbk y y0 y1; omega)) ⟨v11, v14, v15, v16, v17⟩ ⟨v12, by rw [v0]; exact q1.2.1, by rw [v0]; exact q1.2.2.1, by rw [v0]; exact q1.2.2.2.1, by rw [v23]; exact q1.2.2.2.2⟩ (fun j j0 j1 => (v13 j).trans (h13 j j0 j1)) (hR.cm fr) (tI.back hbk hs) hbk hs (by omega) hK hN hS0 (itr_rng hx _) (by omega) hw (fun m3 b1 b3 => ?_)
      have q := hQ m3 (fr.trans b1)
      rw [show (B - y).toNat = (B - (y + 1)).toNat + 1 by omega] at q
      exact q b3
