theorem gM_M_48_0 : GI YM "DoorsOnCogsModel" 48 0 27 (some (some 13)) := ⟨by decide, _, _, _, fl_M_48, cM_0, by decide, rfl⟩
theorem aM_13 : AI YM 13 (.long) 12 := ⟨by decide, cM_13, by decide⟩
theorem oM_0_M_comes : OI YM 0 y_M_comes := ⟨by decide, _, _, _, cM_0, rfl⟩
theorem oM_0_M_begins : OI YM 0 y_M_begins := ⟨by decide, _, _, _, cM_0, rfl⟩
/-! days, whole -/
abbrev s0 (pl : Int → Int) : DS := (pl, 0, 0, 0, fun _ => 0)
theorem s0_I {S pl : Int → Int} {K : Int} (hb : ∀ d, 0 ≤ d → d < 12 → -K ≤ pl d ∧ pl d ≤ K) (hs : SB S pl) : DSI S K 0 0 (s0 pl) := by
  refine ⟨by show (0 : Int) ≤ 0 ∧ (0 : Int) ≤ 0; decide, by show (0 : Int) ≤ 0 ∧ (0 : Int) ≤ 0; decide, by show (0 : Int) ≤ 0 ∧ (0 : Int) ≤ 0; decide, fun y _ _ => ?_, fun d d0 d1 => ?_, hs⟩
  · show (0 : Int) ≤ 0 ∧ (0 : Int) ≤ 0 * 2799360000000; decide
  · have := hb d d0 d1
    show -(K + 0 * 2799360000000) ≤ pl d ∧ pl d ≤ K + 0 * 2799360000000
    omega
abbrev Wbg (c : Nat) (i : Int) : Prop := (c = 0 ∧ (i = 40 ∨ i = 41 ∨ i = 42)) ∨ c = 23
set_option maxHeartbeats 4000000 in
theorem s_M_begins_17 : ∀ (f : Nat) {μ : Mem} {Q : PV → Mem → Prop} {i : Int}, ((12 - i).toNat < f) → (0 ≤ i ∧ i ≤ 12) → (∀ j, 0 ≤ j → j < i → μ 23 j = 0) → (∀ μ', Fr (fun c _ => c = 23) μ μ' → (∀ j, 0 ≤ j → j < 12 → μ' 23 j = 0) → Q vU μ') → Rj YM y_M_begins 17 [vA 0, vI i] [] μ Q := by
  intro f
  induction f with
  | zero => intro μ Q i hf hi hb hQ; exact absurd hf (by omega)
  | succ f ih =>
    intro μ Q i hf hi hb hQ
    refine Rj_iload_n (q := 18) d_M_begins_17 rfl rfl rfl ?_
    refine Rj_bipush (q := 20) d_M_begins_18 rfl (by decide +kernel) ?_
    refine Rj_icmp_ge (q := 23) (t := 36) d_M_begins_20 rfl (by decide) ⟨by omega, by omega⟩ (by decide) (fun c20 => ?_) (fun c20 => ?_)
    · refine Rj_vret d_M_begins_36 rfl ?_
      exact hQ μ (Fr.refl _ _) (fun j j0 j1 => hb j j0 (by omega))
    · refine Rj_aload_n (q := 24) d_M_begins_23 rfl rfl rfl ?_
      refine Rj_gr (q := 27) (zd := 23) gM_M_83_0 rfl rfl d_M_begins_24 rfl ?_
      refine Rj_iload_n (q := 28) d_M_begins_27 rfl rfl rfl ?_
      refine Rj_lconst (q := 29) (z := 0) d_M_begins_28 rfl rfl ?_
      refine Rj_lst (q := 30) aM_23 rfl (by omega) d_M_begins_29 rfl ?_
      refine Rj_iinc (q := 33) (ls' := [vA 0, vI (i + 1)]) d_M_begins_30 rfl rfl (by decide) rfl ?_
      refine Rj_goto (t := 17) d_M_begins_33 (by decide) ?_
      refine ih (μ := mset μ 23 i 0) (by omega) (by omega) (fun j j0 j1 => ?_) (fun m f q => hQ m (Fr.trans (Fr.put (Fr.refl _ _) rfl) f) q)
      by_cases e : j = i
      · rw [e, mset_same]
      · rw [mset_ne _ _ _ _ _ e]; exact hb j j0 (by omega)
set_option maxHeartbeats 4000000 in
theorem s_M_begins {μ : Mem} {Q : PV → Mem → Prop} (hQ : ∀ μ', Fr Wbg μ μ' → MDS μ' (s0 (μ 12)) → Q vU μ') : Rj YM y_M_begins 0 [vA 0] [] μ Q := by
  refine Rj_aload_n (q := 1) d_M_begins_0 rfl rfl rfl ?_
  refine Rj_iconst (q := 2) d_M_begins_1 rfl ?_
  refine Rj_pi (q := 5) (ki := 40) pM_M_468_0 rfl rfl d_M_begins_2 rfl ?_
  refine Rj_aload_n (q := 6) d_M_begins_5 rfl rfl rfl ?_
  refine Rj_iconst (q := 7) d_M_begins_6 rfl ?_
  refine Rj_pi (q := 10) (ki := 41) pM_M_471_0 rfl rfl d_M_begins_7 rfl ?_
  refine Rj_aload_n (q := 11) d_M_begins_10 rfl rfl rfl ?_
  refine Rj_iconst (q := 12) d_M_begins_11 rfl ?_
  refine Rj_pi (q := 15) (ki := 42) pM_M_474_0 rfl rfl d_M_begins_12 rfl ?_
  refine Rj_iconst (q := 16) d_M_begins_15 rfl ?_
  refine Rj_istore_n (q := 17) (ls' := [vA 0, vI 0]) d_M_begins_16 rfl rfl (by decide) rfl ?_
  refine s_M_begins_17 (μ := (mset (mset (mset μ 0 40 0) 0 41 0) 0 42 0)) (i := 0) _ (Nat.lt_succ_self _) (by decide) (fun j j0 j1 => absurd j1 (by omega)) (fun m f q => hQ m (Fr.trans (Fr.put (Fr.put (Fr.put (Fr.refl _ _) (by first | omega | (unfold Wbg; omega))) (by first | omega | (unfold Wbg; omega))) (by first | omega | (unfold Wbg; omega))) (Fr.wide f (fun c i q => Or.inr q))) ⟨?_, ?_, ?_, ?_, q⟩)
  · exact f.row (fun i q => absurd (show (12 : Nat) = 23 from q) (by decide))
  · exact f 0 40 (show ¬ (0 : Nat) = 23 by decide)
  · exact f 0 41 (show ¬ (0 : Nat) = 23 by decide)
  · exact f 0 42 (show ¬ (0 : Nat) = 23 by decide)
set_option maxHeartbeats 4000000 in
theorem s_M_keeps_2 : ∀ (f : Nat) {μ : Mem} {Q : PV → Mem → Prop} {h : Int → Int} {i : Int}, ((12 - i).toNat < f) → (0 ≤ i ∧ i ≤ 12) → (μ 12 = h) → (∀ j, 0 ≤ j → j < i → μ 13 j = h j) → (∀ μ', Fr (fun c _ => c = 13) μ μ' → (∀ j, 0 ≤ j → j < 12 → μ' 13 j = h j) → Q vU μ') → Rj YM y_M_keeps 2 [vA 0, vI i] [] μ Q := by
  intro f
  induction f with
  | zero => intro μ Q h i hf hi hh hb hQ; exact absurd hf (by omega)
  | succ f ih =>
    intro μ Q h i hf hi hh hb hQ
    have hhi : μ 12 i = h i := by rw [hh]
    refine Rj_iload_n (q := 3) d_M_keeps_2 rfl rfl rfl ?_
    refine Rj_bipush (q := 5) d_M_keeps_3 rfl (by decide +kernel) ?_
    refine Rj_icmp_ge (q := 8) (t := 26) d_M_keeps_5 rfl (by decide) ⟨by omega, by omega⟩ (by decide) (fun c5 => ?_) (fun c5 => ?_)
    · refine Rj_vret d_M_keeps_26 rfl ?_
      exact hQ μ (Fr.refl _ _) (fun j j0 j1 => hb j j0 (by omega))
    · refine Rj_aload_n (q := 9) d_M_keeps_8 rfl rfl rfl ?_
      refine Rj_gr (q := 12) (zd := 13) gM_M_48_0 rfl rfl d_M_keeps_9 rfl ?_
      refine Rj_iload_n (q := 13) d_M_keeps_12 rfl rfl rfl ?_
      refine Rj_aload_n (q := 14) d_M_keeps_13 rfl rfl rfl ?_
      refine Rj_gr (q := 17) (zd := 12) gM_M_45_0 rfl rfl d_M_keeps_14 rfl ?_
      refine Rj_iload_n (q := 18) d_M_keeps_17 rfl rfl rfl ?_
      refine Rj_la (q := 19) (v := h i) aM_12 rfl (by omega) hhi d_M_keeps_18 rfl ?_
      refine Rj_lst (q := 20) aM_13 rfl (by omega) d_M_keeps_19 rfl ?_
      refine Rj_iinc (q := 23) (ls' := [vA 0, vI (i + 1)]) d_M_keeps_20 rfl rfl (by decide) rfl ?_
      refine Rj_goto (t := 2) d_M_keeps_23 (by decide) ?_
      refine ih (μ := mset μ 13 i (h i)) (by omega) (by omega) hh (fun j j0 j1 => ?_) (fun m f q => hQ m (Fr.trans (Fr.put (Fr.refl _ _) rfl) f) q)
      by_cases e : j = i
      · rw [e, mset_same]
      · rw [mset_ne _ _ _ _ _ e]; exact hb j j0 (by omega)
set_option maxHeartbeats 4000000 in
theorem s_M_keeps {μ : Mem} {Q : PV → Mem → Prop} (hQ : ∀ μ', Fr (fun c _ => c = 13) μ μ' → (∀ j, 0 ≤ j → j < 12 → μ' 13 j = μ 12 j) → Q vU μ') : Rj YM y_M_keeps 0 [vA 0] [] μ Q := by
  refine Rj_iconst (q := 1) d_M_keeps_0 rfl ?_
  refine Rj_istore_n (q := 2) (ls' := [vA 0, vI 0]) d_M_keeps_1 rfl rfl (by decide) rfl ?_
  exact s_M_keeps_2 (h := μ 12) _ (Nat.lt_succ_self _) (by decide) rfl (fun j j0 j1 => absurd j1 (by omega)) hQ
set_option maxHeartbeats 4000000 in
theorem s_M_putsBack_2 : ∀ (f : Nat) {μ : Mem} {Q : PV → Mem → Prop} {h : Int → Int} {i : Int}, ((12 - i).toNat < f) → (0 ≤ i ∧ i ≤ 12) → (μ 13 = h) → (∀ j, 0 ≤ j → j < i → μ 12 j = h j) → (∀ μ', Fr (fun c _ => c = 12) μ μ' → (∀ j, 0 ≤ j → j < 12 → μ' 12 j = h j) → Q vU μ') → Rj YM y_M_putsBack 2 [vA 0, vI i] [] μ Q := by
  intro f
  induction f with
  | zero => intro μ Q h i hf hi hh hb hQ; exact absurd hf (by omega)
  | succ f ih =>
    intro μ Q h i hf hi hh hb hQ
    have hhi : μ 13 i = h i := by rw [hh]
    refine Rj_iload_n (q := 3) d_M_putsBack_2 rfl rfl rfl ?_
    refine Rj_bipush (q := 5) d_M_putsBack_3 rfl (by decide +kernel) ?_
    refine Rj_icmp_ge (q := 8) (t := 26) d_M_putsBack_5 rfl (by decide) ⟨by omega, by omega⟩ (by decide) (fun c5 => ?_) (fun c5 => ?_)
    · refine Rj_vret d_M_putsBack_26 rfl ?_
      exact hQ μ (Fr.refl _ _) (fun j j0 j1 => hb j j0 (by omega))
    · refine Rj_aload_n (q := 9) d_M_putsBack_8 rfl rfl rfl ?_
      refine Rj_gr (q := 12) (zd := 12) gM_M_45_0 rfl rfl d_M_putsBack_9 rfl ?_
      refine Rj_iload_n (q := 13) d_M_putsBack_12 rfl rfl rfl ?_
      refine Rj_aload_n (q := 14) d_M_putsBack_13 rfl rfl rfl ?_
      refine Rj_gr (q := 17) (zd := 13) gM_M_48_0 rfl rfl d_M_putsBack_14 rfl ?_
      refine Rj_iload_n (q := 18) d_M_putsBack_17 rfl rfl rfl ?_
      refine Rj_la (q := 19) (v := h i) aM_13 rfl (by omega) hhi d_M_putsBack_18 rfl ?_
      refine Rj_lst (q := 20) aM_12 rfl (by omega) d_M_putsBack_19 rfl ?_
      refine Rj_iinc (q := 23) (ls' := [vA 0, vI (i + 1)]) d_M_putsBack_20 rfl rfl (by decide) rfl ?_
      refine Rj_goto (t := 2) d_M_putsBack_23 (by decide) ?_
      refine ih (μ := mset μ 12 i (h i)) (by omega) (by omega) hh (fun j j0 j1 => ?_) (fun m f q => hQ m (Fr.trans (Fr.put (Fr.refl _ _) rfl) f) q)
      by_cases e : j = i
      · rw [e, mset_same]
      · rw [mset_ne _ _ _ _ _ e]; exact hb j j0 (by omega)
set_option maxHeartbeats 4000000 in
theorem s_M_putsBack {μ : Mem} {Q : PV → Mem → Prop} (hQ : ∀ μ', Fr (fun c _ => c = 12) μ μ' → (∀ j, 0 ≤ j → j < 12 → μ' 12 j = μ 13 j) → Q vU μ') : Rj YM y_M_putsBack 0 [vA 0] [] μ Q := by
  refine Rj_iconst (q := 1) d_M_putsBack_0 rfl ?_
  refine Rj_istore_n (q := 2) (ls' := [vA 0, vI 0]) d_M_putsBack_1 rfl rfl (by decide) rfl ?_
  exact s_M_putsBack_2 (h := μ 13) _ (Nat.lt_succ_self _) (by decide) rfl (fun j j0 j1 => absurd j1 (by omega)) hQ
set_option maxHeartbeats 4000000 in
theorem s_M_day_6 : ∀ (f : Nat) {μ : Mem} {Q : PV → Mem → Prop} {S lo up dn lk g : Int → Int} {D : List CLS} {σ : DS} {K kp k r N i : Int}, ((N - i).toNat < f) → (MX μ) → (μ 11 = S ∧ μ 14 = lo ∧ μ 15 = up ∧ μ 16 = dn ∧ μ 17 = lk) → (MDS μ σ) → (DSI S K kp k σ) → (RML μ r D) → (k + (N - i) ≤ 4000) → (K + (kp + (N - i)) * 2799360000000 ≤ 100000000000000000) → (S 5 = N ∧ 0 ≤ N ∧ N ≤ 40) → (0 ≤ i ∧ i ≤ N) → (∀ j, 0 ≤ j → j < N → S (94 + j) = g j ∧ (0 ≤ g j ∧ g j < S 0)) → (∀ μ', Fr Wcm μ μ' → MDS μ' (cms S lo up dn lk D g N f i σ) → Q vU μ') → Rj YM y_M_passesDay 6 [vA 0, vI r, vI i] [] μ Q := by
  intro f
  induction f with
  | zero => intro μ Q S lo up dn lk g D σ K kp k r N i hf h hE hM hI hR hk hK hN hi hg hQ; exact absurd hf (by omega)
  | succ f ih =>
    intro μ Q S lo up dn lk g D σ K kp k r N i hf h hE hM hI hR hk hK hN hi hg hQ
    have n5 : μ 11 5 = N := by rw [hE.1]; exact hN.1
    have i1 := hI.1
    refine Rj_iload_n (q := 7) d_M_passesDay_6 rfl rfl rfl ?_
    refine Rj_aload_n (q := 8) d_M_passesDay_7 rfl rfl rfl ?_
    refine Rj_gr (q := 11) (zd := 11) gM_M_42_0 rfl rfl d_M_passesDay_8 rfl ?_
    refine Rj_iconst (q := 12) d_M_passesDay_11 rfl ?_
    refine Rj_ia (q := 13) (v := N) aM_11 rfl (by decide) n5 d_M_passesDay_12 rfl ?_
    refine Rj_icmp_ge (q := 16) (t := 37) d_M_passesDay_13 rfl (by decide) ⟨by omega, by omega⟩ ⟨by omega, by omega⟩ (fun c13 => ?_) (fun c13 => ?_)
    · refine Rj_vret d_M_passesDay_37 rfl ?_
      exact hQ μ (Fr.refl _ _) (by rw [cms_n (by omega)]; exact hM)
    · have gi := hg i hi.1 (by omega)
      have gq : μ 11 (94 + i) = g i := by rw [hE.1]; exact gi.1
      refine Rj_aload_n (q := 17) d_M_passesDay_16 rfl rfl rfl ?_
      refine Rj_iload_n (q := 18) d_M_passesDay_17 rfl rfl rfl ?_
      refine Rj_aload_n (q := 19) d_M_passesDay_18 rfl rfl rfl ?_
      refine Rj_gr (q := 22) (zd := 11) gM_M_42_0 rfl rfl d_M_passesDay_19 rfl ?_
      refine Rj_bipush (q := 24) d_M_passesDay_22 rfl (by decide +kernel) ?_
      refine Rj_iload_n (q := 25) d_M_passesDay_24 rfl rfl rfl ?_
      refine Rj_iadd (q := 26) d_M_passesDay_25 rfl ?_
      refine Rj_ia (q := 27) (v := g i) aM_11 rfl (by omega) gq d_M_passesDay_26 rfl ?_
      refine Rj_iload_n (q := 28) d_M_passesDay_27 rfl rfl rfl ?_
      refine Rj_vov (q := 31) (z := y_M_comes) (as := [vI r, vI (g i), vI i]) (rest := []) (la := [vA 0, vI r, vI (g i), vI i]) oM_0_M_comes ml_M_483 mw_M_comes mv_M_comes rfl d_M_passesDay_28 rfl rfl rfl rfl rfl ?_
      obtain ⟨e11, e14, e15, e16, e17⟩ := id hE
      refine s_M_comes (D := D) (σ := σ) (K := K) (kp := kp) (k := k) h (by rw [e11]; exact gi.2) (by omega) hR hM (by rw [e11]; exact hI) (by omega) (by omega) (fun m28 f28 q28 => ?_)
      rw [e11, e14, e15, e16, e17] at q28
      refine Rj_iinc (q := 34) (ls' := [vA 0, vI r, vI (i + 1)]) d_M_passesDay_31 rfl rfl (by decide) rfl ?_
      refine Rj_goto (t := 6) d_M_passesDay_34 (by decide) ?_
      have w11 : m28 11 = S := (f28.row (fun i q => by unfold Wcm at q; omega)).trans e11
      have w14 : m28 14 = lo := (f28.row (fun i q => by unfold Wcm at q; omega)).trans e14
      have w15 : m28 15 = up := (f28.row (fun i q => by unfold Wcm at q; omega)).trans e15
      have w16 : m28 16 = dn := (f28.row (fun i q => by unfold Wcm at q; omega)).trans e16
      have w17 : m28 17 = lk := (f28.row (fun i q => by unfold Wcm at q; omega)).trans e17
      have w32 : m28 0 32 = μ 0 32 := f28 0 32 (by unfold Wcm; omega)
      have hI2 := cmg_I (S := S) (lo := lo) (up := up) (dn := dn) (lk := lk) (D := D) (ah := i) (by rw [← e11]; exact h.1) (by rw [← e11, ← e14, ← e15, ← e16, ← e17]; exact h.2.1) gi.2 hI
      refine ih (μ := m28) (σ := cmg S lo up dn lk D (g i) i σ) (kp := kp + 1) (k := k + 1) (i := i + 1) (by omega) (h.mv (w11.trans e11.symm) (w14.trans e14.symm) (w15.trans e15.symm) (w16.trans e16.symm) (w17.trans e17.symm) w32 (by rw [q28.1]; exact fun y y0 y1 => by have := hI2.2.2.2.2.1 y y0 y1; omega)) ⟨w11, w14, w15, w16, w17⟩ q28 hI2 (hR.cm f28) (by omega) (by omega) hN (by omega) hg (fun m b1 b2 => hQ m (f28.trans b1) ?_)
      rw [cms_y (by omega)]; exact b2
set_option maxHeartbeats 4000000 in
theorem s_M_passesDay {μ : Mem} {Q : PV → Mem → Prop} (h : MX μ) {r K : Int} {D : List CLS} (hR : RML μ r D) (hbk : ∀ d, 0 ≤ d → d < 12 → -K ≤ μ 12 d ∧ μ 12 d ≤ K) (hs : SB (μ 11) (μ 12)) (hN : 0 ≤ μ 11 5 ∧ μ 11 5 ≤ 40) (hg : ∀ j, 0 ≤ j → j < μ 11 5 → 0 ≤ μ 11 (94 + j) ∧ μ 11 (94 + j) < μ 11 0) (hK : K + 40 * 2799360000000 ≤ 100000000000000000) (hQ : ∀ μ', Fr Wcm μ μ' → MDS μ' (cms (μ 11) (μ 14) (μ 15) (μ 16) (μ 17) D (fun j => μ 11 (94 + j)) (μ 11 5) 61 0 (s0 (μ 12))) → Q vU μ') : Rj YM y_M_passesDay 0 [vA 0, vI r] [] μ Q := by
  refine Rj_aload_n (q := 1) d_M_passesDay_0 rfl rfl rfl ?_
  refine Rj_vov (q := 4) (z := y_M_begins) (as := []) (rest := []) (la := [vA 0]) oM_0_M_begins ml_M_480 mw_M_begins mv_M_begins rfl d_M_passesDay_1 rfl rfl rfl rfl rfl ?_
  refine s_M_begins (fun m1 f1 q1 => ?_)
  refine Rj_iconst (q := 5) d_M_passesDay_4 rfl ?_
  refine Rj_istore_n (q := 6) (ls' := [vA 0, vI r, vI 0]) d_M_passesDay_5 rfl rfl (by decide) rfl ?_
  have f1w : Fr Wcm μ m1 := Fr.wide f1 (fun c i q => by unfold Wbg at q; unfold Wcm; omega)
  have w11 : m1 11 = μ 11 := f1.row (fun i q => by unfold Wbg at q; omega)
  have w12 : m1 12 = μ 12 := f1.row (fun i q => by unfold Wbg at q; omega)
  have w14 : m1 14 = μ 14 := f1.row (fun i q => by unfold Wbg at q; omega)
  have w15 : m1 15 = μ 15 := f1.row (fun i q => by unfold Wbg at q; omega)
  have w16 : m1 16 = μ 16 := f1.row (fun i q => by unfold Wbg at q; omega)
  have w17 : m1 17 = μ 17 := f1.row (fun i q => by unfold Wbg at q; omega)
  exact s_M_day_6 (μ := m1) (S := μ 11) (lo := μ 14) (up := μ 15) (dn := μ 16) (lk := μ 17) (g := (fun j => μ 11 (94 + j))) (N := μ 11 5) (K := K) (kp := 0) (k := 0) 61 (by omega) (h.mv w11 w14 w15 w16 w17 (f1 0 32 (by unfold Wbg; omega)) (by rw [w12]; exact h.2.2.2.1)) ⟨w11, w14, w15, w16, w17⟩ q1 (s0_I hbk hs) (hR.cm f1w) (by omega) (by omega) ⟨rfl, hN.1, hN.2⟩ (by omega) (fun j j0 j1 => ⟨rfl, hg j j0 j1⟩) (fun m b1 b2 => hQ m (f1w.trans b1) b2)
