/-! the reference searches: from the start -/
def bs0 (μ : Mem) : BS := (fset (μ 18) 0 0, fset (μ 19) 0 (-1), fset (μ 20) 0 0, 1)
abbrev W21 (c : Nat) (_ : Int) : Prop := c = 21
set_option maxHeartbeats 4000000 in
theorem s_M_sr_15 : ∀ (f : Nat) {μ : Mem} {Q : PV → Mem → Prop} {l tc wt i : Int}, ((8192 - i).toNat < f) → (0 ≤ i ∧ i ≤ 8192) → (∀ p, 0 ≤ p → p < i → μ 21 p = 0) → (∀ μ', Fr W21 μ μ' → (∀ p, 0 ≤ p → p < 8192 → μ' 21 p = 0) → Rj YM y_M_searches 37 [vA 0, vI l, vI tc, vI wt] [] μ' Q) → Rj YM y_M_searches 15 [vA 0, vI l, vI tc, vI wt, vI i] [] μ Q := by
  intro f
  induction f with
  | zero => intro μ Q l tc wt i hf hi hz hQ; exact absurd hf (by omega)
  | succ f ih =>
    intro μ Q l tc wt i hf hi hz hQ
    refine Rj_iload (q := 17) d_M_searches_15 rfl rfl ?_
    refine Rj_sipush (q := 20) d_M_searches_17 rfl (by decide +kernel) ?_
    refine Rj_icmp_ge (q := 23) (t := 37) d_M_searches_20 rfl (by decide) ⟨by omega, by omega⟩ (by decide) (fun c20 => ?_) (fun c20 => ?_)
    · refine Rj_pre (ls' := [vA 0, vI l, vI tc, vI wt]) (t := [vI i]) rfl ?_
      exact hQ μ (Fr.refl _ _) (fun p p0 p1 => hz p p0 (by omega))
    · refine Rj_aload_n (q := 24) d_M_searches_23 rfl rfl rfl ?_
      refine Rj_gr (q := 27) (zd := 21) gM_M_77_0 rfl rfl d_M_searches_24 rfl ?_
      refine Rj_iload (q := 29) d_M_searches_27 rfl rfl ?_
      refine Rj_iconst (q := 30) d_M_searches_29 rfl ?_
      refine Rj_is (q := 31) aM_21 rfl (by omega) d_M_searches_30 rfl ?_
      refine Rj_iinc (q := 34) (ls' := [vA 0, vI l, vI tc, vI wt, vI (i + 1)]) d_M_searches_31 rfl rfl (by decide) rfl ?_
      refine Rj_goto (t := 15) d_M_searches_34 (by decide) ?_
      refine ih (μ := mset μ 21 i 0) (by omega) (by omega) (fun p p0 p1 => ?_) (fun m a b => hQ m ((Fr.put (Fr.refl _ _) (by unfold W21; rfl)).trans a) b)
      by_cases e : p = i
      · rw [e, mset_same]
      · rw [mset_ne _ _ _ _ _ e]; exact hz p p0 (by omega)
set_option maxHeartbeats 4000000 in
theorem s_M_sr_37 {μ : Mem} {Q : PV → Mem → Prop} {S lo up dn pl : Int → Int} {l tc wt : Int} (h : MX μ) (E : EQM μ S lo up dn pl) (hl : 0 ≤ l ∧ l < S 0 ∧ lo l = l) (hw : 0 ≤ wt ∧ wt ≤ 2147483647) (hw3 : 0 ≤ S 3 ∧ S 3 ≤ 2147483647) (hw4 : 0 ≤ S 4 ∧ S 4 ≤ 2147483647) (hul : ∀ x, 0 ≤ x → x < S 0 → lo x = l → μ 17 x = 0) (htc : 0 ≤ tc ∧ tc ≤ 2147483647) (hz : ∀ p, 0 ≤ p → p < 8192 → μ 21 p = 0) (hQ : ∀ μ', Fr Wse μ μ' → bsM μ' = (sts (stdB S lo up dn pl l wt) (wtdB S lo up dn pl l) (alM S lo l tc) (fun d => pof (pts S) up dn d l) (S 0) 2002 0 (bs0 μ)).1 → Q (vI (sts (stdB S lo up dn pl l wt) (wtdB S lo up dn pl l) (alM S lo l tc) (fun d => pof (pts S) up dn d l) (S 0) 2002 0 (bs0 μ)).2) μ') : Rj YM y_M_searches 37 [vA 0, vI l, vI tc, vI wt] [] μ Q := by
  refine Rj_aload_n (q := 38) d_M_searches_37 rfl rfl rfl ?_
  refine Rj_iconst (q := 39) d_M_searches_38 rfl ?_
  refine Rj_pi (q := 42) (ki := 36) pM_M_403_0 rfl rfl d_M_searches_39 rfl ?_
  refine Rj_aload_n (q := 43) d_M_searches_42 rfl rfl rfl ?_
  refine Rj_lconst (q := 44) (z := 0) d_M_searches_43 rfl rfl ?_
  refine Rj_iconst (q := 45) d_M_searches_44 rfl ?_
  refine Rj_iconst (q := 46) d_M_searches_45 rfl ?_
  refine Rj_vov (q := 49) (z := y_M_comesTo) (as := [vL 0, vI (-1), vI 0]) (rest := []) (la := [vA 0, vL 0, vU, vI (-1), vI 0]) oM_0_M_comesTo ml_M_406 mw_M_comesTo mv_M_comesTo rfl d_M_searches_46 rfl rfl rfl rfl rfl ?_
  refine s_M_comesTo (m := 0) (HTB.empty (by decide) (fun p p0 p1 => by rw [mset_nc _ _ _ _ _ (by decide)]; exact hz p p0 p1)) (by decide) (fun s s0 s1 => by omega) ⟨by decide, by decide⟩ (mset_same _ _ _ _) (by decide) (fun ⟨s, s0, s1, _⟩ => by omega) (fun m f1 g1 g2 g3 g4 g5 => ?_)
  have rw_ : ∀ c i, c ≠ 0 → c ≠ 21 → ¬ i = 0 → m c i = μ c i := fun c i c0 c1 i0 => by rw [f1 c i (by omega), mset_nc _ _ _ _ _ c0]
  have fs : Fr Wse μ m := (Fr.put (Fr.refl _ _) (by unfold Wse; omega)).trans (Fr.wide f1 (fun c i q => by unfold Wse; omega))
  have bsm : bsM m = bs0 μ := by
    have r18 : m 18 = fset (μ 18) 0 0 := funext fun i => by
      by_cases e : i = 0
      · rw [e, fset_same]; exact g2
      · rw [fset_ne _ e]; exact rw_ 18 i (by decide) (by decide) e
    have r19 : m 19 = fset (μ 19) 0 (-1) := funext fun i => by
      by_cases e : i = 0
      · rw [e, fset_same]; exact g3
      · rw [fset_ne _ e]; exact rw_ 19 i (by decide) (by decide) e
    have r20 : m 20 = fset (μ 20) 0 0 := funext fun i => by
      by_cases e : i = 0
      · rw [e, fset_same]; exact g4
      · rw [fset_ne _ e]; exact rw_ 20 i (by decide) (by decide) e
    unfold bsM bs0
    rw [r18, r19, r20, g5]; rfl
  have g5' : m 0 36 = 1 := g5
  have hIm : SIM m l := by
    refine ⟨by rw [g5]; exact g1, by omega, fun s s0 s1 => ?_⟩
    have e : s = 0 := by omega
    rw [e, g2]; exact RB_0
  refine Rj_iconst (q := 50) d_M_searches_49 rfl ?_
  refine Rj_istore (q := 52) (ls' := [vA 0, vI l, vI tc, vI wt, vI 0]) d_M_searches_50 rfl (by decide) rfl ?_
  refine s_M_sr_52 (μ := m) 2002 (by decide) (h.se fs) (E.se fs) hIm hl hw hw3 hw4 (fun x x0 x1 x2 => by rw [fs.row (c := 17) (fun i q => by unfold Wse at q; omega)]; exact hul x x0 x1 x2) htc (by omega) (fun m2 b c => ?_)
  rw [bsm] at c ⊢
  exact hQ m2 (fs.trans b) c
set_option maxHeartbeats 4000000 in
theorem s_M_searches {μ : Mem} {Q : PV → Mem → Prop} {S lo up dn pl : Int → Int} {l tc wt : Int} (h : MX μ) (E : EQM μ S lo up dn pl) (hl : 0 ≤ l ∧ l < S 0 ∧ lo l = l) (hw : 0 ≤ wt ∧ wt ≤ 2147483647) (hw3 : 0 ≤ S 3 ∧ S 3 ≤ 2147483647) (hw4 : 0 ≤ S 4 ∧ S 4 ≤ 2147483647) (htc : 0 ≤ tc ∧ tc ≤ 2147483647) (hul : μ 17 l = 0 → ∀ x, 0 ≤ x → x < S 0 → lo x = l → μ 17 x = 0) (h1 : ¬ μ 17 l = 0 → Q (vI (-2)) μ) (hQ : μ 17 l = 0 → ∀ μ', Fr Wse μ μ' → bsM μ' = (sts (stdB S lo up dn pl l wt) (wtdB S lo up dn pl l) (alM S lo l tc) (fun d => pof (pts S) up dn d l) (S 0) 2002 0 (bs0 μ)).1 → Q (vI (sts (stdB S lo up dn pl l wt) (wtdB S lo up dn pl l) (alM S lo l tc) (fun d => pof (pts S) up dn d l) (S 0) 2002 0 (bs0 μ)).2) μ') : Rj YM y_M_searches 0 [vA 0, vI l, vI tc, vI wt] [] μ Q := by
  obtain ⟨e11, e14, e15, e16, e12⟩ := id E
  obtain ⟨z0, z1, z6, z5⟩ := h.z
  rw [e11] at z0
  have kr := (Hu_d h.1 h.2.1 (d := l) (by rw [e11]; omega)).2.2.2.1
  refine Rj_aload_n (q := 1) d_M_searches_0 rfl rfl rfl ?_
  refine Rj_gr (q := 4) (zd := 17) gM_M_60_0 rfl rfl d_M_searches_1 rfl ?_
  refine Rj_iload_n (q := 5) d_M_searches_4 rfl rfl rfl ?_
  refine Rj_za (q := 6) (v := μ 17 l) aM_17 rfl (by omega) rfl d_M_searches_5 rfl ?_
  refine Rj_if_eq (q := 9) (t := 12) d_M_searches_6 rfl (by decide) ⟨by omega, by omega⟩ (fun c6 => ?_) (fun c6 => ?_)
  · refine Rj_iconst (q := 13) d_M_searches_12 rfl ?_
    refine Rj_istore (q := 15) (ls' := [vA 0, vI l, vI tc, vI wt, vI 0]) d_M_searches_13 rfl (by decide) rfl ?_
    have u0 : μ 17 l = 0 := by omega
    refine s_M_sr_15 8193 (by decide) (by decide) (fun p p0 p1 => by omega) (fun m a b => ?_)
    have fs : Fr Wse μ m := Fr.wide a (fun c i q => by unfold W21 at q; unfold Wse; omega)
    have eb : bs0 m = bs0 μ := by
      unfold bs0
      rw [a.row (c := 18) (fun i q => by unfold W21 at q; omega), a.row (c := 19) (fun i q => by unfold W21 at q; omega), a.row (c := 20) (fun i q => by unfold W21 at q; omega)]
    refine s_M_sr_37 (h.se fs) (E.se fs) hl hw hw3 hw4 (fun x x0 x1 x2 => by rw [fs.row (c := 17) (fun i q => by unfold Wse at q; omega)]; exact hul u0 x x0 x1 x2) htc b (fun m2 b2 c2 => ?_)
    rw [eb] at c2 ⊢
    exact hQ u0 m2 (fs.trans b2) c2
  · refine Rj_bipush (q := 11) d_M_searches_9 rfl (by decide +kernel) ?_
    refine Rj_iret d_M_searches_11 rfl ?_
    exact h1 (by omega)
