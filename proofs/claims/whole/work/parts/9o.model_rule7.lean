theorem oM_0_M_isInside : OI YM 0 y_M_isInside := ⟨by decide, _, _, _, cM_0, rfl⟩
theorem oM_0_M_settles : OI YM 0 y_M_settles := ⟨by decide, _, _, _, cM_0, rfl⟩
/-! the reference reads a rule: brackets close, tests -/
theorem OST.te {μ ν : Mem} {w : List Int} (h : OST μ w) (e1 : ν 0 21 = μ 0 21) (e2 : ν 0 18 = μ 0 18) (e3 : ν 8 = μ 8) : OST ν w := by
  unfold OST; rw [e1, e2, e3]; exact h
theorem PF_stl {b : Int} : ∀ {w : List Int} {c : CLS}, PF c (stl b w c).2
  | [], c => PF.refl c
  | o :: t, c => by
    by_cases e : b ≤ bnd o
    · rw [stl_cons e]; exact (PF_emt o c).trans PF_stl
    · rw [stl_stop e]; exact PF.refl c
theorem PF_stE {b : Int} {w w' : List Int} {c c' : CLS} (e : stl b w c = (w', c')) : PF c c' := by
  have q := PF_stl (b := b) (w := w) (c := c)
  rw [e] at q; exact q
set_option maxHeartbeats 4000000 in
theorem s_M_closes_5 : ∀ (f : Nat) {μ : Mem} {Q : PV → Mem → Prop} {A : Int → Int} {n t k cl vl : Int} {w : List Int} {D : List CLS} {c : CLS}, ((n - k).toNat < f) → (RM μ A n t k cl vl D c) → (IV n k w cl vl 7 D c) → (OST μ w) → (OPW w) → (dpn w ≤ 10) → (∀ μ' k' w' c', (∀ x, RUN A n k' w' cl vl 7 D c' x → RUN A n k w cl vl 7 D c x) → Fr (Wte t) μ μ' → RM μ' A n t k' cl vl D c' → IV n k' w' cl vl 7 D c' → OST μ' w' → OPW w' → dpn w' ≤ 10 → k ≤ k' → sk A n k' = k' → (¬ sgn A n k' = 93 ∨ ¬ 0 < brn w') → PF c c' → Q vU μ') → Rj YM y_M_closes 5 [vA 0] [] μ Q := by
  intro f
  induction f with
  | zero => intro μ Q A n t k cl vl w D c hf hC hI hO hp hd hQ; exact absurd hf (by omega)
  | succ f ih =>
    intro μ Q A n t k cl vl w D c hf hC hI hO hp hd hQ
    obtain ⟨hA, hn, hX, hk, hw0, ht, hv, hc, hL, hl⟩ := id hC
    obtain ⟨i1, i2, i3, i4, i5, i6, i7, i8⟩ := id hI
    have nn := nM_le D c
    have hX1 := hX.1
    have dw := dpn_bd w
    refine Rj_aload_n (q := 6) d_M_closes_5 rfl rfl rfl ?_
    refine Rj_vo (q := 9) (z := y_M_see) (as := []) (rest := []) (la := [vA 0]) oM_0_M_see ml_M_113 mw_M_see mv_M_see rfl d_M_closes_6 rfl rfl rfl rfl rfl ?_
    refine s_M_see (μ := μ) (A := A) (n := n) (k := k) hX hA hn hk (by omega) ?_
    have r6 := sk_bd A (n := n) (k := k) (by omega)
    have v6 := seeV_32 (n := n) hX (k := sk A n k) (by omega)
    refine Rj_bipush (q := 11) d_M_closes_9 rfl (by decide +kernel) ?_
    refine Rj_icmp_ne (q := 14) (t := 64) d_M_closes_11 rfl (by decide) (by first | assumption | exact ⟨by omega, by omega⟩) (by decide) (fun c11 => ?_) (fun c11 => ?_)
    · refine Rj_vret d_M_closes_64 rfl ?_
      exact hQ _ (sk A n k) w c (fun x g => RUN_sk g) (Fr.put (Fr.refl _ _) (by unfold Wte; omega)) (hC.upd (Fr.put (Fr.refl _ _) (by omega)) rfl hv hc) (hI.to (by omega) (by omega)) (hO.te rfl rfl rfl) hp hd (by omega) (sk_idem _ _ _) (Or.inl (fun q => c11 ((see_sgn hX (by omega) (by decide)).mpr q))) (PF.refl _)
    · refine Rj_aload_n (q := 15) d_M_closes_14 rfl rfl rfl ?_
      refine Rj_vo (q := 18) (z := y_M_isInside) (as := []) (rest := []) (la := [vA 0]) oM_0_M_isInside ml_M_209 mw_M_isInside mv_M_isInside rfl d_M_closes_15 rfl rfl rfl rfl rfl ?_
      refine s_M_isInside (μ := (mset μ 0 13 (sk A n k))) (hO.te rfl rfl rfl) hp (by omega) (fun q15 => ?_) (fun q15 => ?_)
      · have zz := True.intro
        refine Rj_if_eq (q := 21) (t := 64) d_M_closes_18 rfl (by decide) (by decide) (fun c => absurd c (by decide)) (fun _ => ?_)
        refine Rj_aload_n (q := 22) d_M_closes_21 rfl rfl rfl ?_
        refine Rj_iconst (q := 23) d_M_closes_22 rfl ?_
        refine Rj_vov (q := 26) (z := y_M_settles) (as := [vI 1]) (rest := []) (la := [vA 0, vI 1]) oM_0_M_settles ml_M_206 mw_M_settles mv_M_settles rfl d_M_closes_23 rfl rfl rfl rfl rfl ?_
        have sg : sgn A n (sk A n k) = 93 := (see_sgn hX (by omega) (by decide)).mp c11
        have kn := sgn_lt (by decide) sg
        obtain ⟨t_, et⟩ := stl_br (c := c) i5 q15
        have es : stl 1 w c = (22 :: t_, (stl 1 w c).2) := by rw [← et]
        generalize ec : (stl 1 w c).2 = c1 at es
        have cv : RM ((mset μ 0 13 (sk A n k))) A n t (sk A n k) cl vl D c := hC.upd (Fr.put (Fr.refl _ _) (by omega)) rfl hv hc
        have iv : IV n (sk A n k) w cl vl 7 D c := hI.to (by omega) (by omega)
        have fr0 : Fr (Wte t) μ ((mset μ 0 13 (sk A n k))) := (Fr.put (Fr.refl _ _) (by unfold Wte; omega))
        refine s_M_settles (b := 1) cv iv (hO.te rfl rfl rfl) hp (by decide) (fun m fm cm om => ?_)
        rw [es] at cm om
        dsimp only at cm om
        have ivm := iv.settE es
        have pm : OPW (22 :: t_) := by have q := hp.stl (b := 1) (c := c); rw [es] at q; exact q
        have dm : dpn (22 :: t_) ≤ 10 := by have q := dpn_stl (b := 1) (w := w) (c := c); rw [es] at q; dsimp only at q; omega
        have dm2 : dpn (22 :: t_) = dpn t_ + 1 := by rw [dpn_cons, if_pos (by decide)]
        have dt := dpn_bd t_
        have tl : (((22 :: t_ : List Int).length : Nat) : Int) = (t_.length : Int) + 1 := by simp
        have y1 := ivm.1
        have y4 := ivm.2.2.2.1
        refine Rj_aload_n (q := 27) d_M_closes_26 rfl rfl rfl ?_
        refine Rj_dup (q := 28) d_M_closes_27 rfl (by intro h; cases h) ?_
        refine Rj_gi (q := 31) (ki := 21) (v := ((22 :: t_ : List Int).length : Int)) gM_M_167_0 rfl rfl om.1 d_M_closes_28 rfl ?_
        refine Rj_iconst (q := 32) d_M_closes_31 rfl ?_
        refine Rj_isub (q := 33) d_M_closes_32 rfl ?_
        refine Rj_pi (q := 36) (ki := 21) pM_M_167_0 rfl rfl d_M_closes_33 rfl ?_
        refine Rj_aload_n (q := 37) d_M_closes_36 rfl rfl rfl ?_
        refine Rj_dup (q := 38) d_M_closes_37 rfl (by intro h; cases h) ?_
        refine Rj_gi (q := 41) (ki := 18) (v := dpn (22 :: t_)) gM_M_164_0 rfl rfl om.2.1 d_M_closes_38 rfl ?_
        refine Rj_iconst (q := 42) d_M_closes_41 rfl ?_
        refine Rj_isub (q := 43) d_M_closes_42 rfl ?_
        refine Rj_pi (q := 46) (ki := 18) pM_M_164_0 rfl rfl d_M_closes_43 rfl ?_
        refine Rj_aload_n (q := 47) d_M_closes_46 rfl rfl rfl ?_
        refine Rj_dup (q := 48) d_M_closes_47 rfl (by intro h; cases h) ?_
        refine Rj_gi (q := 51) (ki := 13) (v := sk A n k) gM_M_110_0 rfl rfl cm.2.2.2.1 d_M_closes_48 rfl ?_
        refine Rj_iconst (q := 52) d_M_closes_51 rfl ?_
        refine Rj_iadd (q := 53) d_M_closes_52 rfl ?_
        refine Rj_pi (q := 56) (ki := 13) pM_M_110_0 rfl rfl d_M_closes_53 rfl ?_
        refine Rj_aload_n (q := 57) d_M_closes_56 rfl rfl rfl ?_
        refine Rj_iconst (q := 58) d_M_closes_57 rfl ?_
        refine Rj_vov (q := 61) (z := y_M_settles) (as := [vI 3]) (rest := []) (la := [vA 0, vI 3]) oM_0_M_settles ml_M_206 mw_M_settles mv_M_settles rfl d_M_closes_58 rfl rfl rfl rfl rfl ?_
        have cv2 : RM ((mset (mset (mset m 0 21 (((22 :: t_ : List Int).length : Int) - 1)) 0 18 ((dpn (22 :: t_)) - 1)) 0 13 ((sk A n k) + 1))) A n t (sk A n k + 1) cl vl D c1 := cm.upd (Fr.put (Fr.put (Fr.put (Fr.refl _ _) (by omega)) (by omega)) (by omega)) rfl cm.2.2.2.2.2.2.1 cm.2.2.2.2.2.2.2.1
        have iv2 : IV n (sk A n k + 1) t_ cl vl 7 D c1 := ivm.pop.to (by omega) (by omega)
        have ov2 : OST ((mset (mset (mset m 0 21 (((22 :: t_ : List Int).length : Int) - 1)) 0 18 ((dpn (22 :: t_)) - 1)) 0 13 ((sk A n k) + 1))) t_ := ⟨by show _ - 1 = _; omega, by show _ - 1 = _; omega, by show WST (m 8) _; exact om.2.2.2⟩
        have fr2 : Fr (Wte t) μ ((mset (mset (mset m 0 21 (((22 :: t_ : List Int).length : Int) - 1)) 0 18 ((dpn (22 :: t_)) - 1)) 0 13 ((sk A n k) + 1))) := Fr.trans (Fr.trans fr0 fm) (Fr.put (Fr.put (Fr.put (Fr.refl _ _) (by unfold Wte; omega)) (by unfold Wte; omega)) (by unfold Wte; omega))
        refine s_M_settles (b := 3) cv2 iv2 ov2 pm.tl (by decide) (fun m3 f3 cm3 om3 => ?_)
        refine Rj_goto (t := 5) d_M_closes_61 (by decide) ?_
        have stp : ∀ x, RUN A n (sk A n k + 1) (stl 3 t_ c1).1 cl vl 7 D (stl 3 t_ c1).2 x → RUN A n k w cl vl 7 D c x := fun x g => RUN_close rfl (Or.inr ⟨⟨Or.inl rfl, Or.inr rfl⟩, fun h => wat_sg h (by decide) sg, fun h => wat_sg h (by decide) sg⟩) q15 sg es (RUN_stl3 rfl g)
        exact ih (μ := m3) (by omega) cm3 iv2.sett om3 pm.tl.stl (by have := dpn_stl (b := 3) (w := t_) (c := c1); omega) (fun m4 k4 w4 c4 b1 b2 b3 b4 b5 b6 b7 b8 b9 b10 b11 => hQ m4 k4 w4 c4 (fun x g => stp x (b1 x g)) (Fr.trans (Fr.trans fr2 f3) b2) b3 b4 b5 b6 b7 (by omega) b9 b10 ((PF_stE es).trans (PF_stl.trans b11)))
      · have zz := True.intro
        refine Rj_if_eq (q := 21) (t := 64) d_M_closes_18 rfl (by decide) (by decide) (fun _ => ?_) (fun c => absurd c (by decide))
        refine Rj_vret d_M_closes_64 rfl ?_
        exact hQ _ (sk A n k) w c (fun x g => RUN_sk g) (Fr.put (Fr.refl _ _) (by unfold Wte; omega)) (hC.upd (Fr.put (Fr.refl _ _) (by omega)) rfl hv hc) (hI.to (by omega) (by omega)) (hO.te rfl rfl rfl) hp hd (by omega) (sk_idem _ _ _) (Or.inr q15) (PF.refl _)
set_option maxHeartbeats 4000000 in
theorem s_M_closes {μ : Mem} {Q : PV → Mem → Prop} {A : Int → Int} {n t k cl vl : Int} {w : List Int} {D : List CLS} {c : CLS} (hC : RM μ A n t k cl vl D c) (hI : IV n k w cl vl 7 D c) (hO : OST μ w) (hp : OPW w) (hd : dpn w ≤ 10) (hQ : ∀ μ' k' w' c', (∀ x, RUN A n k' w' cl vl 7 D c' x → RUN A n k w cl vl 7 D c x) → Fr (Wte t) μ μ' → RM μ' A n t k' cl vl D c' → IV n k' w' cl vl 7 D c' → OST μ' w' → OPW w' → dpn w' ≤ 10 → k ≤ k' → sk A n k' = k' → (¬ sgn A n k' = 93 ∨ ¬ 0 < brn w') → PF c c' → Q vU μ') : Rj YM y_M_closes 0 [vA 0] [] μ Q := by
  refine Rj_aload_n (q := 1) d_M_closes_0 rfl rfl rfl ?_
  refine Rj_iconst (q := 2) d_M_closes_1 rfl ?_
  refine Rj_vov (q := 5) (z := y_M_settles) (as := [vI 3]) (rest := []) (la := [vA 0, vI 3]) oM_0_M_settles ml_M_206 mw_M_settles mv_M_settles rfl d_M_closes_2 rfl rfl rfl rfl rfl ?_
  refine s_M_settles (b := 3) hC hI hO hp (by decide) (fun m fm cm om => ?_)
  exact s_M_closes_5 _ (Nat.lt_succ_self _) cm hI.sett om hp.stl (by have := dpn_stl (b := 3) (w := w) (c := c); omega) (fun m4 k4 w4 c4 b1 b2 b3 b4 b5 b6 b7 b8 b9 b10 b11 => hQ m4 k4 w4 c4 (fun x g => RUN_stl3 rfl (b1 x g)) (Fr.trans fm b2) b3 b4 b5 b6 b7 b8 b9 b10 (PF_stl.trans b11))
