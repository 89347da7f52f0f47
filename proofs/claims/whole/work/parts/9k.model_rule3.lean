theorem oM_0_M_value : OI YM 0 y_M_value := ⟨by decide, _, _, _, cM_0, rfl⟩
theorem oM_0_M_term : OI YM 0 y_M_term := ⟨by decide, _, _, _, cM_0, rfl⟩
/-! the reference reads a rule: terms, sums -/
def ltop (b : Int) : List Int → Prop
  | [] => True
  | o :: _ => bnd o < b
theorem ltop_stl {b : Int} : ∀ {w : List Int} {c : CLS}, ltop b w → stl b w c = (w, c)
  | [], _, _ => rfl
  | o :: t, c, h => stl_stop (by have h : bnd o < b := h; omega)
theorem ltop.mono {a b : Int} (h : a ≤ b) : ∀ {w : List Int}, ltop a w → ltop b w
  | [], _ => trivial
  | o :: _, q => by have q : bnd o < a := q; show bnd o < b; omega
theorem sgn_lt {A : Int → Int} {n q x : Int} (hx : 0 ≤ x) (h : sgn A n q = x) : q < n := ((sgn_eq hx).mp h).1
theorem rec_eq (s : Int) : (recOp s = 10 ↔ s = 42) ∧ (recOp s = 11 ↔ s = 47) ∧ (recOp s = 8 ↔ s = 43) ∧ (recOp s = 9 ↔ s = 45) := by
  unfold recOp
  refine ⟨?_, ?_, ?_, ?_⟩ <;> (repeat' split) <;> omega
theorem bnd_rec6 (s : Int) : bnd (recOp s) ≤ 6 := by
  unfold bnd
  (repeat' split) <;> omega
theorem bnd_rec5 {s : Int} (h1 : ¬ recOp s = 10) (h2 : ¬ recOp s = 11) : bnd (recOp s) ≤ 5 := by
  unfold bnd
  rw [if_neg (by omega)]
  (repeat' split) <;> omega
theorem nrec {s : Int} (h1 : ¬ recOp s = 10) (h2 : ¬ recOp s = 11) (h3 : ¬ recOp s = 8) (h4 : ¬ recOp s = 9) : ¬ 0 ≤ recOp s := by
  have := recOp_rng s
  omega
set_option maxHeartbeats 4000000 in
theorem s_M_term_9 : ∀ (f : Nat) {μ : Mem} {Q : PV → Mem → Prop} {A : Int → Int} {n t k cl vl nx : Int} {w : List Int} {D : List CLS} {c : CLS}, ((n - k).toNat < f) → (RM μ A n t k cl vl D c) → (IV n k w cl vl nx D c) → (nx % 2 = 1) → (nx ≠ 7) → (ltop 6 w) → (∀ e μ', RUN A n k w cl vl nx D c (.error e) → Fr (Wsm t) μ μ' → μ' 0 14 = e → (1 ≤ e ∧ e ≤ 5000) → Q (vI 0) μ') → (∀ μ' k' vl' c', (∀ x, RUN A n k' w cl vl' nx D c' x → RUN A n k w cl vl nx D c x) → Fr (Wsm t) μ μ' → RM μ' A n t k' cl vl' D c' → IV n k' w cl vl' nx D c' → k ≤ k' → (sk A n k' = k' ∧ ¬ recOp (sgn A n k') = 10 ∧ ¬ recOp (sgn A n k') = 11) → PF c c' → Q (vI 1) μ') → Rj YM y_M_term 9 [vA 0] [] μ Q := by
  intro f
  induction f with
  | zero => intro μ Q A n t k cl vl nx w D c hf hC hI hx hx7 hlt hE hG; exact absurd hf (by omega)
  | succ f ih =>
    intro μ Q A n t k cl vl nx w D c hf hC hI hx hx7 hlt hE hG
    obtain ⟨hA, hn, hX, hk, hw0, ht, hv, hc, hL, hl⟩ := id hC
    obtain ⟨i1, i2, i3, i4, i5, i6, i7, i8⟩ := id hI
    have nn := nM_le D c
    have hX1 := hX.1
    refine Rj_aload_n (q := 10) d_M_term_9 rfl rfl rfl ?_
    refine Rj_vo (q := 13) (z := y_M_see) (as := []) (rest := []) (la := [vA 0]) oM_0_M_see ml_M_113 mw_M_see mv_M_see rfl d_M_term_10 rfl rfl rfl rfl rfl ?_
    refine s_M_see (μ := μ) (A := A) (n := n) (k := k) hX hA hn hk (by omega) ?_
    have r10 := sk_bd A (n := n) (k := k) (by omega)
    have v10 := seeV_32 (n := n) hX (k := sk A n k) (by omega)
    refine Rj_bipush (q := 15) d_M_term_13 rfl (by decide +kernel) ?_
    refine Rj_icmp_eq (q := 18) (t := 27) d_M_term_15 rfl (by decide) (by first | assumption | exact ⟨by omega, by omega⟩) (by decide) (fun c15 => ?_) (fun c15 => ?_)
    · have sg : sgn A n (sk A n k) = 42 := (see_sgn hX (by omega) (by decide)).mp c15
      have kn0 := sgn_lt (by decide) sg
      have ro10 := (rec_eq (sgn A n (sk A n k))).1.mpr sg
      have at1 : A (sk A n k) = 42 := ((sgn_eq (by decide)).mp sg).2
      refine Rj_aload_n (q := 28) d_M_term_27 rfl rfl rfl ?_
      refine Rj_gr (q := 31) (zd := 1) gM_M_7_0 rfl rfl d_M_term_28 rfl ?_
      refine Rj_aload_n (q := 32) d_M_term_31 rfl rfl rfl ?_
      refine Rj_gi (q := 35) (ki := 13) (v := sk A n k) gM_M_110_0 rfl rfl rfl d_M_term_32 rfl ?_
      refine Rj_ba (q := 36) (v := 42) aM_1 rfl (by omega) ((congrFun hA _).trans at1) d_M_term_35 rfl ?_
      refine Rj_bipush (q := 38) d_M_term_36 rfl (by decide +kernel) ?_
      refine Rj_icmp_ne (q := 41) (t := 45) d_M_term_38 rfl (by decide) (by decide) (by decide) (fun c => absurd c (by decide)) (fun _ => ?_)
      refine Rj_iconst (q := 42) d_M_term_41 rfl ?_
      refine Rj_goto (t := 46) d_M_term_42 (by decide) ?_
      refine Rj_istore_n (q := 47) (ls' := [vA 0, vI 4]) d_M_term_46 rfl rfl (by decide) rfl ?_
      refine Rj_aload_n (q := 48) d_M_term_47 rfl rfl rfl ?_
      refine Rj_dup (q := 49) d_M_term_48 rfl (by intro h; cases h) ?_
      refine Rj_gi (q := 52) (ki := 13) (v := sk A n k) gM_M_110_0 rfl rfl rfl d_M_term_49 rfl ?_
      refine Rj_iconst (q := 53) d_M_term_52 rfl ?_
      refine Rj_iadd (q := 54) d_M_term_53 rfl ?_
      refine Rj_pi (q := 57) (ki := 13) pM_M_110_0 rfl rfl d_M_term_54 rfl ?_
      rw [mset_mset]
      refine Rj_aload_n (q := 58) d_M_term_57 rfl rfl rfl ?_
      refine Rj_vo (q := 61) (z := y_M_value) (as := []) (rest := []) (la := [vA 0]) oM_0_M_value ml_M_188 mw_M_value mv_M_value rfl d_M_term_58 rfl rfl rfl rfl rfl ?_
      have ho58 : recOp (sgn A n (sk A n k)) = 10 := ro10
      have kn := rec_lt (A := A) (n := n) (k := sk A n k) (by omega)
      have cv0 : RM ((mset μ 0 13 ((sk A n k) + 1))) A n t (sk A n k + 1) cl vl D c := hC.upd (Fr.put (Fr.refl _ _) (by omega)) rfl hv hc
      have iv0 : IV n (sk A n k + 1) (10 :: w) cl vl (nx - 1) D c := (hI.push (op := 10) (by decide) (by omega) (by omega) (by omega)).at (by omega) (by omega)
      have fr0 : Fr (Wsm t) μ ((mset μ 0 13 ((sk A n k) + 1))) := (Fr.put (Fr.refl _ _) (by unfold Wsm; omega))
      have es : stl (bnd 10) w c = (w, c) := ltop_stl hlt
      refine s_M_value (w := 10 :: w) cv0 iv0 (by omega) (fun q => absurd q.1 (by omega)) (fun e m a1 a2 a3 a4 => ?_) (fun m k2 c2 a1 a2 a3 a4 a5 pf => ?_)
      · have zz := True.intro
        refine Rj_if_ne (q := 64) (t := 66) d_M_term_61 rfl (by decide) (by decide) (fun c => absurd c (by decide)) (fun _ => ?_)
        refine Rj_iconst (q := 65) d_M_term_64 rfl ?_
        refine Rj_bret0 d_M_term_65 rfl ?_
        exact hE e m (RUN_rec rfl hx (by omega) ho58 (by decide) es a1) (fr0.trans a2) a3 a4
      · rw [show (if nx - 1 = 6 then 3 else nx - 1 + 1) = nx by rw [if_neg (by omega)]; omega] at a1 a4
        refine Rj_if_ne (q := 64) (t := 66) d_M_term_61 rfl (by decide) (by decide) (fun _ => ?_) (fun c => absurd c (by decide))
        refine Rj_aload_n (q := 67) d_M_term_66 rfl rfl rfl ?_
        refine Rj_iload_n (q := 68) d_M_term_67 rfl rfl rfl ?_
        refine Rj_iconst (q := 69) d_M_term_68 rfl ?_
        refine Rj_vov (q := 72) (z := y_M_puts) (as := [vI 4, vI 0]) (rest := []) (la := [vA 0, vI 4, vI 0]) oM_0_M_puts ml_M_174 mw_M_puts mv_M_puts rfl d_M_term_69 rfl rfl rfl rfl rfl ?_
        have a41 := a4.1
        have a44 := a4.2.2.2.1
        have nn2 := nM_le D c2
        have cv := a3
        refine s_M_puts cv.2.2.2.2.2.1 cv.2.2.2.2.2.2.2.2.1 (cv.2.2.2.2.2.2.2.2.2.trans (nM_len D c2)) (by rw [← nM_len]; omega) (fun m2 fm2 lm2 lm22 => ?_)
        have cm2 := cv.emit (op := 10) fm2 (by rw [show enc 10 = 4 + 16 * 0 by decide]; exact lm2) lm22
        have fr2 : Fr (Wsm t) μ m2 := Fr.trans (Fr.trans fr0 a2) (Fr.wide fm2 (fun c i q => by unfold Wpu at q; unfold Wsm; omega))
        refine Rj_goto (t := 9) d_M_term_72 (by decide) ?_
        refine Rj_pre (ls' := [vA 0]) (t := [vI 4]) rfl ?_
        have stp : ∀ x, RUN A n k2 w cl (vl + 1) nx D (emt 10 c2) x → RUN A n k w cl vl nx D c x := (fun x g => RUN_rec rfl hx (by omega) ho58 (by decide) es (a1 x (RUN_early rfl (by omega) (fun _ _ => by rw [show bnd 10 = 6 by decide]; exact bnd_rec6 _) (fun _ => by decide) (by decide) g)))
        have iv2 : IV n k2 w cl (vl + 1) nx D (emt 10 c2) := a4.down
        refine ih (μ := m2) (vl := (vl + 1)) (c := emt 10 c2) (k := k2) (by omega) cm2 iv2 hx hx7 hlt (fun e m3 b1 b2 b3 b4 => hE e m3 (stp _ b1) (fr2.trans b2) b3 b4) (fun m3 k3 v3 c3 b1 b2 b3 b4 b5 b6 b7 => hG m3 k3 v3 c3 (fun x g => stp x (b1 x g)) (fr2.trans b2) b3 b4 (by omega) b6 ((pf.trans (PF_emt _ _)).trans b7))
    · refine Rj_aload_n (q := 19) d_M_term_18 rfl rfl rfl ?_
      refine Rj_vo (q := 22) (z := y_M_see) (as := []) (rest := []) (la := [vA 0]) oM_0_M_see ml_M_113 mw_M_see mv_M_see rfl d_M_term_19 rfl rfl rfl rfl rfl ?_
      refine s_M_see (μ := (mset μ 0 13 (sk A n k))) (A := A) (n := n) (k := sk A n k) hX hA hn rfl (by omega) ?_
      rw [sk_idem]
      have v19 := seeV_32 (n := n) hX (k := sk A n k) (by omega)
      refine Rj_eqm (μ' := (mset μ 0 13 (sk A n k))) (mset_idv rfl) ?_
      refine Rj_bipush (q := 24) d_M_term_22 rfl (by decide +kernel) ?_
      refine Rj_icmp_ne (q := 27) (t := 75) d_M_term_24 rfl (by decide) (by first | assumption | exact ⟨by omega, by omega⟩) (by decide) (fun c24 => ?_) (fun c24 => ?_)
      · refine Rj_iconst (q := 76) d_M_term_75 rfl ?_
        refine Rj_bret1 d_M_term_76 rfl ?_
        exact hG _ (sk A n k) vl c (fun x g => RUN_sk g) (Fr.put (Fr.refl _ _) (by unfold Wsm; omega)) (hC.upd (Fr.put (Fr.refl _ _) (by omega)) rfl hv hc) (hI.to (by omega) (by omega)) (by omega) ⟨sk_idem _ _ _, fun q => c15 ((see_sgn hX (by omega) (by decide)).mpr ((rec_eq _).1.mp q)), fun q => c24 ((see_sgn hX (by omega) (by decide)).mpr ((rec_eq _).2.1.mp q))⟩ (PF.refl _)
      · have sg : sgn A n (sk A n k) = 47 := (see_sgn hX (by omega) (by decide)).mp c24
        have kn0 := sgn_lt (by decide) sg
        have ro11 := (rec_eq (sgn A n (sk A n k))).2.1.mpr sg
        have at1 : A (sk A n k) = 47 := ((sgn_eq (by decide)).mp sg).2
        refine Rj_aload_n (q := 28) d_M_term_27 rfl rfl rfl ?_
        refine Rj_gr (q := 31) (zd := 1) gM_M_7_0 rfl rfl d_M_term_28 rfl ?_
        refine Rj_aload_n (q := 32) d_M_term_31 rfl rfl rfl ?_
        refine Rj_gi (q := 35) (ki := 13) (v := sk A n k) gM_M_110_0 rfl rfl rfl d_M_term_32 rfl ?_
        refine Rj_ba (q := 36) (v := 47) aM_1 rfl (by omega) ((congrFun hA _).trans at1) d_M_term_35 rfl ?_
        refine Rj_bipush (q := 38) d_M_term_36 rfl (by decide +kernel) ?_
        refine Rj_icmp_ne (q := 41) (t := 45) d_M_term_38 rfl (by decide) (by decide) (by decide) (fun _ => ?_) (fun c => absurd c (by decide))
        refine Rj_iconst (q := 46) d_M_term_45 rfl ?_
        refine Rj_istore_n (q := 47) (ls' := [vA 0, vI 5]) d_M_term_46 rfl rfl (by decide) rfl ?_
        refine Rj_aload_n (q := 48) d_M_term_47 rfl rfl rfl ?_
        refine Rj_dup (q := 49) d_M_term_48 rfl (by intro h; cases h) ?_
        refine Rj_gi (q := 52) (ki := 13) (v := sk A n k) gM_M_110_0 rfl rfl rfl d_M_term_49 rfl ?_
        refine Rj_iconst (q := 53) d_M_term_52 rfl ?_
        refine Rj_iadd (q := 54) d_M_term_53 rfl ?_
        refine Rj_pi (q := 57) (ki := 13) pM_M_110_0 rfl rfl d_M_term_54 rfl ?_
        rw [mset_mset]
        refine Rj_aload_n (q := 58) d_M_term_57 rfl rfl rfl ?_
        refine Rj_vo (q := 61) (z := y_M_value) (as := []) (rest := []) (la := [vA 0]) oM_0_M_value ml_M_188 mw_M_value mv_M_value rfl d_M_term_58 rfl rfl rfl rfl rfl ?_
        have ho58 : recOp (sgn A n (sk A n k)) = 11 := ro11
        have kn := rec_lt (A := A) (n := n) (k := sk A n k) (by omega)
        have cv0 : RM ((mset μ 0 13 ((sk A n k) + 1))) A n t (sk A n k + 1) cl vl D c := hC.upd (Fr.put (Fr.refl _ _) (by omega)) rfl hv hc
        have iv0 : IV n (sk A n k + 1) (11 :: w) cl vl (nx - 1) D c := (hI.push (op := 11) (by decide) (by omega) (by omega) (by omega)).at (by omega) (by omega)
        have fr0 : Fr (Wsm t) μ ((mset μ 0 13 ((sk A n k) + 1))) := (Fr.put (Fr.refl _ _) (by unfold Wsm; omega))
        have es : stl (bnd 11) w c = (w, c) := ltop_stl hlt
        refine s_M_value (w := 11 :: w) cv0 iv0 (by omega) (fun q => absurd q.1 (by omega)) (fun e m a1 a2 a3 a4 => ?_) (fun m k2 c2 a1 a2 a3 a4 a5 pf => ?_)
        · have zz := True.intro
          refine Rj_if_ne (q := 64) (t := 66) d_M_term_61 rfl (by decide) (by decide) (fun c => absurd c (by decide)) (fun _ => ?_)
          refine Rj_iconst (q := 65) d_M_term_64 rfl ?_
          refine Rj_bret0 d_M_term_65 rfl ?_
          exact hE e m (RUN_rec rfl hx (by omega) ho58 (by decide) es a1) (fr0.trans a2) a3 a4
        · rw [show (if nx - 1 = 6 then 3 else nx - 1 + 1) = nx by rw [if_neg (by omega)]; omega] at a1 a4
          refine Rj_if_ne (q := 64) (t := 66) d_M_term_61 rfl (by decide) (by decide) (fun _ => ?_) (fun c => absurd c (by decide))
          refine Rj_aload_n (q := 67) d_M_term_66 rfl rfl rfl ?_
          refine Rj_iload_n (q := 68) d_M_term_67 rfl rfl rfl ?_
          refine Rj_iconst (q := 69) d_M_term_68 rfl ?_
          refine Rj_vov (q := 72) (z := y_M_puts) (as := [vI 5, vI 0]) (rest := []) (la := [vA 0, vI 5, vI 0]) oM_0_M_puts ml_M_174 mw_M_puts mv_M_puts rfl d_M_term_69 rfl rfl rfl rfl rfl ?_
          have a41 := a4.1
          have a44 := a4.2.2.2.1
          have nn2 := nM_le D c2
          have cv := a3
          refine s_M_puts cv.2.2.2.2.2.1 cv.2.2.2.2.2.2.2.2.1 (cv.2.2.2.2.2.2.2.2.2.trans (nM_len D c2)) (by rw [← nM_len]; omega) (fun m2 fm2 lm2 lm22 => ?_)
          have cm2 := cv.emit (op := 11) fm2 (by rw [show enc 11 = 5 + 16 * 0 by decide]; exact lm2) lm22
          have fr2 : Fr (Wsm t) μ m2 := Fr.trans (Fr.trans fr0 a2) (Fr.wide fm2 (fun c i q => by unfold Wpu at q; unfold Wsm; omega))
          refine Rj_goto (t := 9) d_M_term_72 (by decide) ?_
          refine Rj_pre (ls' := [vA 0]) (t := [vI 5]) rfl ?_
          have stp : ∀ x, RUN A n k2 w cl (vl + 1) nx D (emt 11 c2) x → RUN A n k w cl vl nx D c x := (fun x g => RUN_rec rfl hx (by omega) ho58 (by decide) es (a1 x (RUN_early rfl (by omega) (fun _ _ => by rw [show bnd 11 = 6 by decide]; exact bnd_rec6 _) (fun _ => by decide) (by decide) g)))
          have iv2 : IV n k2 w cl (vl + 1) nx D (emt 11 c2) := a4.down
          refine ih (μ := m2) (vl := (vl + 1)) (c := emt 11 c2) (k := k2) (by omega) cm2 iv2 hx hx7 hlt (fun e m3 b1 b2 b3 b4 => hE e m3 (stp _ b1) (fr2.trans b2) b3 b4) (fun m3 k3 v3 c3 b1 b2 b3 b4 b5 b6 b7 => hG m3 k3 v3 c3 (fun x g => stp x (b1 x g)) (fr2.trans b2) b3 b4 (by omega) b6 ((pf.trans (PF_emt _ _)).trans b7))
set_option maxHeartbeats 4000000 in
theorem s_M_term {μ : Mem} {Q : PV → Mem → Prop} {A : Int → Int} {n t k cl vl nx : Int} {w : List Int} {D : List CLS} {c : CLS} (hC : RM μ A n t k cl vl D c) (hI : IV n k w cl vl nx D c) (hx : nx % 2 = 0) (ho : ¬ (nx = 6 ∧ isOpn A n (sk A n k))) (hlt : ltop 6 w) (hE : ∀ e μ', RUN A n k w cl vl nx D c (.error e) → Fr (Wsm t) μ μ' → μ' 0 14 = e → (1 ≤ e ∧ e ≤ 5000) → Q (vI 0) μ') (hG : ∀ μ' k' vl' c', (∀ x, RUN A n k' w cl vl' (if nx = 6 then 3 else nx + 1) D c' x → RUN A n k w cl vl nx D c x) → Fr (Wsm t) μ μ' → RM μ' A n t k' cl vl' D c' → IV n k' w cl vl' (if nx = 6 then 3 else nx + 1) D c' → k < k' → (sk A n k' = k' ∧ ¬ recOp (sgn A n k') = 10 ∧ ¬ recOp (sgn A n k') = 11) → PF c c' → Q (vI 1) μ') : Rj YM y_M_term 0 [vA 0] [] μ Q := by
  obtain ⟨hA, hn, hX, hk, hw0, ht, hv, hc, hL, hl⟩ := id hC
  obtain ⟨i1, i2, i3, i4, i5, i6, i7, i8⟩ := id hI
  have nn := nM_le D c
  have hX1 := hX.1
  refine Rj_aload_n (q := 1) d_M_term_0 rfl rfl rfl ?_
  refine Rj_vo (q := 4) (z := y_M_value) (as := []) (rest := []) (la := [vA 0]) oM_0_M_value ml_M_188 mw_M_value mv_M_value rfl d_M_term_1 rfl rfl rfl rfl rfl ?_
  refine s_M_value hC hI hx ho (fun e m a1 a2 a3 a4 => ?_) (fun m k2 c2 a1 a2 a3 a4 a5 pf => ?_)
  · have zz := True.intro
    refine Rj_if_ne (q := 7) (t := 9) d_M_term_4 rfl (by decide) (by decide) (fun c => absurd c (by decide)) (fun _ => ?_)
    refine Rj_iconst (q := 8) d_M_term_7 rfl ?_
    refine Rj_bret0 d_M_term_8 rfl ?_
    exact hE e m a1 a2 a3 a4
  · have zz := True.intro
    refine Rj_if_ne (q := 7) (t := 9) d_M_term_4 rfl (by decide) (by decide) (fun _ => ?_) (fun c => absurd c (by decide))
    exact s_M_term_9 (nx := (if nx = 6 then 3 else nx + 1)) _ (Nat.lt_succ_self _) a3 a4 (by split <;> omega) (by split <;> omega) hlt (fun e m3 b1 b2 b3 b4 => hE e m3 (a1 _ b1) (a2.trans b2) b3 b4) (fun m3 k3 v3 c3 b1 b2 b3 b4 b5 b6 b7 => hG m3 k3 v3 c3 (fun x g => a1 x (b1 x g)) (a2.trans b2) b3 b4 (by omega) b6 (pf.trans b7))
set_option maxHeartbeats 4000000 in
theorem s_M_sum_9 : ∀ (f : Nat) {μ : Mem} {Q : PV → Mem → Prop} {A : Int → Int} {n t k cl vl nx : Int} {w : List Int} {D : List CLS} {c : CLS}, ((n - k).toNat < f) → (RM μ A n t k cl vl D c) → (IV n k w cl vl nx D c) → (nx % 2 = 1) → (nx ≠ 7) → (ltop 5 w) → (¬ recOp (sgn A n (sk A n k)) = 10 ∧ ¬ recOp (sgn A n (sk A n k)) = 11) → (∀ e μ', RUN A n k w cl vl nx D c (.error e) → Fr (Wsm t) μ μ' → μ' 0 14 = e → (1 ≤ e ∧ e ≤ 5000) → Q (vI 0) μ') → (∀ μ' k' vl' c', (∀ x, RUN A n k' w cl vl' nx D c' x → RUN A n k w cl vl nx D c x) → Fr (Wsm t) μ μ' → RM μ' A n t k' cl vl' D c' → IV n k' w cl vl' nx D c' → k ≤ k' → (sk A n k' = k' ∧ ¬ 0 ≤ recOp (sgn A n k')) → PF c c' → Q (vI 1) μ') → Rj YM y_M_sum 9 [vA 0] [] μ Q := by
  intro f
  induction f with
  | zero => intro μ Q A n t k cl vl nx w D c hf hC hI hx hx7 hlt hnm hE hG; exact absurd hf (by omega)
  | succ f ih =>
    intro μ Q A n t k cl vl nx w D c hf hC hI hx hx7 hlt hnm hE hG
    obtain ⟨hA, hn, hX, hk, hw0, ht, hv, hc, hL, hl⟩ := id hC
    obtain ⟨i1, i2, i3, i4, i5, i6, i7, i8⟩ := id hI
    have nn := nM_le D c
    have hX1 := hX.1
    refine Rj_aload_n (q := 10) d_M_sum_9 rfl rfl rfl ?_
    refine Rj_vo (q := 13) (z := y_M_see) (as := []) (rest := []) (la := [vA 0]) oM_0_M_see ml_M_113 mw_M_see mv_M_see rfl d_M_sum_10 rfl rfl rfl rfl rfl ?_
    refine s_M_see (μ := μ) (A := A) (n := n) (k := k) hX hA hn hk (by omega) ?_
    have r10 := sk_bd A (n := n) (k := k) (by omega)
    have v10 := seeV_32 (n := n) hX (k := sk A n k) (by omega)
    refine Rj_bipush (q := 15) d_M_sum_13 rfl (by decide +kernel) ?_
    refine Rj_icmp_eq (q := 18) (t := 27) d_M_sum_15 rfl (by decide) (by first | assumption | exact ⟨by omega, by omega⟩) (by decide) (fun c15 => ?_) (fun c15 => ?_)
    · have sg : sgn A n (sk A n k) = 43 := (see_sgn hX (by omega) (by decide)).mp c15
      have kn0 := sgn_lt (by decide) sg
      have ro8 := (rec_eq (sgn A n (sk A n k))).2.2.1.mpr sg
      have at1 : A (sk A n k) = 43 := ((sgn_eq (by decide)).mp sg).2
      refine Rj_aload_n (q := 28) d_M_sum_27 rfl rfl rfl ?_
      refine Rj_gr (q := 31) (zd := 1) gM_M_7_0 rfl rfl d_M_sum_28 rfl ?_
      refine Rj_aload_n (q := 32) d_M_sum_31 rfl rfl rfl ?_
      refine Rj_gi (q := 35) (ki := 13) (v := sk A n k) gM_M_110_0 rfl rfl rfl d_M_sum_32 rfl ?_
      refine Rj_ba (q := 36) (v := 43) aM_1 rfl (by omega) ((congrFun hA _).trans at1) d_M_sum_35 rfl ?_
      refine Rj_bipush (q := 38) d_M_sum_36 rfl (by decide +kernel) ?_
      refine Rj_icmp_ne (q := 41) (t := 45) d_M_sum_38 rfl (by decide) (by decide) (by decide) (fun c => absurd c (by decide)) (fun _ => ?_)
      refine Rj_iconst (q := 42) d_M_sum_41 rfl ?_
      refine Rj_goto (t := 46) d_M_sum_42 (by decide) ?_
      refine Rj_istore_n (q := 47) (ls' := [vA 0, vI 2]) d_M_sum_46 rfl rfl (by decide) rfl ?_
      refine Rj_aload_n (q := 48) d_M_sum_47 rfl rfl rfl ?_
      refine Rj_dup (q := 49) d_M_sum_48 rfl (by intro h; cases h) ?_
      refine Rj_gi (q := 52) (ki := 13) (v := sk A n k) gM_M_110_0 rfl rfl rfl d_M_sum_49 rfl ?_
      refine Rj_iconst (q := 53) d_M_sum_52 rfl ?_
      refine Rj_iadd (q := 54) d_M_sum_53 rfl ?_
      refine Rj_pi (q := 57) (ki := 13) pM_M_110_0 rfl rfl d_M_sum_54 rfl ?_
      rw [mset_mset]
      refine Rj_aload_n (q := 58) d_M_sum_57 rfl rfl rfl ?_
      refine Rj_vo (q := 61) (z := y_M_term) (as := []) (rest := []) (la := [vA 0]) oM_0_M_term ml_M_192 mw_M_term mv_M_term rfl d_M_sum_58 rfl rfl rfl rfl rfl ?_
      have ho58 : recOp (sgn A n (sk A n k)) = 8 := ro8
      have kn := rec_lt (A := A) (n := n) (k := sk A n k) (by omega)
      have cv0 : RM ((mset μ 0 13 ((sk A n k) + 1))) A n t (sk A n k + 1) cl vl D c := hC.upd (Fr.put (Fr.refl _ _) (by omega)) rfl hv hc
      have iv0 : IV n (sk A n k + 1) (8 :: w) cl vl (nx - 1) D c := (hI.push (op := 8) (by decide) (by omega) (by omega) (by omega)).at (by omega) (by omega)
      have fr0 : Fr (Wsm t) μ ((mset μ 0 13 ((sk A n k) + 1))) := (Fr.put (Fr.refl _ _) (by unfold Wsm; omega))
      have es : stl (bnd 8) w c = (w, c) := ltop_stl hlt
      refine s_M_term (w := 8 :: w) cv0 iv0 (by omega) (fun q => absurd q.1 (by omega)) (show bnd 8 < 6 by decide) (fun e m a1 a2 a3 a4 => ?_) (fun m k2 vl2 c2 a1 a2 a3 a4 a5 a6 pf => ?_)
      · have zz := True.intro
        refine Rj_if_ne (q := 64) (t := 66) d_M_sum_61 rfl (by decide) (by decide) (fun c => absurd c (by decide)) (fun _ => ?_)
        refine Rj_iconst (q := 65) d_M_sum_64 rfl ?_
        refine Rj_bret0 d_M_sum_65 rfl ?_
        exact hE e m (RUN_rec rfl hx (by omega) ho58 (by decide) es a1) (fr0.trans a2) a3 a4
      · rw [show (if nx - 1 = 6 then 3 else nx - 1 + 1) = nx by rw [if_neg (by omega)]; omega] at a1 a4
        refine Rj_if_ne (q := 64) (t := 66) d_M_sum_61 rfl (by decide) (by decide) (fun _ => ?_) (fun c => absurd c (by decide))
        refine Rj_aload_n (q := 67) d_M_sum_66 rfl rfl rfl ?_
        refine Rj_iload_n (q := 68) d_M_sum_67 rfl rfl rfl ?_
        refine Rj_iconst (q := 69) d_M_sum_68 rfl ?_
        refine Rj_vov (q := 72) (z := y_M_puts) (as := [vI 2, vI 0]) (rest := []) (la := [vA 0, vI 2, vI 0]) oM_0_M_puts ml_M_174 mw_M_puts mv_M_puts rfl d_M_sum_69 rfl rfl rfl rfl rfl ?_
        have a41 := a4.1
        have a44 := a4.2.2.2.1
        have nn2 := nM_le D c2
        have cv := a3
        refine s_M_puts cv.2.2.2.2.2.1 cv.2.2.2.2.2.2.2.2.1 (cv.2.2.2.2.2.2.2.2.2.trans (nM_len D c2)) (by rw [← nM_len]; omega) (fun m2 fm2 lm2 lm22 => ?_)
        have cm2 := cv.emit (op := 8) fm2 (by rw [show enc 8 = 2 + 16 * 0 by decide]; exact lm2) lm22
        have fr2 : Fr (Wsm t) μ m2 := Fr.trans (Fr.trans fr0 a2) (Fr.wide fm2 (fun c i q => by unfold Wpu at q; unfold Wsm; omega))
        refine Rj_goto (t := 9) d_M_sum_72 (by decide) ?_
        refine Rj_pre (ls' := [vA 0]) (t := [vI 2]) rfl ?_
        have stp : ∀ x, RUN A n k2 w cl vl2 nx D (emt 8 c2) x → RUN A n k w cl vl nx D c x := (fun x g => RUN_rec rfl hx (by omega) ho58 (by decide) es (a1 x (RUN_early a6.1 (by omega) (fun _ _ => by rw [show bnd 8 = 5 by decide]; exact bnd_rec5 a6.2.1 a6.2.2) (fun _ => by decide) (by decide) g)))
        have iv2 : IV n k2 w cl vl2 nx D (emt 8 c2) := a4.down
        refine ih (μ := m2) (vl := vl2) (c := emt 8 c2) (k := k2) (by omega) cm2 iv2 hx hx7 hlt (by rw [a6.1]; exact a6.2) (fun e m3 b1 b2 b3 b4 => hE e m3 (stp _ b1) (fr2.trans b2) b3 b4) (fun m3 k3 v3 c3 b1 b2 b3 b4 b5 b6 b7 => hG m3 k3 v3 c3 (fun x g => stp x (b1 x g)) (fr2.trans b2) b3 b4 (by omega) b6 ((pf.trans (PF_emt _ _)).trans b7))
    · refine Rj_aload_n (q := 19) d_M_sum_18 rfl rfl rfl ?_
      refine Rj_vo (q := 22) (z := y_M_see) (as := []) (rest := []) (la := [vA 0]) oM_0_M_see ml_M_113 mw_M_see mv_M_see rfl d_M_sum_19 rfl rfl rfl rfl rfl ?_
      refine s_M_see (μ := (mset μ 0 13 (sk A n k))) (A := A) (n := n) (k := sk A n k) hX hA hn rfl (by omega) ?_
      rw [sk_idem]
      have v19 := seeV_32 (n := n) hX (k := sk A n k) (by omega)
      refine Rj_eqm (μ' := (mset μ 0 13 (sk A n k))) (mset_idv rfl) ?_
      refine Rj_bipush (q := 24) d_M_sum_22 rfl (by decide +kernel) ?_
      refine Rj_icmp_ne (q := 27) (t := 75) d_M_sum_24 rfl (by decide) (by first | assumption | exact ⟨by omega, by omega⟩) (by decide) (fun c24 => ?_) (fun c24 => ?_)
      · refine Rj_iconst (q := 76) d_M_sum_75 rfl ?_
        refine Rj_bret1 d_M_sum_76 rfl ?_
        exact hG _ (sk A n k) vl c (fun x g => RUN_sk g) (Fr.put (Fr.refl _ _) (by unfold Wsm; omega)) (hC.upd (Fr.put (Fr.refl _ _) (by omega)) rfl hv hc) (hI.to (by omega) (by omega)) (by omega) ⟨sk_idem _ _ _, nrec hnm.1 hnm.2 (fun q => c15 ((see_sgn hX (by omega) (by decide)).mpr ((rec_eq _).2.2.1.mp q))) (fun q => c24 ((see_sgn hX (by omega) (by decide)).mpr ((rec_eq _).2.2.2.mp q)))⟩ (PF.refl _)
      · have sg : sgn A n (sk A n k) = 45 := (see_sgn hX (by omega) (by decide)).mp c24
        have kn0 := sgn_lt (by decide) sg
        have ro9 := (rec_eq (sgn A n (sk A n k))).2.2.2.mpr sg
        have at1 : A (sk A n k) = 45 := ((sgn_eq (by decide)).mp sg).2
        refine Rj_aload_n (q := 28) d_M_sum_27 rfl rfl rfl ?_
        refine Rj_gr (q := 31) (zd := 1) gM_M_7_0 rfl rfl d_M_sum_28 rfl ?_
        refine Rj_aload_n (q := 32) d_M_sum_31 rfl rfl rfl ?_
        refine Rj_gi (q := 35) (ki := 13) (v := sk A n k) gM_M_110_0 rfl rfl rfl d_M_sum_32 rfl ?_
        refine Rj_ba (q := 36) (v := 45) aM_1 rfl (by omega) ((congrFun hA _).trans at1) d_M_sum_35 rfl ?_
        refine Rj_bipush (q := 38) d_M_sum_36 rfl (by decide +kernel) ?_
        refine Rj_icmp_ne (q := 41) (t := 45) d_M_sum_38 rfl (by decide) (by decide) (by decide) (fun _ => ?_) (fun c => absurd c (by decide))
        refine Rj_iconst (q := 46) d_M_sum_45 rfl ?_
        refine Rj_istore_n (q := 47) (ls' := [vA 0, vI 3]) d_M_sum_46 rfl rfl (by decide) rfl ?_
        refine Rj_aload_n (q := 48) d_M_sum_47 rfl rfl rfl ?_
        refine Rj_dup (q := 49) d_M_sum_48 rfl (by intro h; cases h) ?_
        refine Rj_gi (q := 52) (ki := 13) (v := sk A n k) gM_M_110_0 rfl rfl rfl d_M_sum_49 rfl ?_
        refine Rj_iconst (q := 53) d_M_sum_52 rfl ?_
        refine Rj_iadd (q := 54) d_M_sum_53 rfl ?_
        refine Rj_pi (q := 57) (ki := 13) pM_M_110_0 rfl rfl d_M_sum_54 rfl ?_
        rw [mset_mset]
        refine Rj_aload_n (q := 58) d_M_sum_57 rfl rfl rfl ?_
        refine Rj_vo (q := 61) (z := y_M_term) (as := []) (rest := []) (la := [vA 0]) oM_0_M_term ml_M_192 mw_M_term mv_M_term rfl d_M_sum_58 rfl rfl rfl rfl rfl ?_
        have ho58 : recOp (sgn A n (sk A n k)) = 9 := ro9
        have kn := rec_lt (A := A) (n := n) (k := sk A n k) (by omega)
        have cv0 : RM ((mset μ 0 13 ((sk A n k) + 1))) A n t (sk A n k + 1) cl vl D c := hC.upd (Fr.put (Fr.refl _ _) (by omega)) rfl hv hc
        have iv0 : IV n (sk A n k + 1) (9 :: w) cl vl (nx - 1) D c := (hI.push (op := 9) (by decide) (by omega) (by omega) (by omega)).at (by omega) (by omega)
        have fr0 : Fr (Wsm t) μ ((mset μ 0 13 ((sk A n k) + 1))) := (Fr.put (Fr.refl _ _) (by unfold Wsm; omega))
        have es : stl (bnd 9) w c = (w, c) := ltop_stl hlt
        refine s_M_term (w := 9 :: w) cv0 iv0 (by omega) (fun q => absurd q.1 (by omega)) (show bnd 9 < 6 by decide) (fun e m a1 a2 a3 a4 => ?_) (fun m k2 vl2 c2 a1 a2 a3 a4 a5 a6 pf => ?_)
        · have zz := True.intro
          refine Rj_if_ne (q := 64) (t := 66) d_M_sum_61 rfl (by decide) (by decide) (fun c => absurd c (by decide)) (fun _ => ?_)
          refine Rj_iconst (q := 65) d_M_sum_64 rfl ?_
          refine Rj_bret0 d_M_sum_65 rfl ?_
          exact hE e m (RUN_rec rfl hx (by omega) ho58 (by decide) es a1) (fr0.trans a2) a3 a4
        · rw [show (if nx - 1 = 6 then 3 else nx - 1 + 1) = nx by rw [if_neg (by omega)]; omega] at a1 a4
          refine Rj_if_ne (q := 64) (t := 66) d_M_sum_61 rfl (by decide) (by decide) (fun _ => ?_) (fun c => absurd c (by decide))
          refine Rj_aload_n (q := 67) d_M_sum_66 rfl rfl rfl ?_
          refine Rj_iload_n (q := 68) d_M_sum_67 rfl rfl rfl ?_
          refine Rj_iconst (q := 69) d_M_sum_68 rfl ?_
          refine Rj_vov (q := 72) (z := y_M_puts) (as := [vI 3, vI 0]) (rest := []) (la := [vA 0, vI 3, vI 0]) oM_0_M_puts ml_M_174 mw_M_puts mv_M_puts rfl d_M_sum_69 rfl rfl rfl rfl rfl ?_
          have a41 := a4.1
          have a44 := a4.2.2.2.1
          have nn2 := nM_le D c2
          have cv := a3
          refine s_M_puts cv.2.2.2.2.2.1 cv.2.2.2.2.2.2.2.2.1 (cv.2.2.2.2.2.2.2.2.2.trans (nM_len D c2)) (by rw [← nM_len]; omega) (fun m2 fm2 lm2 lm22 => ?_)
          have cm2 := cv.emit (op := 9) fm2 (by rw [show enc 9 = 3 + 16 * 0 by decide]; exact lm2) lm22
          have fr2 : Fr (Wsm t) μ m2 := Fr.trans (Fr.trans fr0 a2) (Fr.wide fm2 (fun c i q => by unfold Wpu at q; unfold Wsm; omega))
          refine Rj_goto (t := 9) d_M_sum_72 (by decide) ?_
          refine Rj_pre (ls' := [vA 0]) (t := [vI 3]) rfl ?_
          have stp : ∀ x, RUN A n k2 w cl vl2 nx D (emt 9 c2) x → RUN A n k w cl vl nx D c x := (fun x g => RUN_rec rfl hx (by omega) ho58 (by decide) es (a1 x (RUN_early a6.1 (by omega) (fun _ _ => by rw [show bnd 9 = 5 by decide]; exact bnd_rec5 a6.2.1 a6.2.2) (fun _ => by decide) (by decide) g)))
          have iv2 : IV n k2 w cl vl2 nx D (emt 9 c2) := a4.down
          refine ih (μ := m2) (vl := vl2) (c := emt 9 c2) (k := k2) (by omega) cm2 iv2 hx hx7 hlt (by rw [a6.1]; exact a6.2) (fun e m3 b1 b2 b3 b4 => hE e m3 (stp _ b1) (fr2.trans b2) b3 b4) (fun m3 k3 v3 c3 b1 b2 b3 b4 b5 b6 b7 => hG m3 k3 v3 c3 (fun x g => stp x (b1 x g)) (fr2.trans b2) b3 b4 (by omega) b6 ((pf.trans (PF_emt _ _)).trans b7))
set_option maxHeartbeats 4000000 in
theorem s_M_sum {μ : Mem} {Q : PV → Mem → Prop} {A : Int → Int} {n t k cl vl nx : Int} {w : List Int} {D : List CLS} {c : CLS} (hC : RM μ A n t k cl vl D c) (hI : IV n k w cl vl nx D c) (hx : nx % 2 = 0) (ho : ¬ (nx = 6 ∧ isOpn A n (sk A n k))) (hlt : ltop 5 w) (hE : ∀ e μ', RUN A n k w cl vl nx D c (.error e) → Fr (Wsm t) μ μ' → μ' 0 14 = e → (1 ≤ e ∧ e ≤ 5000) → Q (vI 0) μ') (hG : ∀ μ' k' vl' c', (∀ x, RUN A n k' w cl vl' (if nx = 6 then 3 else nx + 1) D c' x → RUN A n k w cl vl nx D c x) → Fr (Wsm t) μ μ' → RM μ' A n t k' cl vl' D c' → IV n k' w cl vl' (if nx = 6 then 3 else nx + 1) D c' → k < k' → (sk A n k' = k' ∧ ¬ 0 ≤ recOp (sgn A n k')) → PF c c' → Q (vI 1) μ') : Rj YM y_M_sum 0 [vA 0] [] μ Q := by
  obtain ⟨hA, hn, hX, hk, hw0, ht, hv, hc, hL, hl⟩ := id hC
  obtain ⟨i1, i2, i3, i4, i5, i6, i7, i8⟩ := id hI
  have nn := nM_le D c
  have hX1 := hX.1
  refine Rj_aload_n (q := 1) d_M_sum_0 rfl rfl rfl ?_
  refine Rj_vo (q := 4) (z := y_M_term) (as := []) (rest := []) (la := [vA 0]) oM_0_M_term ml_M_192 mw_M_term mv_M_term rfl d_M_sum_1 rfl rfl rfl rfl rfl ?_
  refine s_M_term hC hI hx ho (hlt.mono (by decide)) (fun e m a1 a2 a3 a4 => ?_) (fun m k2 vl2 c2 a1 a2 a3 a4 a5 a6 pf => ?_)
  · have zz := True.intro
    refine Rj_if_ne (q := 7) (t := 9) d_M_sum_4 rfl (by decide) (by decide) (fun c => absurd c (by decide)) (fun _ => ?_)
    refine Rj_iconst (q := 8) d_M_sum_7 rfl ?_
    refine Rj_bret0 d_M_sum_8 rfl ?_
    exact hE e m a1 a2 a3 a4
  · have zz := True.intro
    refine Rj_if_ne (q := 7) (t := 9) d_M_sum_4 rfl (by decide) (by decide) (fun _ => ?_) (fun c => absurd c (by decide))
    exact s_M_sum_9 (nx := (if nx = 6 then 3 else nx + 1)) _ (Nat.lt_succ_self _) a3 a4 (by split <;> omega) (by split <;> omega) hlt (by rw [a6.1]; exact a6.2) (fun e m3 b1 b2 b3 b4 => hE e m3 (a1 _ b1) (a2.trans b2) b3 b4) (fun m3 k3 v3 c3 b1 b2 b3 b4 b5 b6 b7 => hG m3 k3 v3 c3 (fun x g => a1 x (b1 x g)) (a2.trans b2) b3 b4 (by omega) b6 (pf.trans b7))
