theorem oM_0_M_opens : OI YM 0 y_M_opens := ⟨by decide, _, _, _, cM_0, rfl⟩
theorem gM_M_164_0 : GI YM "DoorsOnCogsModel" 164 0 18 none := ⟨by decide, _, _, _, fl_M_164, cM_0, by decide, rfl⟩
theorem pM_M_164_0 : PI YM "DoorsOnCogsModel" 164 0 18 none .int := ⟨by decide, _, _, _, fl_M_164, fp_10_18, cM_0, by decide, rfl⟩
theorem gM_M_32_0 : GI YM "DoorsOnCogsModel" 32 0 20 (some (some 8)) := ⟨by decide, _, _, _, fl_M_32, cM_0, by decide, rfl⟩
theorem gM_M_167_0 : GI YM "DoorsOnCogsModel" 167 0 21 none := ⟨by decide, _, _, _, fl_M_167, cM_0, by decide, rfl⟩
theorem aM_8 : AI YM 8 (.int) 400 := ⟨by decide, cM_8, by decide⟩
theorem pM_M_167_0 : PI YM "DoorsOnCogsModel" 167 0 21 none .int := ⟨by decide, _, _, _, fl_M_167, fp_10_21, cM_0, by decide, rfl⟩
theorem oM_0_M_compare : OI YM 0 y_M_compare := ⟨by decide, _, _, _, cM_0, rfl⟩
/-! the reference reads a rule: facts, open signs -/
/-- the signs that may be open -/
def OPW (w : List Int) : Prop := ∀ o ∈ w, o = 17 ∨ o = 18 ∨ o = 19 ∨ o = 22
theorem OPW.cons {o : Int} {w : List Int} (h : OPW w) (ho : o = 17 ∨ o = 18 ∨ o = 19 ∨ o = 22) : OPW (o :: w) := fun x hx => by
  rcases List.mem_cons.mp hx with e | e
  · rw [e]; exact ho
  · exact h x e
theorem OPW.tl {o : Int} {w : List Int} (h : OPW (o :: w)) : OPW w := fun x hx => h x (List.mem_cons_of_mem _ hx)
theorem OPW.lt : ∀ {w : List Int}, OPW w → ltop 4 w
  | [], _ => trivial
  | o :: t, h => by
    show bnd o < 4
    rcases h o (by simp) with e | e | e | e <;> rw [e] <;> decide
theorem OPW.stl {b : Int} : ∀ {w : List Int} {c : CLS}, OPW w → OPW (stl b w c).1
  | [], _, h => h
  | o :: t, c, h => by
    by_cases e : b ≤ bnd o
    · rw [stl_cons e]; exact OPW.stl h.tl
    · rw [stl_stop e]; exact h
theorem dpn_stl {b : Int} : ∀ {w : List Int} {c : CLS}, dpn (stl b w c).1 ≤ dpn w
  | [], _ => Int.le_refl _
  | o :: t, c => by
    by_cases e : b ≤ bnd o
    · rw [stl_cons e, dpn_cons]
      have := dpn_stl (b := b) (w := t) (c := emt o c)
      split <;> omega
    · rw [stl_stop e]; exact Int.le_refl _
abbrev Wte (t : Int) (c : Nat) (i : Int) : Prop := (c = 0 ∧ (i = 13 ∨ i = 14 ∨ i = 15 ∨ i = 17 ∨ i = 18 ∨ i = 21)) ∨ (c = 2 ∧ 400 * t ≤ i ∧ i < 400 * t + 400) ∨ (c = 3 ∧ i = t) ∨ c = 8
theorem Fr.te {μ ν : Mem} {t : Int} (f : Fr (Wsm t) μ ν) : Fr (Wte t) μ ν := Fr.wide f (fun c i q => by unfold Wsm at q; unfold Wte; omega)
/-- a sign is opened -/
theorem OST.push {μ ν : Mem} {w : List Int} {o : Int} (h : OST μ w) (a1 : ν 0 21 = (w.length : Int) + 1) (a2 : ν 0 18 = dpn w + (if o = 19 ∨ o = 22 then 1 else 0)) (a3 : ν 8 (w.length : Int) = enc o) (f : ∀ i, i ≠ (w.length : Int) → ν 8 i = μ 8 i) : OST ν (o :: w) := by
  obtain ⟨h1, h2, h3⟩ := h
  refine ⟨by rw [a1]; simp, a2, ?_⟩
  show ν 8 (((w.map enc).length : Nat) : Int) = enc o ∧ WST (ν 8) (w.map enc)
  rw [List.length_map]
  refine ⟨a3, WST_keep h3 (fun i i0 i1 => f i ?_)⟩
  rw [List.length_map] at i1
  omega
theorem RM.upd2 {μ μ' : Mem} {A : Int → Int} {n t k k' cl cl' vl vl' : Int} {D : List CLS} {c : CLS} (h : RM μ A n t k cl vl D c) (f : Fr (fun c i => (c = 0 ∧ ¬ (i = 1 ∨ i = 14 ∨ i = 16)) ∨ c = 8) μ μ') (a1 : μ' 0 13 = k') (a2 : μ' 0 17 = vl') (a3 : μ' 0 19 = cl') : RM μ' A n t k' cl' vl' D c := by
  obtain ⟨hA, hn, hX, hk, hw, ht, hv, hc, hL, hl⟩ := h
  exact ⟨(f.row (fun i q => by omega)).trans hA, (f 0 1 (by omega)).trans hn, hX, a1, (f 0 14 (by omega)).trans hw, ⟨(f 0 16 (by omega)).trans ht.1, ht.2⟩, a2, a3, LST_keep hL (fun i i0 i1 => f 2 i (by omega)), (f 3 t (by omega)).trans hl⟩
theorem wat_lt {A : Int → Int} {n q v : Int} (h : wat A n q v = true) : q < n ∧ 97 ≤ A q ∧ A q ≤ 122 := by
  have l := wat_len h
  have := rn_all (p := isLt A) (n := n) (k := q) (j := q) (Int.le_refl _) (show q < rn (isLt A) n q by have : lend A n q = rn (isLt A) n q := rfl; omega)
  exact ⟨this.1, of_decide_eq_true this.2⟩
theorem wat_sg {A : Int → Int} {n q v x : Int} (h : wat A n q v = true) (hx : 0 ≤ x ∧ x < 97) : ¬ sgn A n q = x := fun e => by
  have := (sgn_eq hx.1).mp e
  have := wat_lt h
  omega
set_option maxHeartbeats 4000000 in
theorem s_M_fact_2 : ∀ (f : Nat) {μ : Mem} {Q : PV → Mem → Prop} {A : Int → Int} {n t k cl vl : Int} {w : List Int} {D : List CLS} {c : CLS}, ((n - k).toNat < f) → (RM μ A n t k cl vl D c) → (IV n k w cl vl 6 D c) → (OST μ w) → (OPW w) → (dpn w ≤ 10) → (∀ e μ', RUN A n k w cl vl 6 D c (.error e) → Fr (Wte t) μ μ' → μ' 0 14 = e → (1 ≤ e ∧ e ≤ 5000) → Q (vI 0) μ') → (∀ μ' k' w' vl' c', (∀ x, RUN A n k' w' cl vl' 7 D c' x → RUN A n k w cl vl 6 D c x) → Fr (Wte t) μ μ' → RM μ' A n t k' cl vl' D c' → IV n k' w' cl vl' 7 D c' → OST μ' w' → OPW w' → dpn w' ≤ 10 → k < k' → sk A n k' = k' → PF c c' → Q (vI 1) μ') → Rj YM y_M_fact 2 [vA 0, vI 1] [] μ Q := by
  intro f
  induction f with
  | zero => intro μ Q A n t k cl vl w D c hf hC hI hO hp hd hE hG; exact absurd hf (by omega)
  | succ f ih =>
    intro μ Q A n t k cl vl w D c hf hC hI hO hp hd hE hG
    obtain ⟨hA, hn, hX, hk, hw0, ht, hv, hc, hL, hl⟩ := id hC
    obtain ⟨i1, i2, i3, i4, i5, i6, i7, i8⟩ := id hI
    have nn := nM_le D c
    have hX1 := hX.1
    have dw := dpn_bd w
    refine Rj_iload_n (q := 3) d_M_fact_2 rfl rfl rfl ?_
    refine Rj_if_eq (q := 6) (t := 75) d_M_fact_3 rfl (by decide) (by decide) (fun c => absurd c (by decide)) (fun _ => ?_)
    refine Rj_iconst (q := 7) d_M_fact_6 rfl ?_
    refine Rj_istore_n (q := 8) (ls' := [vA 0, vI 0]) d_M_fact_7 rfl rfl (by decide) rfl ?_
    refine Rj_aload_n (q := 9) d_M_fact_8 rfl rfl rfl ?_
    refine Rj_vo (q := 12) (z := y_M_see) (as := []) (rest := []) (la := [vA 0]) oM_0_M_see ml_M_113 mw_M_see mv_M_see rfl d_M_fact_9 rfl rfl rfl rfl rfl ?_
    refine s_M_see (μ := μ) (A := A) (n := n) (k := k) hX hA hn hk (by omega) ?_
    have r9 := sk_bd A (n := n) (k := k) (by omega)
    have v9 := seeV_32 (n := n) hX (k := sk A n k) (by omega)
    refine Rj_istore_n (q := 13) (ls' := [vA 0, vI 0, vI (seeV A n (sk A n k))]) d_M_fact_12 rfl rfl (by decide) rfl ?_
    refine Rj_aload_n (q := 14) d_M_fact_13 rfl rfl rfl ?_
    refine Rj_ldc2 (q := 17) k_M_198 d_M_fact_14 rfl ?_
    refine Rj_vo (q := 20) (z := y_M_isWord) (as := [vL 7237492]) (rest := []) (la := [vA 0, vL 7237492, vU]) oM_0_M_isWord ml_M_121 mw_M_isWord mv_M_isWord rfl d_M_fact_17 rfl rfl rfl rfl rfl ?_
    refine s_M_isWord (μ := (mset μ 0 13 (sk A n k))) (A := A) (n := n) (k := sk A n k) hX hA hn rfl (by omega) (w := 7237492) (by decide) ?_
    rw [sk_idem]
    by_cases w17 : wat A n (sk A n k) 7237492 = true
    · rw [bI_t w17]
      refine Rj_eqm (μ' := (mset μ 0 13 (sk A n k))) (mset_idv rfl) ?_
      refine Rj_if_eq (q := 23) (t := 43) d_M_fact_20 rfl (by decide) (by decide) (fun c => absurd c (by decide)) (fun _ => ?_)
      refine Rj_aload_n (q := 24) d_M_fact_23 rfl rfl rfl ?_
      refine Rj_bipush (q := 26) d_M_fact_24 rfl (by decide +kernel) ?_
      refine Rj_vo (q := 29) (z := y_M_opens) (as := [vI 11]) (rest := []) (la := [vA 0, vI 11]) oM_0_M_opens ml_M_200 mw_M_opens mv_M_opens rfl d_M_fact_26 rfl rfl rfl rfl rfl ?_
      refine Rj_aload_n (q := 1) d_M_opens_0 rfl rfl rfl ?_
      refine Rj_gi (q := 4) (ki := 18) (v := dpn w) gM_M_164_0 rfl rfl hO.2.1 d_M_opens_1 rfl ?_
      refine Rj_bipush (q := 6) d_M_opens_4 rfl (by decide +kernel) ?_
      refine Rj_icmp_ne (q := 9) (t := 19) d_M_opens_6 rfl (by decide) (by first | assumption | exact ⟨by omega, by omega⟩) (by decide) (fun c26_6 => ?_) (fun c26_6 => ?_)
      · refine Rj_aload_n (q := 20) d_M_opens_19 rfl rfl rfl ?_
        refine Rj_dup (q := 21) d_M_opens_20 rfl (by intro h; cases h) ?_
        refine Rj_gi (q := 24) (ki := 18) (v := dpn w) gM_M_164_0 rfl rfl hO.2.1 d_M_opens_21 rfl ?_
        refine Rj_iconst (q := 25) d_M_opens_24 rfl ?_
        refine Rj_iadd (q := 26) d_M_opens_25 rfl ?_
        refine Rj_pi (q := 29) (ki := 18) pM_M_164_0 rfl rfl d_M_opens_26 rfl ?_
        refine Rj_aload_n (q := 30) d_M_opens_29 rfl rfl rfl ?_
        refine Rj_gr (q := 33) (zd := 8) gM_M_32_0 rfl rfl d_M_opens_30 rfl ?_
        refine Rj_aload_n (q := 34) d_M_opens_33 rfl rfl rfl ?_
        refine Rj_gi (q := 37) (ki := 21) (v := (w.length : Int)) gM_M_167_0 rfl rfl hO.1 d_M_opens_34 rfl ?_
        refine Rj_iload_n (q := 38) d_M_opens_37 rfl rfl rfl ?_
        refine Rj_is (q := 39) aM_8 rfl (by omega) d_M_opens_38 rfl ?_
        refine Rj_aload_n (q := 40) d_M_opens_39 rfl rfl rfl ?_
        refine Rj_dup (q := 41) d_M_opens_40 rfl (by intro h; cases h) ?_
        refine Rj_gi (q := 44) (ki := 21) (v := (w.length : Int)) gM_M_167_0 rfl rfl hO.1 d_M_opens_41 rfl ?_
        refine Rj_iconst (q := 45) d_M_opens_44 rfl ?_
        refine Rj_iadd (q := 46) d_M_opens_45 rfl ?_
        refine Rj_pi (q := 49) (ki := 21) pM_M_167_0 rfl rfl d_M_opens_46 rfl ?_
        refine Rj_iconst (q := 50) d_M_opens_49 rfl ?_
        refine Rj_bret1 d_M_opens_50 rfl ?_
        refine Rj_if_ne (q := 32) (t := 34) d_M_fact_29 rfl (by decide) (by decide) (fun _ => ?_) (fun c => absurd c (by decide))
        refine Rj_aload_n (q := 35) d_M_fact_34 rfl rfl rfl ?_
        refine Rj_vov (q := 38) (z := y_M_passWord) (as := []) (rest := []) (la := [vA 0]) oM_0_M_passWord ml_M_125 mw_M_passWord mv_M_passWord rfl d_M_fact_35 rfl rfl rfl rfl rfl ?_
        refine s_M_passWord (μ := (mset (mset (mset (mset μ 0 13 (sk A n k)) 0 18 ((dpn w) + 1)) 8 (w.length : Int) 11) 0 21 ((w.length : Int) + 1))) (A := A) (n := n) (k := sk A n k) hX hA hn rfl (by omega) ?_
        have lb35 := lend_bd A (n := n) (k := sk A n k) (by omega)
        refine Rj_iconst (q := 39) d_M_fact_38 rfl ?_
        refine Rj_istore_n (q := 40) (ls' := [vA 0, vI 1, vI (seeV A n (sk A n k))]) d_M_fact_39 rfl rfl (by decide) rfl ?_
        refine Rj_goto (t := 72) d_M_fact_40 (by decide) ?_
        refine Rj_goto (t := 2) d_M_fact_72 (by decide) ?_
        refine Rj_pre (ls' := [vA 0, vI 1]) (t := [vI (seeV A n (sk A n k))]) rfl ?_
        have wl := wat_len w17
        have ns : ¬ sgn A n (sk A n k) = 91 := wat_sg w17 (by decide)
        have fr0 : Fr (Wte t) μ ((mset (mset (mset (mset (mset μ 0 13 (sk A n k)) 0 18 ((dpn w) + 1)) 8 (w.length : Int) 11) 0 21 ((w.length : Int) + 1)) 0 13 (lend A n (sk A n k)))) := (Fr.put (Fr.put (Fr.put (Fr.put (Fr.put (Fr.refl _ _) (by unfold Wte; omega)) (by unfold Wte; omega)) (by unfold Wte; omega)) (by unfold Wte; omega)) (by unfold Wte; omega))
        have cv : RM ((mset (mset (mset (mset (mset μ 0 13 (sk A n k)) 0 18 ((dpn w) + 1)) 8 (w.length : Int) 11) 0 21 ((w.length : Int) + 1)) 0 13 (lend A n (sk A n k)))) A n t (lend A n (sk A n k)) cl vl D c := hC.upd2 (Fr.put (Fr.put (Fr.put (Fr.put (Fr.put (Fr.refl _ _) (by omega)) (by omega)) (by omega)) (by omega)) (by omega)) rfl hv hc
        have iv : IV n (lend A n (sk A n k)) (19 :: w) cl vl 6 D c := hI.push (by decide) (by decide) (by omega) (by omega)
        have ov : OST ((mset (mset (mset (mset (mset μ 0 13 (sk A n k)) 0 18 ((dpn w) + 1)) 8 (w.length : Int) 11) 0 21 ((w.length : Int) + 1)) 0 13 (lend A n (sk A n k)))) (19 :: w) := hO.push rfl (by rw [if_pos (by decide)]; rfl) (mset_same _ _ _ _) (fun i hi => mset_ne _ _ _ _ _ hi)
        exact ih (μ := (mset (mset (mset (mset (mset μ 0 13 (sk A n k)) 0 18 ((dpn w) + 1)) 8 (w.length : Int) 11) 0 21 ((w.length : Int) + 1)) 0 13 (lend A n (sk A n k)))) (k := lend A n (sk A n k)) (w := 19 :: w) (by omega) cv iv ov (hp.cons (by decide)) (by rw [dpn_cons, if_pos (by decide)]; omega) (fun e m3 b1 b2 b3 b4 => hE e m3 ((fun g => RUN_not rfl ns w17 (by omega) g) b1) (fr0.trans b2) b3 b4) (fun m3 k3 w3 v3 c3 b1 b2 b3 b4 b5 b6 b7 b8 b9 b10 => hG m3 k3 w3 v3 c3 (fun x g0 => (fun g => RUN_not rfl ns w17 (by omega) g) (b1 x g0)) (fr0.trans b2) b3 b4 b5 b6 b7 (by omega) b9 b10)
      · refine Rj_aload_n (q := 10) d_M_opens_9 rfl rfl rfl ?_
        refine Rj_iconst (q := 11) d_M_opens_10 rfl ?_
        refine Rj_aload_n (q := 12) d_M_opens_11 rfl rfl rfl ?_
        refine Rj_gi (q := 15) (ki := 13) (v := sk A n k) gM_M_110_0 rfl rfl rfl d_M_opens_12 rfl ?_
        refine Rj_vo (q := 18) (z := y_M_fails) (as := [vI 2, vI (sk A n k)]) (rest := []) (la := [vA 0, vI 2, vI (sk A n k)]) oM_0_M_fails ml_M_131 mw_M_fails mv_M_fails rfl d_M_opens_15 rfl rfl rfl rfl rfl ?_
        refine s_M_fails hw0 ?_
        refine Rj_bret0 d_M_opens_18 rfl ?_
        refine Rj_if_ne (q := 32) (t := 34) d_M_fact_29 rfl (by decide) (by decide) (fun c => absurd c (by decide)) (fun _ => ?_)
        refine Rj_iconst (q := 33) d_M_fact_32 rfl ?_
        refine Rj_bret0 d_M_fact_33 rfl ?_
        exact hE (1 + 8 * (sk A n k) + 2) _ (RUN_deep rfl (Or.inr w17) (by omega)) (Fr.put (Fr.put (Fr.refl _ _) (by unfold Wte; omega)) (by unfold Wte; omega)) rfl (by omega)
    · rw [bI_f (bool_f w17)]
      refine Rj_eqm (μ' := (mset μ 0 13 (sk A n k))) (mset_idv rfl) ?_
      refine Rj_if_eq (q := 23) (t := 43) d_M_fact_20 rfl (by decide) (by decide) (fun _ => ?_) (fun c => absurd c (by decide))
      refine Rj_iload_n (q := 44) d_M_fact_43 rfl rfl rfl ?_
      refine Rj_bipush (q := 46) d_M_fact_44 rfl (by decide +kernel) ?_
      refine Rj_icmp_ne (q := 49) (t := 72) d_M_fact_46 rfl (by decide) (by first | assumption | exact ⟨by omega, by omega⟩) (by decide) (fun c46 => ?_) (fun c46 => ?_)
      · refine Rj_goto (t := 2) d_M_fact_72 (by decide) ?_
        refine Rj_iload_n (q := 3) d_M_fact_2 rfl rfl rfl ?_
        refine Rj_if_eq (q := 6) (t := 75) d_M_fact_3 rfl (by decide) (by decide) (fun _ => ?_) (fun c => absurd c (by decide))
        refine Rj_aload_n (q := 76) d_M_fact_75 rfl rfl rfl ?_
        refine Rj_vo (q := 79) (z := y_M_compare) (as := []) (rest := []) (la := [vA 0]) oM_0_M_compare ml_M_203 mw_M_compare mv_M_compare rfl d_M_fact_76 rfl rfl rfl rfl rfl ?_
        have fr0 : Fr (Wte t) μ ((mset μ 0 13 (sk A n k))) := (Fr.put (Fr.refl _ _) (by unfold Wte; omega))
        have cv : RM ((mset μ 0 13 (sk A n k))) A n t (sk A n k) cl vl D c := hC.upd (Fr.put (Fr.refl _ _) (by omega)) rfl hv hc
        have ov : OST ((mset μ 0 13 (sk A n k))) w := hO
        refine s_M_compare cv (hI.to (by omega) (by omega)) (by rw [sk_idem]; exact fun q => q.elim (fun q1 => c46 ((see_sgn hX (by omega) (by decide)).mpr q1)) w17) hp.lt (fun e m a1 a2 a3 a4 => ?_) (fun m k2 vl2 c2 a1 a2 a3 a4 a5 a6 a7 => ?_)
        · have zz := True.intro
          refine Rj_bret0 d_M_fact_79 rfl ?_
          exact hE e m (RUN_sk a1) (fr0.trans a2.te) a3 a4
        · have zz := True.intro
          refine Rj_bret1 d_M_fact_79 rfl ?_
          exact hG m k2 w vl2 c2 (fun x g => RUN_sk (a1 x g)) (fr0.trans a2.te) a3 a4 (ov.sm a2) hp hd (by omega) a6 a7
      · have sg : sgn A n (sk A n k) = 91 := (see_sgn hX (by omega) (by decide)).mp c46
        have kn := sgn_lt (by decide) sg
        refine Rj_aload_n (q := 50) d_M_fact_49 rfl rfl rfl ?_
        refine Rj_bipush (q := 52) d_M_fact_50 rfl (by decide +kernel) ?_
        refine Rj_vo (q := 55) (z := y_M_opens) (as := [vI 91]) (rest := []) (la := [vA 0, vI 91]) oM_0_M_opens ml_M_200 mw_M_opens mv_M_opens rfl d_M_fact_52 rfl rfl rfl rfl rfl ?_
        refine Rj_aload_n (q := 1) d_M_opens_0 rfl rfl rfl ?_
        refine Rj_gi (q := 4) (ki := 18) (v := dpn w) gM_M_164_0 rfl rfl hO.2.1 d_M_opens_1 rfl ?_
        refine Rj_bipush (q := 6) d_M_opens_4 rfl (by decide +kernel) ?_
        refine Rj_icmp_ne (q := 9) (t := 19) d_M_opens_6 rfl (by decide) (by first | assumption | exact ⟨by omega, by omega⟩) (by decide) (fun c52_6 => ?_) (fun c52_6 => ?_)
        · refine Rj_aload_n (q := 20) d_M_opens_19 rfl rfl rfl ?_
          refine Rj_dup (q := 21) d_M_opens_20 rfl (by intro h; cases h) ?_
          refine Rj_gi (q := 24) (ki := 18) (v := dpn w) gM_M_164_0 rfl rfl hO.2.1 d_M_opens_21 rfl ?_
          refine Rj_iconst (q := 25) d_M_opens_24 rfl ?_
          refine Rj_iadd (q := 26) d_M_opens_25 rfl ?_
          refine Rj_pi (q := 29) (ki := 18) pM_M_164_0 rfl rfl d_M_opens_26 rfl ?_
          refine Rj_aload_n (q := 30) d_M_opens_29 rfl rfl rfl ?_
          refine Rj_gr (q := 33) (zd := 8) gM_M_32_0 rfl rfl d_M_opens_30 rfl ?_
          refine Rj_aload_n (q := 34) d_M_opens_33 rfl rfl rfl ?_
          refine Rj_gi (q := 37) (ki := 21) (v := (w.length : Int)) gM_M_167_0 rfl rfl hO.1 d_M_opens_34 rfl ?_
          refine Rj_iload_n (q := 38) d_M_opens_37 rfl rfl rfl ?_
          refine Rj_is (q := 39) aM_8 rfl (by omega) d_M_opens_38 rfl ?_
          refine Rj_aload_n (q := 40) d_M_opens_39 rfl rfl rfl ?_
          refine Rj_dup (q := 41) d_M_opens_40 rfl (by intro h; cases h) ?_
          refine Rj_gi (q := 44) (ki := 21) (v := (w.length : Int)) gM_M_167_0 rfl rfl hO.1 d_M_opens_41 rfl ?_
          refine Rj_iconst (q := 45) d_M_opens_44 rfl ?_
          refine Rj_iadd (q := 46) d_M_opens_45 rfl ?_
          refine Rj_pi (q := 49) (ki := 21) pM_M_167_0 rfl rfl d_M_opens_46 rfl ?_
          refine Rj_iconst (q := 50) d_M_opens_49 rfl ?_
          refine Rj_bret1 d_M_opens_50 rfl ?_
          refine Rj_if_ne (q := 58) (t := 60) d_M_fact_55 rfl (by decide) (by decide) (fun _ => ?_) (fun c => absurd c (by decide))
          refine Rj_aload_n (q := 61) d_M_fact_60 rfl rfl rfl ?_
          refine Rj_dup (q := 62) d_M_fact_61 rfl (by intro h; cases h) ?_
          refine Rj_gi (q := 65) (ki := 13) (v := sk A n k) gM_M_110_0 rfl rfl rfl d_M_fact_62 rfl ?_
          refine Rj_iconst (q := 66) d_M_fact_65 rfl ?_
          refine Rj_iadd (q := 67) d_M_fact_66 rfl ?_
          refine Rj_pi (q := 70) (ki := 13) pM_M_110_0 rfl rfl d_M_fact_67 rfl ?_
          refine Rj_iconst (q := 71) d_M_fact_70 rfl ?_
          refine Rj_istore_n (q := 72) (ls' := [vA 0, vI 1, vI (seeV A n (sk A n k))]) d_M_fact_71 rfl rfl (by decide) rfl ?_
          refine Rj_goto (t := 2) d_M_fact_72 (by decide) ?_
          refine Rj_pre (ls' := [vA 0, vI 1]) (t := [vI (seeV A n (sk A n k))]) rfl ?_
          have zz := True.intro
          have fr0 : Fr (Wte t) μ ((mset (mset (mset (mset (mset μ 0 13 (sk A n k)) 0 18 ((dpn w) + 1)) 8 (w.length : Int) 91) 0 21 ((w.length : Int) + 1)) 0 13 ((sk A n k) + 1))) := (Fr.put (Fr.put (Fr.put (Fr.put (Fr.put (Fr.refl _ _) (by unfold Wte; omega)) (by unfold Wte; omega)) (by unfold Wte; omega)) (by unfold Wte; omega)) (by unfold Wte; omega))
          have cv : RM ((mset (mset (mset (mset (mset μ 0 13 (sk A n k)) 0 18 ((dpn w) + 1)) 8 (w.length : Int) 91) 0 21 ((w.length : Int) + 1)) 0 13 ((sk A n k) + 1))) A n t ((sk A n k) + 1) cl vl D c := hC.upd2 (Fr.put (Fr.put (Fr.put (Fr.put (Fr.put (Fr.refl _ _) (by omega)) (by omega)) (by omega)) (by omega)) (by omega)) rfl hv hc
          have iv : IV n ((sk A n k) + 1) (22 :: w) cl vl 6 D c := hI.push (by decide) (by decide) (by omega) (by omega)
          have ov : OST ((mset (mset (mset (mset (mset μ 0 13 (sk A n k)) 0 18 ((dpn w) + 1)) 8 (w.length : Int) 91) 0 21 ((w.length : Int) + 1)) 0 13 ((sk A n k) + 1))) (22 :: w) := hO.push rfl (by rw [if_pos (by decide)]; rfl) (mset_same _ _ _ _) (fun i hi => mset_ne _ _ _ _ _ hi)
          exact ih (μ := (mset (mset (mset (mset (mset μ 0 13 (sk A n k)) 0 18 ((dpn w) + 1)) 8 (w.length : Int) 91) 0 21 ((w.length : Int) + 1)) 0 13 ((sk A n k) + 1))) (k := (sk A n k) + 1) (w := 22 :: w) (by omega) cv iv ov (hp.cons (by decide)) (by rw [dpn_cons, if_pos (by decide)]; omega) (fun e m3 b1 b2 b3 b4 => hE e m3 ((fun g => RUN_br rfl sg (by omega) g) b1) (fr0.trans b2) b3 b4) (fun m3 k3 w3 v3 c3 b1 b2 b3 b4 b5 b6 b7 b8 b9 b10 => hG m3 k3 w3 v3 c3 (fun x g0 => (fun g => RUN_br rfl sg (by omega) g) (b1 x g0)) (fr0.trans b2) b3 b4 b5 b6 b7 (by omega) b9 b10)
        · refine Rj_aload_n (q := 10) d_M_opens_9 rfl rfl rfl ?_
          refine Rj_iconst (q := 11) d_M_opens_10 rfl ?_
          refine Rj_aload_n (q := 12) d_M_opens_11 rfl rfl rfl ?_
          refine Rj_gi (q := 15) (ki := 13) (v := sk A n k) gM_M_110_0 rfl rfl rfl d_M_opens_12 rfl ?_
          refine Rj_vo (q := 18) (z := y_M_fails) (as := [vI 2, vI (sk A n k)]) (rest := []) (la := [vA 0, vI 2, vI (sk A n k)]) oM_0_M_fails ml_M_131 mw_M_fails mv_M_fails rfl d_M_opens_15 rfl rfl rfl rfl rfl ?_
          refine s_M_fails hw0 ?_
          refine Rj_bret0 d_M_opens_18 rfl ?_
          refine Rj_if_ne (q := 58) (t := 60) d_M_fact_55 rfl (by decide) (by decide) (fun c => absurd c (by decide)) (fun _ => ?_)
          refine Rj_iconst (q := 59) d_M_fact_58 rfl ?_
          refine Rj_bret0 d_M_fact_59 rfl ?_
          exact hE (1 + 8 * (sk A n k) + 2) _ (RUN_deep rfl (Or.inl sg) (by omega)) (Fr.put (Fr.put (Fr.refl _ _) (by unfold Wte; omega)) (by unfold Wte; omega)) rfl (by omega)
set_option maxHeartbeats 4000000 in
theorem s_M_fact {μ : Mem} {Q : PV → Mem → Prop} {A : Int → Int} {n t k cl vl : Int} {w : List Int} {D : List CLS} {c : CLS} (hC : RM μ A n t k cl vl D c) (hI : IV n k w cl vl 6 D c) (hO : OST μ w) (hp : OPW w) (hd : dpn w ≤ 10) (hE : ∀ e μ', RUN A n k w cl vl 6 D c (.error e) → Fr (Wte t) μ μ' → μ' 0 14 = e → (1 ≤ e ∧ e ≤ 5000) → Q (vI 0) μ') (hG : ∀ μ' k' w' vl' c', (∀ x, RUN A n k' w' cl vl' 7 D c' x → RUN A n k w cl vl 6 D c x) → Fr (Wte t) μ μ' → RM μ' A n t k' cl vl' D c' → IV n k' w' cl vl' 7 D c' → OST μ' w' → OPW w' → dpn w' ≤ 10 → k < k' → sk A n k' = k' → PF c c' → Q (vI 1) μ') : Rj YM y_M_fact 0 [vA 0] [] μ Q := by
  refine Rj_iconst (q := 1) d_M_fact_0 rfl ?_
  refine Rj_istore_n (q := 2) (ls' := [vA 0, vI 1]) d_M_fact_1 rfl rfl (by decide) rfl ?_
  exact s_M_fact_2 _ (Nat.lt_succ_self _) hC hI hO hp hd hE hG
