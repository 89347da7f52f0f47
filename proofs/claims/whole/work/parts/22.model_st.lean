theorem gM_M_230_0 : GI YM "DoorsOnCogsModel" 230 0 7 none := ⟨by decide, _, _, _, fl_M_230, cM_0, by decide, rfl⟩
theorem oM_0_M_numberHere : OI YM 0 y_M_numberHere := ⟨by decide, _, _, _, cM_0, rfl⟩
theorem gM_M_26_0 : GI YM "DoorsOnCogsModel" 26 0 11 (some (some 6)) := ⟨by decide, _, _, _, fl_M_26, cM_0, by decide, rfl⟩
theorem gM_M_135_0 : GI YM "DoorsOnCogsModel" 135 0 15 none := ⟨by decide, _, _, _, fl_M_135, cM_0, by decide, rfl⟩
theorem aM_6 : AI YM 6 (.int) 24 := ⟨by decide, cM_6, by decide⟩
theorem pM_M_230_0 : PI YM "DoorsOnCogsModel" 230 0 7 none .int := ⟨by decide, _, _, _, fl_M_230, fp_10_7, cM_0, by decide, rfl⟩
theorem gM_M_239_0 : GI YM "DoorsOnCogsModel" 239 0 10 none := ⟨by decide, _, _, _, fl_M_239, cM_0, by decide, rfl⟩
theorem pM_M_239_0 : PI YM "DoorsOnCogsModel" 239 0 10 none .int := ⟨by decide, _, _, _, fl_M_239, fp_10_10, cM_0, by decide, rfl⟩
theorem gM_M_233_0 : GI YM "DoorsOnCogsModel" 233 0 8 none := ⟨by decide, _, _, _, fl_M_233, cM_0, by decide, rfl⟩
theorem gM_M_29_0 : GI YM "DoorsOnCogsModel" 29 0 12 (some (some 7)) := ⟨by decide, _, _, _, fl_M_29, cM_0, by decide, rfl⟩
theorem aM_7 : AI YM 7 (.int) 48 := ⟨by decide, cM_7, by decide⟩
theorem gM_M_236_0 : GI YM "DoorsOnCogsModel" 236 0 9 none := ⟨by decide, _, _, _, fl_M_236, cM_0, by decide, rfl⟩
theorem pM_M_236_0 : PI YM "DoorsOnCogsModel" 236 0 9 none .int := ⟨by decide, _, _, _, fl_M_236, fp_10_9, cM_0, by decide, rfl⟩
theorem pM_M_233_0 : PI YM "DoorsOnCogsModel" 233 0 8 none .int := ⟨by decide, _, _, _, fl_M_233, fp_10_8, cM_0, by decide, rfl⟩
theorem gM_M_255_0 : GI YM "DoorsOnCogsModel" 255 0 19 none := ⟨by decide, _, _, _, fl_M_255, cM_0, by decide, rfl⟩
theorem pM_M_255_0 : PI YM "DoorsOnCogsModel" 255 0 19 none .int := ⟨by decide, _, _, _, fl_M_255, fp_10_19, cM_0, by decide, rfl⟩
theorem oM_0_M_joinSort : OI YM 0 y_M_joinSort := ⟨by decide, _, _, _, cM_0, rfl⟩
theorem oM_0_M_isJoinHere : OI YM 0 y_M_isJoinHere := ⟨by decide, _, _, _, cM_0, rfl⟩
theorem oM_0_M_isFixedHere : OI YM 0 y_M_isFixedHere := ⟨by decide, _, _, _, cM_0, rfl⟩
theorem oM_0_M_isDoorHere : OI YM 0 y_M_isDoorHere := ⟨by decide, _, _, _, cM_0, rfl⟩
theorem gM_M_158_0 : GI YM "DoorsOnCogsModel" 158 0 16 none := ⟨by decide, _, _, _, fl_M_158, cM_0, by decide, rfl⟩
/-! the reference reads a street -/
abbrev StS : Type := Int × Int × Int × Int × Int × Int × (Int → Int) × (Int → Int)
/-- where it reads, clauses, doors, joins, axles, the fixed, rows of doors and joins -/
def srOf (μ : Mem) : StS := (μ 0 13, μ 0 19, μ 0 7, μ 0 8, μ 0 9, μ 0 10, μ 6, μ 7)
abbrev Wst (c : Nat) (i : Int) : Prop := (c = 0 ∧ (i = 13 ∨ i = 14 ∨ i = 15 ∨ i = 19 ∨ (7 ≤ i ∧ i ≤ 10))) ∨ c = 6 ∨ c = 7
theorem wd_num_st : ∀ c i, Wnum c i → Wst c i := fun c i h => by unfold Wnum at h; unfold Wst; omega
def stDoor (A : Int → Int) (n k : Int) (σ : StS) : Except Int StS :=
  if σ.2.2.1 = 12 then .error (1 + 8 * k + 4) else
  match pNum A n (lend A n k) 4 60 with
  | .error w => .error w
  | .ok (e1, t) => match pNum A n e1 0 t with
    | .error w => .error w
    | .ok (e2, s) => .ok (e2, σ.2.1, σ.2.2.1 + 1, σ.2.2.2.1, σ.2.2.2.2.1, σ.2.2.2.2.2.1, fset (fset σ.2.2.2.2.2.2.1 (2 * σ.2.2.1) t) (2 * σ.2.2.1 + 1) s, σ.2.2.2.2.2.2.2)
def stFixed (A : Int → Int) (n k : Int) (σ : StS) : Except Int StS :=
  match pNum A n (lend A n k) 0 (σ.2.2.1 - 1) with
  | .error w => .error w
  | .ok (e1, d) => .ok (e1, σ.2.1, σ.2.2.1, σ.2.2.2.1, σ.2.2.2.2.1, z_or σ.2.2.2.2.2.1 (z_shl 1 d), σ.2.2.2.2.2.2.1, σ.2.2.2.2.2.2.2)
def stJoin (A : Int → Int) (n k sort : Int) (σ : StS) : Except Int StS :=
  if σ.2.2.2.1 = 16 ∨ (sort = 2 ∧ σ.2.2.2.2.1 = 3) then .error (1 + 8 * k + 4) else
  match pNum A n (lend A n k) 0 (σ.2.2.1 - 1) with
  | .error w => .error w
  | .ok (e1, a) => match pNum A n e1 0 (σ.2.2.1 - 1) with
    | .error w => .error w
    | .ok (e2, b) => if b = a then .error (1 + 8 * sk A n e1 + 1) else
      .ok (e2, σ.2.1, σ.2.2.1, σ.2.2.2.1 + 1, σ.2.2.2.2.1 + (if sort = 2 then 1 else 0), σ.2.2.2.2.2.1, σ.2.2.2.2.2.2.1, fset (fset (fset σ.2.2.2.2.2.2.2 (3 * σ.2.2.2.1) a) (3 * σ.2.2.2.1 + 1) b) (3 * σ.2.2.2.1 + 2) sort)
def stSort (A : Int → Int) (n k : Int) : Int := if wat A n k 1835365224 = true then 0 else if wat A n k 1650814068 = true then 1 else if wat A n k 1635282021 = true then 2 else -1
def stCl2 (A : Int → Int) (n : Int) (σ : StS) : Except Int StS :=
  if σ.2.1 = 32 then .error (1 + 8 * σ.1 + 4) else
  if wat A n σ.1 1685024626 = true then stDoor A n σ.1 (σ.1, σ.2.1 + 1, σ.2.2) else
  if wat A n σ.1 439856162148 = true then stFixed A n σ.1 (σ.1, σ.2.1 + 1, σ.2.2) else
  stJoin A n σ.1 (stSort A n σ.1) (σ.1, σ.2.1 + 1, σ.2.2)
def stClause (A : Int → Int) (n : Int) (σ : StS) : Except Int StS :=
  if wat A n (sk A n σ.1) 1685024626 = true ∨ wat A n (sk A n σ.1) 439856162148 = true ∨ 0 ≤ stSort A n (sk A n σ.1) then stCl2 A n (sk A n σ.1, σ.2) else .error (1 + 8 * sk A n σ.1 + 0)
set_option maxHeartbeats 4000000 in
theorem s_M_isDoorHere {μ : Mem} {Q : PV → Mem → Prop} (hX : TX (μ 1) (μ 0 1)) (h0 : 0 ≤ μ 0 13 ∧ μ 0 13 ≤ μ 0 1) (hw0 : μ 0 14 = 0) (hD : 0 ≤ μ 0 7 ∧ μ 0 7 ≤ 12) (hJ : 0 ≤ μ 0 8 ∧ μ 0 8 ≤ 16) (hXX : 0 ≤ μ 0 9 ∧ μ 0 9 ≤ 3) (hk : sk (μ 1) (μ 0 1) (μ 0 13) = μ 0 13) (h1 : ∀ μ', stDoor (μ 1) (μ 0 1) (μ 0 13) (srOf μ) = .ok (srOf μ') → Fr Wst μ μ' → μ' 0 14 = 0 → Q (vI 1) μ') (h2 : ∀ wr μ', stDoor (μ 1) (μ 0 1) (μ 0 13) (srOf μ) = .error wr → Fr Wst μ μ' → μ' 0 14 = wr → Q (vI 0) μ') : Rj YM y_M_isDoorHere 0 [vA 0, vI (μ 0 13)] [] μ Q := by
  obtain ⟨hX1, hX2⟩ := id hX
  refine Rj_aload_n (q := 1) d_M_isDoorHere_0 rfl rfl rfl ?_
  refine Rj_gi (q := 4) (ki := 7) (v := μ 0 7) gM_M_230_0 rfl rfl rfl d_M_isDoorHere_1 rfl ?_
  refine Rj_bipush (q := 6) d_M_isDoorHere_4 rfl (by decide +kernel) ?_
  refine Rj_icmp_ne (q := 9) (t := 16) d_M_isDoorHere_6 rfl (by decide) ⟨by omega, by omega⟩ (by decide) (fun c6 => ?_) (fun c6 => ?_)
  · refine Rj_aload_n (q := 17) d_M_isDoorHere_16 rfl rfl rfl ?_
    refine Rj_vov (q := 20) (z := y_M_passWord) (as := []) (rest := []) (la := [vA 0]) oM_0_M_passWord ml_M_125 mw_M_passWord mv_M_passWord rfl d_M_isDoorHere_17 rfl rfl rfl rfl rfl ?_
    refine s_M_passWord (μ := μ) (A := (μ 1)) (n := (μ 0 1)) (k := μ 0 13) hX rfl rfl rfl (by omega) ?_
    have r17 := lend_bd (μ 1) (n := (μ 0 1)) (k := μ 0 13) (by omega)
    refine Rj_aload_n (q := 21) d_M_isDoorHere_20 rfl rfl rfl ?_
    refine Rj_iconst (q := 22) d_M_isDoorHere_21 rfl ?_
    refine Rj_bipush (q := 24) d_M_isDoorHere_22 rfl (by decide +kernel) ?_
    refine Rj_vo (q := 27) (z := y_M_numberHere) (as := [vI 4, vI 60]) (rest := []) (la := [vA 0, vI 4, vI 60]) oM_0_M_numberHere ml_M_179 mw_M_numberHere mv_M_numberHere rfl d_M_isDoorHere_24 rfl rfl rfl rfl rfl ?_
    refine s_M_numberHere (μ := (mset μ 0 13 (lend (μ 1) (μ 0 1) (μ 0 13)))) (A := (μ 1)) (n := (μ 0 1)) (k := lend (μ 1) (μ 0 1) (μ 0 13)) hX rfl rfl rfl (by omega) hw0 ⟨(by decide), (by decide)⟩ (fun e24 v24 q24 b24 d24 => ?_) (fun w24 m24 q24 f24 g24 => ?_)
    · have r24 := sk_bd (μ 1) (n := (μ 0 1)) (k := lend (μ 1) (μ 0 1) (μ 0 13)) (by omega)
      refine Rj_if_ne (q := 30) (t := 32) d_M_isDoorHere_27 rfl (by decide) (by decide) (fun _ => ?_) (fun c => absurd c (by decide))
      refine Rj_aload_n (q := 33) d_M_isDoorHere_32 rfl rfl rfl ?_
      refine Rj_gr (q := 36) (zd := 6) gM_M_26_0 rfl rfl d_M_isDoorHere_33 rfl ?_
      refine Rj_iconst (q := 37) d_M_isDoorHere_36 rfl ?_
      refine Rj_aload_n (q := 38) d_M_isDoorHere_37 rfl rfl rfl ?_
      refine Rj_gi (q := 41) (ki := 7) (v := μ 0 7) gM_M_230_0 rfl rfl rfl d_M_isDoorHere_38 rfl ?_
      refine Rj_imul (q := 42) d_M_isDoorHere_41 rfl ?_
      refine Rj_aload_n (q := 43) d_M_isDoorHere_42 rfl rfl rfl ?_
      refine Rj_gi (q := 46) (ki := 15) (v := v24) gM_M_135_0 rfl rfl rfl d_M_isDoorHere_43 rfl ?_
      refine Rj_is (q := 47) aM_6 rfl (by omega) d_M_isDoorHere_46 rfl ?_
      refine Rj_aload_n (q := 48) d_M_isDoorHere_47 rfl rfl rfl ?_
      refine Rj_iconst (q := 49) d_M_isDoorHere_48 rfl ?_
      refine Rj_aload_n (q := 50) d_M_isDoorHere_49 rfl rfl rfl ?_
      refine Rj_gi (q := 53) (ki := 15) (v := v24) gM_M_135_0 rfl rfl rfl d_M_isDoorHere_50 rfl ?_
      refine Rj_vo (q := 56) (z := y_M_numberHere) (as := [vI 0, vI v24]) (rest := []) (la := [vA 0, vI 0, vI v24]) oM_0_M_numberHere ml_M_179 mw_M_numberHere mv_M_numberHere rfl d_M_isDoorHere_53 rfl rfl rfl rfl rfl ?_
      refine s_M_numberHere (μ := (mset (mset (mset (mset μ 0 13 (lend (μ 1) (μ 0 1) (μ 0 13))) 0 13 e24) 0 15 v24) 6 (2 * (μ 0 7)) v24)) (A := (μ 1)) (n := (μ 0 1)) (k := e24) hX rfl rfl rfl (by omega) hw0 ⟨(by decide), ⟨by omega, by omega⟩⟩ (fun e53 v53 q53 b53 d53 => ?_) (fun w53 m53 q53 f53 g53 => ?_)
      · have r53 := sk_bd (μ 1) (n := (μ 0 1)) (k := e24) (by omega)
        refine Rj_if_ne (q := 59) (t := 61) d_M_isDoorHere_56 rfl (by decide) (by decide) (fun _ => ?_) (fun c => absurd c (by decide))
        refine Rj_aload_n (q := 62) d_M_isDoorHere_61 rfl rfl rfl ?_
        refine Rj_gr (q := 65) (zd := 6) gM_M_26_0 rfl rfl d_M_isDoorHere_62 rfl ?_
        refine Rj_iconst (q := 66) d_M_isDoorHere_65 rfl ?_
        refine Rj_aload_n (q := 67) d_M_isDoorHere_66 rfl rfl rfl ?_
        refine Rj_gi (q := 70) (ki := 7) (v := μ 0 7) gM_M_230_0 rfl rfl rfl d_M_isDoorHere_67 rfl ?_
        refine Rj_imul (q := 71) d_M_isDoorHere_70 rfl ?_
        refine Rj_iconst (q := 72) d_M_isDoorHere_71 rfl ?_
        refine Rj_iadd (q := 73) d_M_isDoorHere_72 rfl ?_
        refine Rj_aload_n (q := 74) d_M_isDoorHere_73 rfl rfl rfl ?_
        refine Rj_gi (q := 77) (ki := 15) (v := v53) gM_M_135_0 rfl rfl rfl d_M_isDoorHere_74 rfl ?_
        refine Rj_is (q := 78) aM_6 rfl (by omega) d_M_isDoorHere_77 rfl ?_
        refine Rj_aload_n (q := 79) d_M_isDoorHere_78 rfl rfl rfl ?_
        refine Rj_dup (q := 80) d_M_isDoorHere_79 rfl (by intro h; cases h) ?_
        refine Rj_gi (q := 83) (ki := 7) (v := μ 0 7) gM_M_230_0 rfl rfl rfl d_M_isDoorHere_80 rfl ?_
        refine Rj_iconst (q := 84) d_M_isDoorHere_83 rfl ?_
        refine Rj_iadd (q := 85) d_M_isDoorHere_84 rfl ?_
        refine Rj_pi (q := 88) (ki := 7) pM_M_230_0 rfl rfl d_M_isDoorHere_85 rfl ?_
        refine Rj_iconst (q := 89) d_M_isDoorHere_88 rfl ?_
        refine Rj_bret1 d_M_isDoorHere_89 rfl ?_
        refine h1 _ ?_ (Fr.put (Fr.put (Fr.put (Fr.put (Fr.put (Fr.put (Fr.put (Fr.put (Fr.refl _ _) (by decide)) (by decide)) (by decide)) (by simp [Wst])) (by decide)) (by decide)) (by simp [Wst])) (by decide)) hw0
        unfold stDoor
        simp [srOf, *, mset_fs, mset_nc, mset]
      · have z53 := True.intro
        refine Rj_if_ne (q := 59) (t := 61) d_M_isDoorHere_56 rfl (by decide) (by decide) (fun c => absurd c (by decide)) (fun _ => ?_)
        refine Rj_iconst (q := 60) d_M_isDoorHere_59 rfl ?_
        refine Rj_bret0 d_M_isDoorHere_60 rfl ?_
        refine h2 _ _ ?_ (Fr.trans (Fr.put (Fr.put (Fr.put (Fr.put (Fr.refl _ _) (by decide)) (by decide)) (by decide)) (by simp [Wst])) (Fr.wide f53 wd_num_st)) g53
        unfold stDoor
        simp [srOf, *]
    · have z24 := True.intro
      refine Rj_if_ne (q := 30) (t := 32) d_M_isDoorHere_27 rfl (by decide) (by decide) (fun c => absurd c (by decide)) (fun _ => ?_)
      refine Rj_iconst (q := 31) d_M_isDoorHere_30 rfl ?_
      refine Rj_bret0 d_M_isDoorHere_31 rfl ?_
      refine h2 _ _ ?_ (Fr.trans (Fr.put (Fr.refl _ _) (by decide)) (Fr.wide f24 wd_num_st)) g24
      unfold stDoor
      simp [srOf, *]
  · refine Rj_aload_n (q := 10) d_M_isDoorHere_9 rfl rfl rfl ?_
    refine Rj_iconst (q := 11) d_M_isDoorHere_10 rfl ?_
    refine Rj_iload_n (q := 12) d_M_isDoorHere_11 rfl rfl rfl ?_
    refine Rj_vo (q := 15) (z := y_M_fails) (as := [vI 4, vI (μ 0 13)]) (rest := []) (la := [vA 0, vI 4, vI (μ 0 13)]) oM_0_M_fails ml_M_131 mw_M_fails mv_M_fails rfl d_M_isDoorHere_12 rfl rfl rfl rfl rfl ?_
    refine s_M_fails hw0 ?_
    refine Rj_bret0 d_M_isDoorHere_15 rfl ?_
    refine h2 _ _ ?_ (Fr.put (Fr.refl _ _) (by decide)) (mset_same _ _ _ _)
    unfold stDoor
    simp [srOf, *]
set_option maxHeartbeats 4000000 in
theorem s_M_isFixedHere {μ : Mem} {Q : PV → Mem → Prop} (hX : TX (μ 1) (μ 0 1)) (h0 : 0 ≤ μ 0 13 ∧ μ 0 13 ≤ μ 0 1) (hw0 : μ 0 14 = 0) (hD : 0 ≤ μ 0 7 ∧ μ 0 7 ≤ 12) (hJ : 0 ≤ μ 0 8 ∧ μ 0 8 ≤ 16) (hXX : 0 ≤ μ 0 9 ∧ μ 0 9 ≤ 3) (hk : sk (μ 1) (μ 0 1) (μ 0 13) = μ 0 13) (h1 : ∀ μ', stFixed (μ 1) (μ 0 1) (μ 0 13) (srOf μ) = .ok (srOf μ') → Fr Wst μ μ' → μ' 0 14 = 0 → Q (vI 1) μ') (h2 : ∀ wr μ', stFixed (μ 1) (μ 0 1) (μ 0 13) (srOf μ) = .error wr → Fr Wst μ μ' → μ' 0 14 = wr → Q (vI 0) μ') : Rj YM y_M_isFixedHere 0 [vA 0] [] μ Q := by
  obtain ⟨hX1, hX2⟩ := id hX
  refine Rj_aload_n (q := 1) d_M_isFixedHere_0 rfl rfl rfl ?_
  refine Rj_vov (q := 4) (z := y_M_passWord) (as := []) (rest := []) (la := [vA 0]) oM_0_M_passWord ml_M_125 mw_M_passWord mv_M_passWord rfl d_M_isFixedHere_1 rfl rfl rfl rfl rfl ?_
  refine s_M_passWord (μ := μ) (A := (μ 1)) (n := (μ 0 1)) (k := μ 0 13) hX rfl rfl rfl (by omega) ?_
  have r1 := lend_bd (μ 1) (n := (μ 0 1)) (k := μ 0 13) (by omega)
  refine Rj_aload_n (q := 5) d_M_isFixedHere_4 rfl rfl rfl ?_
  refine Rj_iconst (q := 6) d_M_isFixedHere_5 rfl ?_
  refine Rj_aload_n (q := 7) d_M_isFixedHere_6 rfl rfl rfl ?_
  refine Rj_gi (q := 10) (ki := 7) (v := μ 0 7) gM_M_230_0 rfl rfl rfl d_M_isFixedHere_7 rfl ?_
  refine Rj_iconst (q := 11) d_M_isFixedHere_10 rfl ?_
  refine Rj_isub (q := 12) d_M_isFixedHere_11 rfl ?_
  refine Rj_vo (q := 15) (z := y_M_numberHere) (as := [vI 0, vI ((μ 0 7) - 1)]) (rest := []) (la := [vA 0, vI 0, vI ((μ 0 7) - 1)]) oM_0_M_numberHere ml_M_179 mw_M_numberHere mv_M_numberHere rfl d_M_isFixedHere_12 rfl rfl rfl rfl rfl ?_
  refine s_M_numberHere (μ := (mset μ 0 13 (lend (μ 1) (μ 0 1) (μ 0 13)))) (A := (μ 1)) (n := (μ 0 1)) (k := lend (μ 1) (μ 0 1) (μ 0 13)) hX rfl rfl rfl (by omega) hw0 ⟨(by decide), ⟨by omega, by omega⟩⟩ (fun e12 v12 q12 b12 d12 => ?_) (fun w12 m12 q12 f12 g12 => ?_)
  · have r12 := sk_bd (μ 1) (n := (μ 0 1)) (k := lend (μ 1) (μ 0 1) (μ 0 13)) (by omega)
    refine Rj_if_ne (q := 18) (t := 20) d_M_isFixedHere_15 rfl (by decide) (by decide) (fun _ => ?_) (fun c => absurd c (by decide))
    refine Rj_aload_n (q := 21) d_M_isFixedHere_20 rfl rfl rfl ?_
    refine Rj_dup (q := 22) d_M_isFixedHere_21 rfl (by intro h; cases h) ?_
    refine Rj_gi (q := 25) (ki := 10) (v := μ 0 10) gM_M_239_0 rfl rfl rfl d_M_isFixedHere_22 rfl ?_
    refine Rj_iconst (q := 26) d_M_isFixedHere_25 rfl ?_
    refine Rj_aload_n (q := 27) d_M_isFixedHere_26 rfl rfl rfl ?_
    refine Rj_gi (q := 30) (ki := 15) (v := v12) gM_M_135_0 rfl rfl rfl d_M_isFixedHere_27 rfl ?_
    refine Rj_ishl (q := 31) (z := z_shl 1 v12) d_M_isFixedHere_30 rfl rfl ?_
    refine Rj_ior (q := 32) (z := z_or (μ 0 10) (z_shl 1 v12)) d_M_isFixedHere_31 rfl rfl ?_
    refine Rj_pi (q := 35) (ki := 10) pM_M_239_0 rfl rfl d_M_isFixedHere_32 rfl ?_
    refine Rj_iconst (q := 36) d_M_isFixedHere_35 rfl ?_
    refine Rj_bret1 d_M_isFixedHere_36 rfl ?_
    refine h1 _ ?_ (Fr.put (Fr.put (Fr.put (Fr.put (Fr.refl _ _) (by decide)) (by decide)) (by decide)) (by decide)) hw0
    unfold stFixed
    simp [srOf, *, mset_fs, mset_nc, mset]
  · have z12 := True.intro
    refine Rj_if_ne (q := 18) (t := 20) d_M_isFixedHere_15 rfl (by decide) (by decide) (fun c => absurd c (by decide)) (fun _ => ?_)
    refine Rj_iconst (q := 19) d_M_isFixedHere_18 rfl ?_
    refine Rj_bret0 d_M_isFixedHere_19 rfl ?_
    refine h2 _ _ ?_ (Fr.trans (Fr.put (Fr.refl _ _) (by decide)) (Fr.wide f12 wd_num_st)) g12
    unfold stFixed
    simp [srOf, *]
set_option maxHeartbeats 4000000 in
theorem s_M_isJoinHere_29 {μ : Mem} {Q : PV → Mem → Prop} (hX : TX (μ 1) (μ 0 1)) (h0 : 0 ≤ μ 0 13 ∧ μ 0 13 ≤ μ 0 1) (hw0 : μ 0 14 = 0) (hD : 0 ≤ μ 0 7 ∧ μ 0 7 ≤ 12) (hJ : 0 ≤ μ 0 8 ∧ μ 0 8 ≤ 16) (hXX : 0 ≤ μ 0 9 ∧ μ 0 9 ≤ 3) {sort : Int} (hs : 0 ≤ sort ∧ sort ≤ 2) (hk : sk (μ 1) (μ 0 1) (μ 0 13) = μ 0 13) (hne : ¬ (μ 0 8 = 16 ∨ (sort = 2 ∧ μ 0 9 = 3))) (h1 : ∀ μ', stJoin (μ 1) (μ 0 1) (μ 0 13) sort (srOf μ) = .ok (srOf μ') → Fr Wst μ μ' → μ' 0 14 = 0 → Q (vI 1) μ') (h2 : ∀ wr μ', stJoin (μ 1) (μ 0 1) (μ 0 13) sort (srOf μ) = .error wr → Fr Wst μ μ' → μ' 0 14 = wr → Q (vI 0) μ') : Rj YM y_M_isJoinHere 29 [vA 0, vI sort, vI (μ 0 13)] [] μ Q := by
  obtain ⟨hX1, hX2⟩ := id hX
  refine Rj_aload_n (q := 30) d_M_isJoinHere_29 rfl rfl rfl ?_
  refine Rj_vov (q := 33) (z := y_M_passWord) (as := []) (rest := []) (la := [vA 0]) oM_0_M_passWord ml_M_125 mw_M_passWord mv_M_passWord rfl d_M_isJoinHere_30 rfl rfl rfl rfl rfl ?_
  refine s_M_passWord (μ := μ) (A := (μ 1)) (n := (μ 0 1)) (k := μ 0 13) hX rfl rfl rfl (by omega) ?_
  have r30 := lend_bd (μ 1) (n := (μ 0 1)) (k := μ 0 13) (by omega)
  refine Rj_iconst (q := 34) d_M_isJoinHere_33 rfl ?_
  refine Rj_aload_n (q := 35) d_M_isJoinHere_34 rfl rfl rfl ?_
  refine Rj_gi (q := 38) (ki := 8) (v := μ 0 8) gM_M_233_0 rfl rfl rfl d_M_isJoinHere_35 rfl ?_
  refine Rj_imul (q := 39) d_M_isJoinHere_38 rfl ?_
  refine Rj_istore_n (q := 40) (ls' := [vA 0, vI sort, vI (μ 0 13), vI (3 * (μ 0 8))]) d_M_isJoinHere_39 rfl rfl (by decide) rfl ?_
  refine Rj_aload_n (q := 41) d_M_isJoinHere_40 rfl rfl rfl ?_
  refine Rj_iconst (q := 42) d_M_isJoinHere_41 rfl ?_
  refine Rj_aload_n (q := 43) d_M_isJoinHere_42 rfl rfl rfl ?_
  refine Rj_gi (q := 46) (ki := 7) (v := μ 0 7) gM_M_230_0 rfl rfl rfl d_M_isJoinHere_43 rfl ?_
  refine Rj_iconst (q := 47) d_M_isJoinHere_46 rfl ?_
  refine Rj_isub (q := 48) d_M_isJoinHere_47 rfl ?_
  refine Rj_vo (q := 51) (z := y_M_numberHere) (as := [vI 0, vI ((μ 0 7) - 1)]) (rest := []) (la := [vA 0, vI 0, vI ((μ 0 7) - 1)]) oM_0_M_numberHere ml_M_179 mw_M_numberHere mv_M_numberHere rfl d_M_isJoinHere_48 rfl rfl rfl rfl rfl ?_
  refine s_M_numberHere (μ := (mset μ 0 13 (lend (μ 1) (μ 0 1) (μ 0 13)))) (A := (μ 1)) (n := (μ 0 1)) (k := lend (μ 1) (μ 0 1) (μ 0 13)) hX rfl rfl rfl (by omega) hw0 ⟨(by decide), ⟨by omega, by omega⟩⟩ (fun e48 v48 q48 b48 d48 => ?_) (fun w48 m48 q48 f48 g48 => ?_)
  · have r48 := sk_bd (μ 1) (n := (μ 0 1)) (k := lend (μ 1) (μ 0 1) (μ 0 13)) (by omega)
    refine Rj_if_ne (q := 54) (t := 56) d_M_isJoinHere_51 rfl (by decide) (by decide) (fun _ => ?_) (fun c => absurd c (by decide))
    refine Rj_aload_n (q := 57) d_M_isJoinHere_56 rfl rfl rfl ?_
    refine Rj_gr (q := 60) (zd := 7) gM_M_29_0 rfl rfl d_M_isJoinHere_57 rfl ?_
    refine Rj_iload_n (q := 61) d_M_isJoinHere_60 rfl rfl rfl ?_
    refine Rj_aload_n (q := 62) d_M_isJoinHere_61 rfl rfl rfl ?_
    refine Rj_gi (q := 65) (ki := 15) (v := v48) gM_M_135_0 rfl rfl rfl d_M_isJoinHere_62 rfl ?_
    refine Rj_is (q := 66) aM_7 rfl (by omega) d_M_isJoinHere_65 rfl ?_
    refine Rj_aload_n (q := 67) d_M_isJoinHere_66 rfl rfl rfl ?_
    refine Rj_vo (q := 70) (z := y_M_see) (as := []) (rest := []) (la := [vA 0]) oM_0_M_see ml_M_113 mw_M_see mv_M_see rfl d_M_isJoinHere_67 rfl rfl rfl rfl rfl ?_
    refine s_M_see (μ := (mset (mset (mset (mset μ 0 13 (lend (μ 1) (μ 0 1) (μ 0 13))) 0 13 e48) 0 15 v48) 7 (3 * (μ 0 8)) v48)) (A := (μ 1)) (n := (μ 0 1)) (k := e48) hX rfl rfl rfl (by omega) ?_
    have r67 := sk_bd (μ 1) (n := (μ 0 1)) (k := e48) (by omega)
    refine Rj_pop (q := 71) d_M_isJoinHere_70 rfl (by intro h; cases h) ?_
    refine Rj_aload_n (q := 72) d_M_isJoinHere_71 rfl rfl rfl ?_
    refine Rj_gi (q := 75) (ki := 13) (v := sk (μ 1) (μ 0 1) e48) gM_M_110_0 rfl rfl rfl d_M_isJoinHere_72 rfl ?_
    refine Rj_istore (q := 77) (ls' := [vA 0, vI sort, vI (μ 0 13), vI (3 * (μ 0 8)), vI (sk (μ 1) (μ 0 1) e48)]) d_M_isJoinHere_75 rfl (by decide) rfl ?_
    refine Rj_aload_n (q := 78) d_M_isJoinHere_77 rfl rfl rfl ?_
    refine Rj_iconst (q := 79) d_M_isJoinHere_78 rfl ?_
    refine Rj_aload_n (q := 80) d_M_isJoinHere_79 rfl rfl rfl ?_
    refine Rj_gi (q := 83) (ki := 7) (v := μ 0 7) gM_M_230_0 rfl rfl rfl d_M_isJoinHere_80 rfl ?_
    refine Rj_iconst (q := 84) d_M_isJoinHere_83 rfl ?_
    refine Rj_isub (q := 85) d_M_isJoinHere_84 rfl ?_
    refine Rj_vo (q := 88) (z := y_M_numberHere) (as := [vI 0, vI ((μ 0 7) - 1)]) (rest := []) (la := [vA 0, vI 0, vI ((μ 0 7) - 1)]) oM_0_M_numberHere ml_M_179 mw_M_numberHere mv_M_numberHere rfl d_M_isJoinHere_85 rfl rfl rfl rfl rfl ?_
    refine s_M_numberHere (μ := (mset (mset (mset (mset (mset μ 0 13 (lend (μ 1) (μ 0 1) (μ 0 13))) 0 13 e48) 0 15 v48) 7 (3 * (μ 0 8)) v48) 0 13 (sk (μ 1) (μ 0 1) e48))) (A := (μ 1)) (n := (μ 0 1)) (k := sk (μ 1) (μ 0 1) e48) hX rfl rfl rfl (by omega) hw0 ⟨(by decide), ⟨by omega, by omega⟩⟩ (fun e85 v85 q85 b85 d85 => ?_) (fun w85 m85 q85 f85 g85 => ?_)
    · have r85 := sk_bd (μ 1) (n := (μ 0 1)) (k := sk (μ 1) (μ 0 1) e48) (by omega)
      rw [pNum_sk] at q85
      refine Rj_if_ne (q := 91) (t := 93) d_M_isJoinHere_88 rfl (by decide) (by decide) (fun _ => ?_) (fun c => absurd c (by decide))
      refine Rj_aload_n (q := 94) d_M_isJoinHere_93 rfl rfl rfl ?_
      refine Rj_gi (q := 97) (ki := 15) (v := v85) gM_M_135_0 rfl rfl rfl d_M_isJoinHere_94 rfl ?_
      refine Rj_aload_n (q := 98) d_M_isJoinHere_97 rfl rfl rfl ?_
      refine Rj_gr (q := 101) (zd := 7) gM_M_29_0 rfl rfl d_M_isJoinHere_98 rfl ?_
      refine Rj_iload_n (q := 102) d_M_isJoinHere_101 rfl rfl rfl ?_
      refine Rj_ia (q := 103) (v := v48) aM_7 rfl (by omega) (by simp [mset]) d_M_isJoinHere_102 rfl ?_
      refine Rj_icmp_ne (q := 106) (t := 114) d_M_isJoinHere_103 rfl (by decide) ⟨by omega, by omega⟩ ⟨by omega, by omega⟩ (fun c103 => ?_) (fun c103 => ?_)
      · refine Rj_aload_n (q := 115) d_M_isJoinHere_114 rfl rfl rfl ?_
        refine Rj_gr (q := 118) (zd := 7) gM_M_29_0 rfl rfl d_M_isJoinHere_115 rfl ?_
        refine Rj_iload_n (q := 119) d_M_isJoinHere_118 rfl rfl rfl ?_
        refine Rj_iconst (q := 120) d_M_isJoinHere_119 rfl ?_
        refine Rj_iadd (q := 121) d_M_isJoinHere_120 rfl ?_
        refine Rj_aload_n (q := 122) d_M_isJoinHere_121 rfl rfl rfl ?_
        refine Rj_gi (q := 125) (ki := 15) (v := v85) gM_M_135_0 rfl rfl rfl d_M_isJoinHere_122 rfl ?_
        refine Rj_is (q := 126) aM_7 rfl (by omega) d_M_isJoinHere_125 rfl ?_
        refine Rj_aload_n (q := 127) d_M_isJoinHere_126 rfl rfl rfl ?_
        refine Rj_gr (q := 130) (zd := 7) gM_M_29_0 rfl rfl d_M_isJoinHere_127 rfl ?_
        refine Rj_iload_n (q := 131) d_M_isJoinHere_130 rfl rfl rfl ?_
        refine Rj_iconst (q := 132) d_M_isJoinHere_131 rfl ?_
        refine Rj_iadd (q := 133) d_M_isJoinHere_132 rfl ?_
        refine Rj_iload_n (q := 134) d_M_isJoinHere_133 rfl rfl rfl ?_
        refine Rj_is (q := 135) aM_7 rfl (by omega) d_M_isJoinHere_134 rfl ?_
        refine Rj_aload_n (q := 136) d_M_isJoinHere_135 rfl rfl rfl ?_
        refine Rj_dup (q := 137) d_M_isJoinHere_136 rfl (by intro h; cases h) ?_
        refine Rj_gi (q := 140) (ki := 9) (v := μ 0 9) gM_M_236_0 rfl rfl rfl d_M_isJoinHere_137 rfl ?_
        refine Rj_iload_n (q := 141) d_M_isJoinHere_140 rfl rfl rfl ?_
        refine Rj_iconst (q := 142) d_M_isJoinHere_141 rfl ?_
        refine Rj_icmp_ne (q := 145) (t := 149) d_M_isJoinHere_142 rfl (by decide) ⟨by omega, by omega⟩ (by decide) (fun c142 => ?_) (fun c142 => ?_)
        · refine Rj_iconst (q := 150) d_M_isJoinHere_149 rfl ?_
          refine Rj_iadd (q := 151) d_M_isJoinHere_150 rfl ?_
          refine Rj_pi (q := 154) (ki := 9) pM_M_236_0 rfl rfl d_M_isJoinHere_151 rfl ?_
          refine Rj_aload_n (q := 155) d_M_isJoinHere_154 rfl rfl rfl ?_
          refine Rj_dup (q := 156) d_M_isJoinHere_155 rfl (by intro h; cases h) ?_
          refine Rj_gi (q := 159) (ki := 8) (v := μ 0 8) gM_M_233_0 rfl rfl rfl d_M_isJoinHere_156 rfl ?_
          refine Rj_iconst (q := 160) d_M_isJoinHere_159 rfl ?_
          refine Rj_iadd (q := 161) d_M_isJoinHere_160 rfl ?_
          refine Rj_pi (q := 164) (ki := 8) pM_M_233_0 rfl rfl d_M_isJoinHere_161 rfl ?_
          refine Rj_iconst (q := 165) d_M_isJoinHere_164 rfl ?_
          refine Rj_bret1 d_M_isJoinHere_165 rfl ?_
          refine h1 _ ?_ (Fr.put (Fr.put (Fr.put (Fr.put (Fr.put (Fr.put (Fr.put (Fr.put (Fr.put (Fr.put (Fr.put (Fr.refl _ _) (by decide)) (by decide)) (by decide)) (by simp [Wst])) (by decide)) (by decide)) (by decide)) (by simp [Wst])) (by simp [Wst])) (by decide)) (by decide)) hw0
          unfold stJoin
          simp only [srOf, if_neg hne, q48, q85, if_neg c103]
          simp [c142, mset_fs, mset_nc, mset]
        · refine Rj_iconst (q := 146) d_M_isJoinHere_145 rfl ?_
          refine Rj_goto (t := 150) d_M_isJoinHere_146 (by decide) ?_
          refine Rj_iadd (q := 151) d_M_isJoinHere_150 rfl ?_
          refine Rj_pi (q := 154) (ki := 9) pM_M_236_0 rfl rfl d_M_isJoinHere_151 rfl ?_
          refine Rj_aload_n (q := 155) d_M_isJoinHere_154 rfl rfl rfl ?_
          refine Rj_dup (q := 156) d_M_isJoinHere_155 rfl (by intro h; cases h) ?_
          refine Rj_gi (q := 159) (ki := 8) (v := μ 0 8) gM_M_233_0 rfl rfl rfl d_M_isJoinHere_156 rfl ?_
          refine Rj_iconst (q := 160) d_M_isJoinHere_159 rfl ?_
          refine Rj_iadd (q := 161) d_M_isJoinHere_160 rfl ?_
          refine Rj_pi (q := 164) (ki := 8) pM_M_233_0 rfl rfl d_M_isJoinHere_161 rfl ?_
          refine Rj_iconst (q := 165) d_M_isJoinHere_164 rfl ?_
          refine Rj_bret1 d_M_isJoinHere_165 rfl ?_
          refine h1 _ ?_ (Fr.put (Fr.put (Fr.put (Fr.put (Fr.put (Fr.put (Fr.put (Fr.put (Fr.put (Fr.put (Fr.put (Fr.refl _ _) (by decide)) (by decide)) (by decide)) (by simp [Wst])) (by decide)) (by decide)) (by decide)) (by simp [Wst])) (by simp [Wst])) (by decide)) (by decide)) hw0
          unfold stJoin
          simp only [srOf, if_neg hne, q48, q85, if_neg c103]
          simp [c142, mset_fs, mset_nc, mset]
      · refine Rj_aload_n (q := 107) d_M_isJoinHere_106 rfl rfl rfl ?_
        refine Rj_iconst (q := 108) d_M_isJoinHere_107 rfl ?_
        refine Rj_iload (q := 110) d_M_isJoinHere_108 rfl rfl ?_
        refine Rj_vo (q := 113) (z := y_M_fails) (as := [vI 1, vI (sk (μ 1) (μ 0 1) e48)]) (rest := []) (la := [vA 0, vI 1, vI (sk (μ 1) (μ 0 1) e48)]) oM_0_M_fails ml_M_131 mw_M_fails mv_M_fails rfl d_M_isJoinHere_110 rfl rfl rfl rfl rfl ?_
        refine s_M_fails hw0 ?_
        refine Rj_bret0 d_M_isJoinHere_113 rfl ?_
        refine h2 _ _ ?_ (Fr.put (Fr.put (Fr.put (Fr.put (Fr.put (Fr.put (Fr.put (Fr.put (Fr.refl _ _) (by decide)) (by decide)) (by decide)) (by simp [Wst])) (by decide)) (by decide)) (by decide)) (by decide)) (mset_same _ _ _ _)
        unfold stJoin
        simp only [srOf, if_neg hne, q48, q85, if_pos c103]
    · have z85 := True.intro
      rw [pNum_sk] at q85
      refine Rj_if_ne (q := 91) (t := 93) d_M_isJoinHere_88 rfl (by decide) (by decide) (fun c => absurd c (by decide)) (fun _ => ?_)
      refine Rj_iconst (q := 92) d_M_isJoinHere_91 rfl ?_
      refine Rj_bret0 d_M_isJoinHere_92 rfl ?_
      refine h2 _ _ ?_ (Fr.trans (Fr.put (Fr.put (Fr.put (Fr.put (Fr.put (Fr.refl _ _) (by decide)) (by decide)) (by decide)) (by simp [Wst])) (by decide)) (Fr.wide f85 wd_num_st)) g85
      unfold stJoin
      simp only [srOf, if_neg hne, q48, q85]
  · have z48 := True.intro
    refine Rj_if_ne (q := 54) (t := 56) d_M_isJoinHere_51 rfl (by decide) (by decide) (fun c => absurd c (by decide)) (fun _ => ?_)
    refine Rj_iconst (q := 55) d_M_isJoinHere_54 rfl ?_
    refine Rj_bret0 d_M_isJoinHere_55 rfl ?_
    refine h2 _ _ ?_ (Fr.trans (Fr.put (Fr.refl _ _) (by decide)) (Fr.wide f48 wd_num_st)) g48
    unfold stJoin
    simp only [srOf, if_neg hne, q48]
set_option maxHeartbeats 4000000 in
theorem s_M_isJoinHere {μ : Mem} {Q : PV → Mem → Prop} (hX : TX (μ 1) (μ 0 1)) (h0 : 0 ≤ μ 0 13 ∧ μ 0 13 ≤ μ 0 1) (hw0 : μ 0 14 = 0) (hD : 0 ≤ μ 0 7 ∧ μ 0 7 ≤ 12) (hJ : 0 ≤ μ 0 8 ∧ μ 0 8 ≤ 16) (hXX : 0 ≤ μ 0 9 ∧ μ 0 9 ≤ 3) {sort : Int} (hs : 0 ≤ sort ∧ sort ≤ 2) (hk : sk (μ 1) (μ 0 1) (μ 0 13) = μ 0 13) (h1 : ∀ μ', stJoin (μ 1) (μ 0 1) (μ 0 13) sort (srOf μ) = .ok (srOf μ') → Fr Wst μ μ' → μ' 0 14 = 0 → Q (vI 1) μ') (h2 : ∀ wr μ', stJoin (μ 1) (μ 0 1) (μ 0 13) sort (srOf μ) = .error wr → Fr Wst μ μ' → μ' 0 14 = wr → Q (vI 0) μ') : Rj YM y_M_isJoinHere 0 [vA 0, vI sort, vI (μ 0 13)] [] μ Q := by
  obtain ⟨hX1, hX2⟩ := id hX
  refine Rj_aload_n (q := 1) d_M_isJoinHere_0 rfl rfl rfl ?_
  refine Rj_gi (q := 4) (ki := 8) (v := μ 0 8) gM_M_233_0 rfl rfl rfl d_M_isJoinHere_1 rfl ?_
  refine Rj_bipush (q := 6) d_M_isJoinHere_4 rfl (by decide +kernel) ?_
  refine Rj_icmp_eq (q := 9) (t := 22) d_M_isJoinHere_6 rfl (by decide) ⟨by omega, by omega⟩ (by decide) (fun c6 => ?_) (fun c6 => ?_)
  · refine Rj_aload_n (q := 23) d_M_isJoinHere_22 rfl rfl rfl ?_
    refine Rj_iconst (q := 24) d_M_isJoinHere_23 rfl ?_
    refine Rj_iload_n (q := 25) d_M_isJoinHere_24 rfl rfl rfl ?_
    refine Rj_vo (q := 28) (z := y_M_fails) (as := [vI 4, vI (μ 0 13)]) (rest := []) (la := [vA 0, vI 4, vI (μ 0 13)]) oM_0_M_fails ml_M_131 mw_M_fails mv_M_fails rfl d_M_isJoinHere_25 rfl rfl rfl rfl rfl ?_
    refine s_M_fails hw0 ?_
    refine Rj_bret0 d_M_isJoinHere_28 rfl ?_
    refine h2 _ _ ?_ (Fr.put (Fr.refl _ _) (by decide)) (mset_same _ _ _ _)
    unfold stJoin
    exact if_pos (show μ 0 8 = 16 ∨ (sort = 2 ∧ μ 0 9 = 3) by omega)
  · refine Rj_iload_n (q := 10) d_M_isJoinHere_9 rfl rfl rfl ?_
    refine Rj_iconst (q := 11) d_M_isJoinHere_10 rfl ?_
    refine Rj_icmp_ne (q := 14) (t := 29) d_M_isJoinHere_11 rfl (by decide) ⟨by omega, by omega⟩ (by decide) (fun c11 => ?_) (fun c11 => ?_)
    · exact s_M_isJoinHere_29 hX h0 hw0 hD hJ hXX hs hk (by omega) h1 h2
    · refine Rj_aload_n (q := 15) d_M_isJoinHere_14 rfl rfl rfl ?_
      refine Rj_gi (q := 18) (ki := 9) (v := μ 0 9) gM_M_236_0 rfl rfl rfl d_M_isJoinHere_15 rfl ?_
      refine Rj_iconst (q := 19) d_M_isJoinHere_18 rfl ?_
      refine Rj_icmp_ne (q := 22) (t := 29) d_M_isJoinHere_19 rfl (by decide) ⟨by omega, by omega⟩ (by decide) (fun c19 => ?_) (fun c19 => ?_)
      · exact s_M_isJoinHere_29 hX h0 hw0 hD hJ hXX hs hk (by omega) h1 h2
      · refine Rj_aload_n (q := 23) d_M_isJoinHere_22 rfl rfl rfl ?_
        refine Rj_iconst (q := 24) d_M_isJoinHere_23 rfl ?_
        refine Rj_iload_n (q := 25) d_M_isJoinHere_24 rfl rfl rfl ?_
        refine Rj_vo (q := 28) (z := y_M_fails) (as := [vI 4, vI (μ 0 13)]) (rest := []) (la := [vA 0, vI 4, vI (μ 0 13)]) oM_0_M_fails ml_M_131 mw_M_fails mv_M_fails rfl d_M_isJoinHere_25 rfl rfl rfl rfl rfl ?_
        refine s_M_fails hw0 ?_
        refine Rj_bret0 d_M_isJoinHere_28 rfl ?_
        refine h2 _ _ ?_ (Fr.put (Fr.refl _ _) (by decide)) (mset_same _ _ _ _)
        unfold stJoin
        exact if_pos (show μ 0 8 = 16 ∨ (sort = 2 ∧ μ 0 9 = 3) by omega)
set_option maxHeartbeats 4000000 in
theorem s_M_joinSort {μ : Mem} {Q : PV → Mem → Prop} (hX : TX (μ 1) (μ 0 1)) (h0 : 0 ≤ μ 0 13 ∧ μ 0 13 ≤ μ 0 1) (hk : sk (μ 1) (μ 0 1) (μ 0 13) = μ 0 13) (hQ : Q (vI (stSort (μ 1) (μ 0 1) (μ 0 13))) μ) : Rj YM y_M_joinSort 0 [vA 0] [] μ Q := by
  refine Rj_aload_n (q := 1) d_M_joinSort_0 rfl rfl rfl ?_
  refine Rj_ldc2 (q := 4) k_M_242 d_M_joinSort_1 rfl ?_
  refine Rj_vo (q := 7) (z := y_M_isWord) (as := [vL 1835365224]) (rest := []) (la := [vA 0, vL 1835365224, vU]) oM_0_M_isWord ml_M_121 mw_M_isWord mv_M_isWord rfl d_M_joinSort_4 rfl rfl rfl rfl rfl ?_
  refine s_M_isWord (μ := μ) (A := (μ 1)) (n := (μ 0 1)) (k := μ 0 13) hX rfl rfl rfl (by omega) (by decide) ?_
  rw [hk]
  refine Rj_eqm (μ' := μ) (mset_idv rfl) ?_
  refine Rj_b_eq (q := 10) (t := 14) d_M_joinSort_7 rfl (by decide) (fun c7 => ?_) (fun c7 => ?_)
  · refine Rj_aload_n (q := 15) d_M_joinSort_14 rfl rfl rfl ?_
    refine Rj_ldc2 (q := 18) k_M_244 d_M_joinSort_15 rfl ?_
    refine Rj_vo (q := 21) (z := y_M_isWord) (as := [vL 1650814068]) (rest := []) (la := [vA 0, vL 1650814068, vU]) oM_0_M_isWord ml_M_121 mw_M_isWord mv_M_isWord rfl d_M_joinSort_18 rfl rfl rfl rfl rfl ?_
    refine s_M_isWord (μ := μ) (A := (μ 1)) (n := (μ 0 1)) (k := μ 0 13) hX rfl rfl rfl (by omega) (by decide) ?_
    rw [hk]
    refine Rj_eqm (μ' := μ) (mset_idv rfl) ?_
    refine Rj_b_eq (q := 24) (t := 28) d_M_joinSort_21 rfl (by decide) (fun c21 => ?_) (fun c21 => ?_)
    · refine Rj_aload_n (q := 29) d_M_joinSort_28 rfl rfl rfl ?_
      refine Rj_ldc2 (q := 32) k_M_246 d_M_joinSort_29 rfl ?_
      refine Rj_vo (q := 35) (z := y_M_isWord) (as := [vL 1635282021]) (rest := []) (la := [vA 0, vL 1635282021, vU]) oM_0_M_isWord ml_M_121 mw_M_isWord mv_M_isWord rfl d_M_joinSort_32 rfl rfl rfl rfl rfl ?_
      refine s_M_isWord (μ := μ) (A := (μ 1)) (n := (μ 0 1)) (k := μ 0 13) hX rfl rfl rfl (by omega) (by decide) ?_
      rw [hk]
      refine Rj_eqm (μ' := μ) (mset_idv rfl) ?_
      refine Rj_b_eq (q := 38) (t := 42) d_M_joinSort_35 rfl (by decide) (fun c35 => ?_) (fun c35 => ?_)
      · refine Rj_iconst (q := 43) d_M_joinSort_42 rfl ?_
        refine Rj_iret d_M_joinSort_43 rfl ?_
        exact fin_I hQ (by unfold stSort; simp [*])
      · refine Rj_iconst (q := 39) d_M_joinSort_38 rfl ?_
        refine Rj_goto (t := 43) d_M_joinSort_39 (by decide) ?_
        refine Rj_iret d_M_joinSort_43 rfl ?_
        exact fin_I hQ (by unfold stSort; simp [*])
    · refine Rj_iconst (q := 25) d_M_joinSort_24 rfl ?_
      refine Rj_goto (t := 43) d_M_joinSort_25 (by decide) ?_
      refine Rj_iret d_M_joinSort_43 rfl ?_
      exact fin_I hQ (by unfold stSort; simp [*])
  · refine Rj_iconst (q := 11) d_M_joinSort_10 rfl ?_
    refine Rj_goto (t := 43) d_M_joinSort_11 (by decide) ?_
    refine Rj_iret d_M_joinSort_43 rfl ?_
    exact fin_I hQ (by unfold stSort; simp [*])
set_option maxHeartbeats 4000000 in
theorem s_M_clauseSt_83 {μ : Mem} {Q : PV → Mem → Prop} (hX : TX (μ 1) (μ 0 1)) (h0 : 0 ≤ μ 0 13 ∧ μ 0 13 ≤ μ 0 1) (hw0 : μ 0 14 = 0) (hD : 0 ≤ μ 0 7 ∧ μ 0 7 ≤ 12) (hJ : 0 ≤ μ 0 8 ∧ μ 0 8 ≤ 16) (hXX : 0 ≤ μ 0 9 ∧ μ 0 9 ≤ 3) (hL : 0 ≤ μ 0 19 ∧ μ 0 19 ≤ 32) (hk : sk (μ 1) (μ 0 1) (μ 0 13) = μ 0 13) (his : wat (μ 1) (μ 0 1) (μ 0 13) 1685024626 = true ∨ wat (μ 1) (μ 0 1) (μ 0 13) 439856162148 = true ∨ 0 ≤ stSort (μ 1) (μ 0 1) (μ 0 13)) (h1 : ∀ μ', stCl2 (μ 1) (μ 0 1) (srOf μ) = .ok (srOf μ') → Fr Wst μ μ' → μ' 0 14 = 0 → Q (vI 1) μ') (h2 : ∀ wr μ', stCl2 (μ 1) (μ 0 1) (srOf μ) = .error wr → Fr Wst μ μ' → μ' 0 14 = wr → Q (vI 0) μ') : Rj YM y_M_clauseHere 83 [vA 0, vI (μ 0 13), vI 1, vI 1] [] μ Q := by
  obtain ⟨hX1, hX2⟩ := id hX
  refine Rj_aload_n (q := 84) d_M_clauseHere_83 rfl rfl rfl ?_
  refine Rj_gi (q := 87) (ki := 19) (v := μ 0 19) gM_M_255_0 rfl rfl rfl d_M_clauseHere_84 rfl ?_
  refine Rj_iload_n (q := 88) d_M_clauseHere_87 rfl rfl rfl ?_
  refine Rj_if_eq (q := 91) (t := 96) d_M_clauseHere_88 rfl (by decide) (by decide) (fun c => absurd c (by decide)) (fun _ => ?_)
  refine Rj_bipush (q := 93) d_M_clauseHere_91 rfl (by decide +kernel) ?_
  refine Rj_goto (t := 98) d_M_clauseHere_93 (by decide) ?_
  refine Rj_icmp_ne (q := 101) (t := 108) d_M_clauseHere_98 rfl (by decide) ⟨by omega, by omega⟩ (by decide) (fun c98 => ?_) (fun c98 => ?_)
  · refine Rj_aload_n (q := 109) d_M_clauseHere_108 rfl rfl rfl ?_
    refine Rj_dup (q := 110) d_M_clauseHere_109 rfl (by intro h; cases h) ?_
    refine Rj_gi (q := 113) (ki := 19) (v := μ 0 19) gM_M_255_0 rfl rfl rfl d_M_clauseHere_110 rfl ?_
    refine Rj_iconst (q := 114) d_M_clauseHere_113 rfl ?_
    refine Rj_iadd (q := 115) d_M_clauseHere_114 rfl ?_
    refine Rj_pi (q := 118) (ki := 19) pM_M_255_0 rfl rfl d_M_clauseHere_115 rfl ?_
    refine Rj_iload_n (q := 119) d_M_clauseHere_118 rfl rfl rfl ?_
    refine Rj_if_ne (q := 122) (t := 127) d_M_clauseHere_119 rfl (by decide) (by decide) (fun _ => ?_) (fun c => absurd c (by decide))
    refine Rj_aload_n (q := 128) d_M_clauseHere_127 rfl rfl rfl ?_
    refine Rj_ldc2 (q := 131) k_M_142 d_M_clauseHere_128 rfl ?_
    refine Rj_vo (q := 134) (z := y_M_isWord) (as := [vL 1685024626]) (rest := []) (la := [vA 0, vL 1685024626, vU]) oM_0_M_isWord ml_M_121 mw_M_isWord mv_M_isWord rfl d_M_clauseHere_131 rfl rfl rfl rfl rfl ?_
    refine s_M_isWord (μ := (mset μ 0 19 ((μ 0 19) + 1))) (A := (μ 1)) (n := (μ 0 1)) (k := μ 0 13) hX rfl rfl rfl (by omega) (by decide) ?_
    rw [hk]
    refine Rj_eqm (μ' := (mset μ 0 19 ((μ 0 19) + 1))) (mset_idv rfl) ?_
    refine Rj_b_eq (q := 137) (t := 145) d_M_clauseHere_134 rfl (by decide) (fun c134 => ?_) (fun c134 => ?_)
    · refine Rj_aload_n (q := 146) d_M_clauseHere_145 rfl rfl rfl ?_
      refine Rj_ldc2 (q := 149) k_M_248 d_M_clauseHere_146 rfl ?_
      refine Rj_vo (q := 152) (z := y_M_isWord) (as := [vL 439856162148]) (rest := []) (la := [vA 0, vL 439856162148, vU]) oM_0_M_isWord ml_M_121 mw_M_isWord mv_M_isWord rfl d_M_clauseHere_149 rfl rfl rfl rfl rfl ?_
      refine s_M_isWord (μ := (mset μ 0 19 ((μ 0 19) + 1))) (A := (μ 1)) (n := (μ 0 1)) (k := μ 0 13) hX rfl rfl rfl (by omega) (by decide) ?_
      rw [hk]
      refine Rj_eqm (μ' := (mset μ 0 19 ((μ 0 19) + 1))) (mset_idv rfl) ?_
      refine Rj_b_eq (q := 155) (t := 162) d_M_clauseHere_152 rfl (by decide) (fun c152 => ?_) (fun c152 => ?_)
      · refine Rj_aload_n (q := 163) d_M_clauseHere_162 rfl rfl rfl ?_
        refine Rj_aload_n (q := 164) d_M_clauseHere_163 rfl rfl rfl ?_
        refine Rj_vo (q := 167) (z := y_M_joinSort) (as := []) (rest := [vA 0]) (la := [vA 0]) oM_0_M_joinSort ml_M_250 mw_M_joinSort mv_M_joinSort rfl d_M_clauseHere_164 rfl rfl rfl rfl rfl ?_
        refine s_M_joinSort (μ := (mset μ 0 19 ((μ 0 19) + 1))) hX (show 0 ≤ μ 0 13 ∧ μ 0 13 ≤ μ 0 1 by omega) hk ?_
        refine Rj_iload_n (q := 168) d_M_clauseHere_167 rfl rfl rfl ?_
        refine Rj_vo (q := 171) (z := y_M_isJoinHere) (as := [vI (stSort (μ 1) (μ 0 1) (μ 0 13)), vI (μ 0 13)]) (rest := []) (la := [vA 0, vI (stSort (μ 1) (μ 0 1) (μ 0 13)), vI (μ 0 13)]) oM_0_M_isJoinHere ml_M_267 mw_M_isJoinHere mv_M_isJoinHere rfl d_M_clauseHere_168 rfl rfl rfl rfl rfl ?_
        refine s_M_isJoinHere (μ := (mset μ 0 19 ((μ 0 19) + 1))) hX h0 hw0 hD hJ hXX (by have h3 : stSort (μ 1) (μ 0 1) (μ 0 13) ≤ 2 := (by unfold stSort; (repeat' split) <;> decide); have h4 : 0 ≤ stSort (μ 1) (μ 0 1) (μ 0 13) := (by simpa [c134, c152] using his); exact ⟨h4, h3⟩) hk (fun m168 q168 f168 g168 => ?_) (fun w168 m168 q168 f168 g168 => ?_)
        · have z168 := True.intro
          refine Rj_bret1 d_M_clauseHere_171 rfl ?_
          refine h1 _ ?_ (Fr.trans (Fr.put (Fr.refl _ _) (by decide)) f168) g168
          unfold stCl2
          exact ((if_neg c98).trans ((if_neg (by rw [show (srOf μ).1 = μ 0 13 from rfl, c134]; decide)).trans (if_neg (by rw [show (srOf μ).1 = μ 0 13 from rfl, c152]; decide)))).trans q168
        · have z168 := True.intro
          refine Rj_bret0 d_M_clauseHere_171 rfl ?_
          refine h2 _ _ ?_ (Fr.trans (Fr.put (Fr.refl _ _) (by decide)) f168) g168
          unfold stCl2
          exact ((if_neg c98).trans ((if_neg (by rw [show (srOf μ).1 = μ 0 13 from rfl, c134]; decide)).trans (if_neg (by rw [show (srOf μ).1 = μ 0 13 from rfl, c152]; decide)))).trans q168
      · refine Rj_aload_n (q := 156) d_M_clauseHere_155 rfl rfl rfl ?_
        refine Rj_vo (q := 159) (z := y_M_isFixedHere) (as := []) (rest := []) (la := [vA 0]) oM_0_M_isFixedHere ml_M_264 mw_M_isFixedHere mv_M_isFixedHere rfl d_M_clauseHere_156 rfl rfl rfl rfl rfl ?_
        refine s_M_isFixedHere (μ := (mset μ 0 19 ((μ 0 19) + 1))) hX h0 hw0 hD hJ hXX hk (fun m156 q156 f156 g156 => ?_) (fun w156 m156 q156 f156 g156 => ?_)
        · have z156 := True.intro
          refine Rj_goto (t := 171) d_M_clauseHere_159 (by decide) ?_
          refine Rj_bret1 d_M_clauseHere_171 rfl ?_
          refine h1 _ ?_ (Fr.trans (Fr.put (Fr.refl _ _) (by decide)) f156) g156
          unfold stCl2
          exact ((if_neg c98).trans ((if_neg (by rw [show (srOf μ).1 = μ 0 13 from rfl, c134]; decide)).trans (if_pos c152))).trans q156
        · have z156 := True.intro
          refine Rj_goto (t := 171) d_M_clauseHere_159 (by decide) ?_
          refine Rj_bret0 d_M_clauseHere_171 rfl ?_
          refine h2 _ _ ?_ (Fr.trans (Fr.put (Fr.refl _ _) (by decide)) f156) g156
          unfold stCl2
          exact ((if_neg c98).trans ((if_neg (by rw [show (srOf μ).1 = μ 0 13 from rfl, c134]; decide)).trans (if_pos c152))).trans q156
    · refine Rj_aload_n (q := 138) d_M_clauseHere_137 rfl rfl rfl ?_
      refine Rj_iload_n (q := 139) d_M_clauseHere_138 rfl rfl rfl ?_
      refine Rj_vo (q := 142) (z := y_M_isDoorHere) (as := [vI (μ 0 13)]) (rest := []) (la := [vA 0, vI (μ 0 13)]) oM_0_M_isDoorHere ml_M_261 mw_M_isDoorHere mv_M_isDoorHere rfl d_M_clauseHere_139 rfl rfl rfl rfl rfl ?_
      refine s_M_isDoorHere (μ := (mset μ 0 19 ((μ 0 19) + 1))) hX h0 hw0 hD hJ hXX hk (fun m139 q139 f139 g139 => ?_) (fun w139 m139 q139 f139 g139 => ?_)
      · have z139 := True.intro
        refine Rj_goto (t := 171) d_M_clauseHere_142 (by decide) ?_
        refine Rj_bret1 d_M_clauseHere_171 rfl ?_
        refine h1 _ ?_ (Fr.trans (Fr.put (Fr.refl _ _) (by decide)) f139) g139
        unfold stCl2
        exact ((if_neg c98).trans (if_pos c134)).trans q139
      · have z139 := True.intro
        refine Rj_goto (t := 171) d_M_clauseHere_142 (by decide) ?_
        refine Rj_bret0 d_M_clauseHere_171 rfl ?_
        refine h2 _ _ ?_ (Fr.trans (Fr.put (Fr.refl _ _) (by decide)) f139) g139
        unfold stCl2
        exact ((if_neg c98).trans (if_pos c134)).trans q139
  · refine Rj_aload_n (q := 102) d_M_clauseHere_101 rfl rfl rfl ?_
    refine Rj_iconst (q := 103) d_M_clauseHere_102 rfl ?_
    refine Rj_iload_n (q := 104) d_M_clauseHere_103 rfl rfl rfl ?_
    refine Rj_vo (q := 107) (z := y_M_fails) (as := [vI 4, vI (μ 0 13)]) (rest := []) (la := [vA 0, vI 4, vI (μ 0 13)]) oM_0_M_fails ml_M_131 mw_M_fails mv_M_fails rfl d_M_clauseHere_104 rfl rfl rfl rfl rfl ?_
    refine s_M_fails hw0 ?_
    refine Rj_bret0 d_M_clauseHere_107 rfl ?_
    refine h2 _ _ ?_ (Fr.put (Fr.refl _ _) (by decide)) (mset_same _ _ _ _)
    unfold stCl2
    exact if_pos c98
set_option maxHeartbeats 4000000 in
theorem s_M_clauseSt {μ : Mem} {Q : PV → Mem → Prop} (hX : TX (μ 1) (μ 0 1)) (h0 : 0 ≤ μ 0 13 ∧ μ 0 13 ≤ μ 0 1) (hw0 : μ 0 14 = 0) (hD : 0 ≤ μ 0 7 ∧ μ 0 7 ≤ 12) (hJ : 0 ≤ μ 0 8 ∧ μ 0 8 ≤ 16) (hXX : 0 ≤ μ 0 9 ∧ μ 0 9 ≤ 3) (ht : μ 0 16 = 6) (hL : 0 ≤ μ 0 19 ∧ μ 0 19 ≤ 32) (h1 : ∀ μ', stClause (μ 1) (μ 0 1) (srOf μ) = .ok (srOf μ') → Fr Wst μ μ' → μ' 0 14 = 0 → Q (vI 1) μ') (h2 : ∀ wr μ', stClause (μ 1) (μ 0 1) (srOf μ) = .error wr → Fr Wst μ μ' → μ' 0 14 = wr → Q (vI 0) μ') : Rj YM y_M_clauseHere 0 [vA 0] [] μ Q := by
  obtain ⟨hX1, hX2⟩ := id hX
  refine Rj_aload_n (q := 1) d_M_clauseHere_0 rfl rfl rfl ?_
  refine Rj_vo (q := 4) (z := y_M_see) (as := []) (rest := []) (la := [vA 0]) oM_0_M_see ml_M_113 mw_M_see mv_M_see rfl d_M_clauseHere_1 rfl rfl rfl rfl rfl ?_
  refine s_M_see (μ := μ) (A := (μ 1)) (n := (μ 0 1)) (k := μ 0 13) hX rfl rfl rfl (by omega) ?_
  have r1 := sk_bd (μ 1) (n := (μ 0 1)) (k := μ 0 13) (by omega)
  refine Rj_pop (q := 5) d_M_clauseHere_4 rfl (by intro h; cases h) ?_
  refine Rj_aload_n (q := 6) d_M_clauseHere_5 rfl rfl rfl ?_
  refine Rj_gi (q := 9) (ki := 13) (v := sk (μ 1) (μ 0 1) (μ 0 13)) gM_M_110_0 rfl rfl rfl d_M_clauseHere_6 rfl ?_
  refine Rj_istore_n (q := 10) (ls' := [vA 0, vI (sk (μ 1) (μ 0 1) (μ 0 13))]) d_M_clauseHere_9 rfl rfl (by decide) rfl ?_
  refine Rj_aload_n (q := 11) d_M_clauseHere_10 rfl rfl rfl ?_
  refine Rj_gi (q := 14) (ki := 16) (v := μ 0 16) gM_M_158_0 rfl rfl rfl d_M_clauseHere_11 rfl ?_
  refine Rj_bipush (q := 16) d_M_clauseHere_14 rfl (by decide +kernel) ?_
  refine Rj_icmp_ne (q := 19) (t := 23) d_M_clauseHere_16 rfl (by decide) (by first | exact ⟨by omega, by omega⟩ | (unfold stSort; (repeat' split) <;> decide)) (by decide) (fun c16 => ?_) (fun c16 => ?_)
  · exact absurd ht c16
  · refine Rj_iconst (q := 20) d_M_clauseHere_19 rfl ?_
    refine Rj_goto (t := 24) d_M_clauseHere_20 (by decide) ?_
    refine Rj_istore_n (q := 25) (ls' := [vA 0, vI (sk (μ 1) (μ 0 1) (μ 0 13)), vI 1]) d_M_clauseHere_24 rfl rfl (by decide) rfl ?_
    refine Rj_iload_n (q := 26) d_M_clauseHere_25 rfl rfl rfl ?_
    refine Rj_if_eq (q := 29) (t := 64) d_M_clauseHere_26 rfl (by decide) (by decide) (fun c => absurd c (by decide)) (fun _ => ?_)
    refine Rj_aload_n (q := 30) d_M_clauseHere_29 rfl rfl rfl ?_
    refine Rj_ldc2 (q := 33) k_M_142 d_M_clauseHere_30 rfl ?_
    refine Rj_vo (q := 36) (z := y_M_isWord) (as := [vL 1685024626]) (rest := []) (la := [vA 0, vL 1685024626, vU]) oM_0_M_isWord ml_M_121 mw_M_isWord mv_M_isWord rfl d_M_clauseHere_33 rfl rfl rfl rfl rfl ?_
    refine s_M_isWord (μ := (mset μ 0 13 (sk (μ 1) (μ 0 1) (μ 0 13)))) (A := (μ 1)) (n := (μ 0 1)) (k := sk (μ 1) (μ 0 1) (μ 0 13)) hX rfl rfl rfl (by omega) (by decide) ?_
    rw [sk_idem]
    refine Rj_eqm (μ' := (mset μ 0 13 (sk (μ 1) (μ 0 1) (μ 0 13)))) (mset_idv rfl) ?_
    refine Rj_b_ne (q := 39) (t := 56) d_M_clauseHere_36 rfl (by decide) (fun c36 => ?_) (fun c36 => ?_)
    · refine Rj_iconst (q := 57) d_M_clauseHere_56 rfl ?_
      refine Rj_goto (t := 71) d_M_clauseHere_57 (by decide) ?_
      refine Rj_istore_n (q := 72) (ls' := [vA 0, vI (sk (μ 1) (μ 0 1) (μ 0 13)), vI 1, vI 1]) d_M_clauseHere_71 rfl rfl (by decide) rfl ?_
      refine Rj_iload_n (q := 73) d_M_clauseHere_72 rfl rfl rfl ?_
      refine Rj_if_ne (q := 76) (t := 83) d_M_clauseHere_73 rfl (by decide) (by decide) (fun _ => ?_) (fun c => absurd c (by decide))
      refine s_M_clauseSt_83 (μ := mset μ 0 13 (sk (μ 1) (μ 0 1) (μ 0 13))) hX (show 0 ≤ sk (μ 1) (μ 0 1) (μ 0 13) ∧ sk (μ 1) (μ 0 1) (μ 0 13) ≤ μ 0 1 by omega) hw0 hD hJ hXX hL (sk_idem _ _ _) (by first | exact Or.inl c36 | exact Or.inr (Or.inl c46) | exact Or.inr (Or.inr c53)) (fun m q f g => h1 m ?_ (Fr.trans (Fr.put (Fr.refl _ _) (by decide)) f) g) (fun w m q f g => h2 w m ?_ (Fr.trans (Fr.put (Fr.refl _ _) (by decide)) f) g)
      · unfold stClause
        exact (if_pos (by first | exact Or.inl c36 | exact Or.inr (Or.inl c46) | exact Or.inr (Or.inr c53))).trans q
      · unfold stClause
        exact (if_pos (by first | exact Or.inl c36 | exact Or.inr (Or.inl c46) | exact Or.inr (Or.inr c53))).trans q
    · refine Rj_aload_n (q := 40) d_M_clauseHere_39 rfl rfl rfl ?_
      refine Rj_ldc2 (q := 43) k_M_248 d_M_clauseHere_40 rfl ?_
      refine Rj_vo (q := 46) (z := y_M_isWord) (as := [vL 439856162148]) (rest := []) (la := [vA 0, vL 439856162148, vU]) oM_0_M_isWord ml_M_121 mw_M_isWord mv_M_isWord rfl d_M_clauseHere_43 rfl rfl rfl rfl rfl ?_
      refine s_M_isWord (μ := (mset μ 0 13 (sk (μ 1) (μ 0 1) (μ 0 13)))) (A := (μ 1)) (n := (μ 0 1)) (k := sk (μ 1) (μ 0 1) (μ 0 13)) hX rfl rfl rfl (by omega) (by decide) ?_
      rw [sk_idem]
      refine Rj_eqm (μ' := (mset μ 0 13 (sk (μ 1) (μ 0 1) (μ 0 13)))) (mset_idv rfl) ?_
      refine Rj_b_ne (q := 49) (t := 56) d_M_clauseHere_46 rfl (by decide) (fun c46 => ?_) (fun c46 => ?_)
      · refine Rj_iconst (q := 57) d_M_clauseHere_56 rfl ?_
        refine Rj_goto (t := 71) d_M_clauseHere_57 (by decide) ?_
        refine Rj_istore_n (q := 72) (ls' := [vA 0, vI (sk (μ 1) (μ 0 1) (μ 0 13)), vI 1, vI 1]) d_M_clauseHere_71 rfl rfl (by decide) rfl ?_
        refine Rj_iload_n (q := 73) d_M_clauseHere_72 rfl rfl rfl ?_
        refine Rj_if_ne (q := 76) (t := 83) d_M_clauseHere_73 rfl (by decide) (by decide) (fun _ => ?_) (fun c => absurd c (by decide))
        refine s_M_clauseSt_83 (μ := mset μ 0 13 (sk (μ 1) (μ 0 1) (μ 0 13))) hX (show 0 ≤ sk (μ 1) (μ 0 1) (μ 0 13) ∧ sk (μ 1) (μ 0 1) (μ 0 13) ≤ μ 0 1 by omega) hw0 hD hJ hXX hL (sk_idem _ _ _) (by first | exact Or.inl c36 | exact Or.inr (Or.inl c46) | exact Or.inr (Or.inr c53)) (fun m q f g => h1 m ?_ (Fr.trans (Fr.put (Fr.refl _ _) (by decide)) f) g) (fun w m q f g => h2 w m ?_ (Fr.trans (Fr.put (Fr.refl _ _) (by decide)) f) g)
        · unfold stClause
          exact (if_pos (by first | exact Or.inl c36 | exact Or.inr (Or.inl c46) | exact Or.inr (Or.inr c53))).trans q
        · unfold stClause
          exact (if_pos (by first | exact Or.inl c36 | exact Or.inr (Or.inl c46) | exact Or.inr (Or.inr c53))).trans q
      · refine Rj_aload_n (q := 50) d_M_clauseHere_49 rfl rfl rfl ?_
        refine Rj_vo (q := 53) (z := y_M_joinSort) (as := []) (rest := []) (la := [vA 0]) oM_0_M_joinSort ml_M_250 mw_M_joinSort mv_M_joinSort rfl d_M_clauseHere_50 rfl rfl rfl rfl rfl ?_
        refine s_M_joinSort (μ := (mset μ 0 13 (sk (μ 1) (μ 0 1) (μ 0 13)))) hX (show 0 ≤ sk (μ 1) (μ 0 1) (μ 0 13) ∧ sk (μ 1) (μ 0 1) (μ 0 13) ≤ μ 0 1 by omega) (sk_idem _ _ _) ?_
        refine Rj_if_lt (q := 56) (t := 60) d_M_clauseHere_53 rfl (by decide) (by first | exact ⟨by omega, by omega⟩ | (unfold stSort; (repeat' split) <;> decide)) (fun c53 => ?_) (fun c53 => ?_)
        · refine Rj_iconst (q := 61) d_M_clauseHere_60 rfl ?_
          refine Rj_goto (t := 71) d_M_clauseHere_61 (by decide) ?_
          refine Rj_istore_n (q := 72) (ls' := [vA 0, vI (sk (μ 1) (μ 0 1) (μ 0 13)), vI 1, vI 0]) d_M_clauseHere_71 rfl rfl (by decide) rfl ?_
          refine Rj_iload_n (q := 73) d_M_clauseHere_72 rfl rfl rfl ?_
          refine Rj_if_ne (q := 76) (t := 83) d_M_clauseHere_73 rfl (by decide) (by decide) (fun c => absurd c (by decide)) (fun _ => ?_)
          refine Rj_aload_n (q := 77) d_M_clauseHere_76 rfl rfl rfl ?_
          refine Rj_iconst (q := 78) d_M_clauseHere_77 rfl ?_
          refine Rj_iload_n (q := 79) d_M_clauseHere_78 rfl rfl rfl ?_
          refine Rj_vo (q := 82) (z := y_M_fails) (as := [vI 0, vI (sk (μ 1) (μ 0 1) (μ 0 13))]) (rest := []) (la := [vA 0, vI 0, vI (sk (μ 1) (μ 0 1) (μ 0 13))]) oM_0_M_fails ml_M_131 mw_M_fails mv_M_fails rfl d_M_clauseHere_79 rfl rfl rfl rfl rfl ?_
          refine s_M_fails hw0 ?_
          refine Rj_bret0 d_M_clauseHere_82 rfl ?_
          refine h2 _ _ ?_ (Fr.put (Fr.put (Fr.refl _ _) (by decide)) (by decide)) (mset_same _ _ _ _)
          unfold stClause
          exact if_neg (fun h => by rcases h with h | h | h
                                    · exact absurd (h.symm.trans c36) (by decide)
                                    · exact absurd (h.symm.trans c46) (by decide)
                                    · exact absurd h (Int.not_le.mpr c53))
        · refine Rj_iconst (q := 57) d_M_clauseHere_56 rfl ?_
          refine Rj_goto (t := 71) d_M_clauseHere_57 (by decide) ?_
          refine Rj_istore_n (q := 72) (ls' := [vA 0, vI (sk (μ 1) (μ 0 1) (μ 0 13)), vI 1, vI 1]) d_M_clauseHere_71 rfl rfl (by decide) rfl ?_
          refine Rj_iload_n (q := 73) d_M_clauseHere_72 rfl rfl rfl ?_
          refine Rj_if_ne (q := 76) (t := 83) d_M_clauseHere_73 rfl (by decide) (by decide) (fun _ => ?_) (fun c => absurd c (by decide))
          refine s_M_clauseSt_83 (μ := mset μ 0 13 (sk (μ 1) (μ 0 1) (μ 0 13))) hX (show 0 ≤ sk (μ 1) (μ 0 1) (μ 0 13) ∧ sk (μ 1) (μ 0 1) (μ 0 13) ≤ μ 0 1 by omega) hw0 hD hJ hXX hL (sk_idem _ _ _) (by first | exact Or.inl c36 | exact Or.inr (Or.inl c46) | exact Or.inr (Or.inr c53)) (fun m q f g => h1 m ?_ (Fr.trans (Fr.put (Fr.refl _ _) (by decide)) f) g) (fun w m q f g => h2 w m ?_ (Fr.trans (Fr.put (Fr.refl _ _) (by decide)) f) g)
          · unfold stClause
            exact (if_pos (by first | exact Or.inl c36 | exact Or.inr (Or.inl c46) | exact Or.inr (Or.inr c53))).trans q
          · unfold stClause
            exact (if_pos (by first | exact Or.inl c36 | exact Or.inr (Or.inl c46) | exact Or.inr (Or.inr c53))).trans q
