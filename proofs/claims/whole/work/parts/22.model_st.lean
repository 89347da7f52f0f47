theorem gM_M_230_0 : GI YM "DoorsOnCogsModel" 230 0 7 none := ⟨by decide, _, _, _, fl_M_230, cM_0, by decide, rfl⟩
theorem oM_0_M_numberHere : OI YM 0 y_M_numberHere := ⟨by decide, _, _, _, cM_0, rfl⟩
theorem gM_M_26_0 : GI YM "DoorsOnCogsModel" 26 0 11 (some (some 6)) := ⟨by decide, _, _, _, fl_M_26, cM_0, by decide, rfl⟩
theorem gM_M_135_0 : GI YM "DoorsOnCogsModel" 135 0 15 none := ⟨by decide, _, _, _, fl_M_135, cM_0, by decide, rfl⟩
theorem aM_6 : AI YM 6 (.int) 24 := ⟨by decide, cM_6, by decide⟩
theorem pM_M_230_0 : PI YM "DoorsOnCogsModel" 230 0 7 none .int := ⟨by decide, _, _, _, fl_M_230, fp_10_7, cM_0, by decide, rfl⟩
/-! the reference reads a street -/
def fset (f : Int → Int) (i v : Int) : Int → Int := fun j => if j = i then v else f j
theorem mset_fs (μ : Mem) (c : Nat) (i v : Int) : mset μ c i v c = fset (μ c) i v := mset_row μ c i v
/-- what may change -/
def Fr (Wp : Nat → Int → Prop) (μ μ' : Mem) : Prop := ∀ c i, ¬ Wp c i → μ' c i = μ c i
theorem Fr.refl (Wp : Nat → Int → Prop) (μ : Mem) : Fr Wp μ μ := fun _ _ _ => rfl
theorem Fr.trans {Wp : Nat → Int → Prop} {μ ν ρ : Mem} (h1 : Fr Wp μ ν) (h2 : Fr Wp ν ρ) : Fr Wp μ ρ := fun c i h => (h2 c i h).trans (h1 c i h)
theorem Fr.mset {Wp : Nat → Int → Prop} {μ ν : Mem} {c : Nat} {i v : Int} (h : Fr Wp μ ν) (hw : Wp c i) : Fr Wp μ (mset ν c i v) := by
  intro d j hd
  show (if d = c ∧ j = i then v else ν d j) = μ d j
  split
  · rename_i e; rw [e.1, e.2] at hd; exact absurd hw hd
  · exact h d j hd
theorem Fr.wide {W1 W2 : Nat → Int → Prop} {μ ν : Mem} (h : Fr W1 μ ν) (hw : ∀ c i, W1 c i → W2 c i) : Fr W2 μ ν := fun c i hd => h c i (fun q => hd (hw c i q))
theorem Fr.row {Wp : Nat → Int → Prop} {μ ν : Mem} (h : Fr Wp μ ν) {c : Nat} (hc : ∀ i, ¬ Wp c i) : ν c = μ c := funext (fun i => h c i (hc i))
abbrev StS : Type := Int × Int × Int × Int × Int × Int × (Int → Int) × (Int → Int)
/-- where it reads, clauses, doors, joins, axles, the fixed, rows of doors and joins -/
def srOf (μ : Mem) : StS := (μ 0 13, μ 0 19, μ 0 7, μ 0 8, μ 0 9, μ 0 10, μ 6, μ 7)
def Wst (c : Nat) (i : Int) : Prop := (c = 0 ∧ (i = 13 ∨ i = 14 ∨ i = 15 ∨ i = 19 ∨ (7 ≤ i ∧ i ≤ 10))) ∨ c = 6 ∨ c = 7
def stDoor (A : Int → Int) (n k : Int) (σ : StS) : Except Int StS :=
  if σ.2.2.1 = 12 then .error (1 + 8 * k + 4) else
  match pNum A n (lend A n k) 4 60 with
  | .error w => .error w
  | .ok (e1, t) => match pNum A n e1 0 t with
    | .error w => .error w
    | .ok (e2, s) => .ok (e2, σ.2.1, σ.2.2.1 + 1, σ.2.2.2.1, σ.2.2.2.2.1, σ.2.2.2.2.2.1, fset (fset σ.2.2.2.2.2.2.1 (2 * σ.2.2.1) t) (2 * σ.2.2.1 + 1) s, σ.2.2.2.2.2.2.2)
def stFixed (A : Int → Int) (n k : Int) (σ : StS) : Except Int StS :=
  match pNum A n (lend A n k) 0 (σ.2.2.1 - 1) with
  | .error w => .error w
  | .ok (e1, d) => .ok (e1, σ.2.1, σ.2.2.1, σ.2.2.2.1, σ.2.2.2.2.1, z_or σ.2.2.2.2.2.1 (z_shl 1 d), σ.2.2.2.2.2.2.1, σ.2.2.2.2.2.2.2)
def stJoin (A : Int → Int) (n k sort : Int) (σ : StS) : Except Int StS :=
  if σ.2.2.2.1 = 16 ∨ (sort = 2 ∧ σ.2.2.2.2.1 = 3) then .error (1 + 8 * k + 4) else
  match pNum A n (lend A n k) 0 (σ.2.2.1 - 1) with
  | .error w => .error w
  | .ok (e1, a) => match pNum A n e1 0 (σ.2.2.1 - 1) with
    | .error w => .error w
    | .ok (e2, b) => if b = a then .error (1 + 8 * sk A n e1 + 1) else
      .ok (e2, σ.2.1, σ.2.2.1, σ.2.2.2.1 + 1, σ.2.2.2.2.1 + (if sort = 2 then 1 else 0), σ.2.2.2.2.2.1, σ.2.2.2.2.2.2.1, fset (fset (fset σ.2.2.2.2.2.2.2 (3 * σ.2.2.2.1) a) (3 * σ.2.2.2.1 + 1) b) (3 * σ.2.2.2.1 + 2) sort)
def stSort (A : Int → Int) (n k : Int) : Int := if wat A n k 1835365224 = true then 0 else if wat A n k 1650813044 = true then 1 else if wat A n k 1635281253 = true then 2 else -1
def stClause (A : Int → Int) (n : Int) (σ : StS) : Except Int StS :=
  if ¬ (wat A n (sk A n σ.1) 1685024626 = true ∨ wat A n (sk A n σ.1) 439855768932 = true ∨ 0 ≤ stSort A n (sk A n σ.1)) then .error (1 + 8 * sk A n σ.1 + 0) else
  if σ.2.1 = 32 then .error (1 + 8 * sk A n σ.1 + 4) else
  if wat A n (sk A n σ.1) 1685024626 = true then stDoor A n (sk A n σ.1) (σ.1, σ.2.1 + 1, σ.2.2) else
  if wat A n (sk A n σ.1) 439855768932 = true then stFixed A n (sk A n σ.1) (σ.1, σ.2.1 + 1, σ.2.2) else
  stJoin A n (sk A n σ.1) (stSort A n (sk A n σ.1)) (σ.1, σ.2.1 + 1, σ.2.2)
set_option maxHeartbeats 4000000 in
theorem s_M_isDoorHere {μ : Mem} {Q : PV → Mem → Prop} (hX : TX (μ 1) (μ 0 1)) (h0 : 0 ≤ μ 0 13 ∧ μ 0 13 ≤ μ 0 1) (hw0 : μ 0 14 = 0) (hD : 0 ≤ μ 0 7 ∧ μ 0 7 ≤ 12) (hJ : 0 ≤ μ 0 8 ∧ μ 0 8 ≤ 16) (hXX : 0 ≤ μ 0 9 ∧ μ 0 9 ≤ 3) (hk : sk (μ 1) (μ 0 1) (μ 0 13) = μ 0 13) (h1 : ∀ μ', stDoor (μ 1) (μ 0 1) (μ 0 13) (srOf μ) = .ok (srOf μ') → Fr Wst μ μ' → μ' 0 14 = 0 → Q (vI 1) μ') (h2 : ∀ wr μ', stDoor (μ 1) (μ 0 1) (μ 0 13) (srOf μ) = .error wr → Fr Wst μ μ' → μ' 0 14 = wr → Q (vI 0) μ') : Rj YM y_M_isDoorHere 0 [vA 0, vI (μ 0 13)] [] μ Q := by
  obtain ⟨hX1, hX2⟩ := id hX
  refine Rj_aload_n (q := 1) d_M_isDoorHere_0 rfl rfl rfl ?_
  refine Rj_gi (q := 4) (ki := 7) (v := μ 0 7) gM_M_230_0 rfl rfl rfl d_M_isDoorHere_1 rfl ?_
  refine Rj_bipush (q := 6) d_M_isDoorHere_4 rfl (by decide +kernel) ?_
  refine Rj_icmp_ne (q := 9) (t := 16) d_M_isDoorHere_6 rfl (by decide) ⟨by omega, by omega⟩ (by decide) (fun c6 => ?_) (fun c6 => ?_)
  · refine Rj_aload_n (q := 17) d_M_isDoorHere_16 rfl rfl rfl ?_
    refine Rj_vov (q := 20) (z := y_M_passWord) (as := []) (rest := []) (la := [vA 0]) oM_0_M_passWord ml_M_125 mw_M_passWord mv_M_passWord rfl d_M_isDoorHere_17 rfl rfl rfl rfl rfl ?_
    refine s_M_passWord (μ := μ) (A := (μ 1)) (n := (μ 0 1)) (k := μ 0 13) hX rfl rfl rfl (by omega) ?_
    have r17 := lend_bd (μ 1) (n := (μ 0 1)) (k := μ 0 13) (by omega)
    refine Rj_aload_n (q := 21) d_M_isDoorHere_20 rfl rfl rfl ?_
    refine Rj_iconst (q := 22) d_M_isDoorHere_21 rfl ?_
    refine Rj_bipush (q := 24) d_M_isDoorHere_22 rfl (by decide +kernel) ?_
    refine Rj_vo (q := 27) (z := y_M_numberHere) (as := [vI 4, vI 60]) (rest := []) (la := [vA 0, vI 4, vI 60]) oM_0_M_numberHere ml_M_179 mw_M_numberHere mv_M_numberHere rfl d_M_isDoorHere_24 rfl rfl rfl rfl rfl ?_
    refine s_M_numberHere (μ := (mset μ 0 13 (lend (μ 1) (μ 0 1) (μ 0 13)))) (A := (μ 1)) (n := (μ 0 1)) (k := lend (μ 1) (μ 0 1) (μ 0 13)) hX rfl rfl rfl (by omega) hw0 ⟨(by decide), (by decide)⟩ (fun e24 v24 q24 b24 d24 => ?_) (fun w24 m24 q24 f24 g24 => ?_)
    · have r24 := sk_bd (μ 1) (n := (μ 0 1)) (k := lend (μ 1) (μ 0 1) (μ 0 13)) (by omega)
      refine Rj_if_ne (q := 30) (t := 32) d_M_isDoorHere_27 rfl (by decide) (by decide) (fun _ => ?_) (fun c => absurd c (by decide))
      refine Rj_aload_n (q := 33) d_M_isDoorHere_32 rfl rfl rfl ?_
      refine Rj_gr (q := 36) (zd := 6) gM_M_26_0 rfl rfl d_M_isDoorHere_33 rfl ?_
      refine Rj_iconst (q := 37) d_M_isDoorHere_36 rfl ?_
      refine Rj_aload_n (q := 38) d_M_isDoorHere_37 rfl rfl rfl ?_
      refine Rj_gi (q := 41) (ki := 7) (v := μ 0 7) gM_M_230_0 rfl rfl rfl d_M_isDoorHere_38 rfl ?_
      refine Rj_imul (q := 42) d_M_isDoorHere_41 rfl ?_
      refine Rj_aload_n (q := 43) d_M_isDoorHere_42 rfl rfl rfl ?_
      refine Rj_gi (q := 46) (ki := 15) (v := v24) gM_M_135_0 rfl rfl rfl d_M_isDoorHere_43 rfl ?_
      refine Rj_is (q := 47) aM_6 rfl (by omega) d_M_isDoorHere_46 rfl ?_
      refine Rj_aload_n (q := 48) d_M_isDoorHere_47 rfl rfl rfl ?_
      refine Rj_iconst (q := 49) d_M_isDoorHere_48 rfl ?_
      refine Rj_aload_n (q := 50) d_M_isDoorHere_49 rfl rfl rfl ?_
      refine Rj_gi (q := 53) (ki := 15) (v := v24) gM_M_135_0 rfl rfl rfl d_M_isDoorHere_50 rfl ?_
      refine Rj_vo (q := 56) (z := y_M_numberHere) (as := [vI 0, vI v24]) (rest := []) (la := [vA 0, vI 0, vI v24]) oM_0_M_numberHere ml_M_179 mw_M_numberHere mv_M_numberHere rfl d_M_isDoorHere_53 rfl rfl rfl rfl rfl ?_
      refine s_M_numberHere (μ := (mset (mset (mset (mset μ 0 13 (lend (μ 1) (μ 0 1) (μ 0 13))) 0 13 e24) 0 15 v24) 6 (2 * (μ 0 7)) v24)) (A := (μ 1)) (n := (μ 0 1)) (k := e24) hX rfl rfl rfl (by omega) hw0 ⟨(by decide), ⟨by omega, by omega⟩⟩ (fun e53 v53 q53 b53 d53 => ?_) (fun w53 m53 q53 f53 g53 => ?_)
      · have r53 := sk_bd (μ 1) (n := (μ 0 1)) (k := e24) (by omega)
        refine Rj_if_ne (q := 59) (t := 61) d_M_isDoorHere_56 rfl (by decide) (by decide) (fun _ => ?_) (fun c => absurd c (by decide))
        refine Rj_aload_n (q := 62) d_M_isDoorHere_61 rfl rfl rfl ?_
        refine Rj_gr (q := 65) (zd := 6) gM_M_26_0 rfl rfl d_M_isDoorHere_62 rfl ?_
        refine Rj_iconst (q := 66) d_M_isDoorHere_65 rfl ?_
        refine Rj_aload_n (q := 67) d_M_isDoorHere_66 rfl rfl rfl ?_
        refine Rj_gi (q := 70) (ki := 7) (v := μ 0 7) gM_M_230_0 rfl rfl rfl d_M_isDoorHere_67 rfl ?_
        refine Rj_imul (q := 71) d_M_isDoorHere_70 rfl ?_
        refine Rj_iconst (q := 72) d_M_isDoorHere_71 rfl ?_
        refine Rj_iadd (q := 73) d_M_isDoorHere_72 rfl ?_
        refine Rj_aload_n (q := 74) d_M_isDoorHere_73 rfl rfl rfl ?_
        refine Rj_gi (q := 77) (ki := 15) (v := v53) gM_M_135_0 rfl rfl rfl d_M_isDoorHere_74 rfl ?_
        refine Rj_is (q := 78) aM_6 rfl (by omega) d_M_isDoorHere_77 rfl ?_
        refine Rj_aload_n (q := 79) d_M_isDoorHere_78 rfl rfl rfl ?_
        refine Rj_dup (q := 80) d_M_isDoorHere_79 rfl (by intro h; cases h) ?_
        refine Rj_gi (q := 83) (ki := 7) (v := μ 0 7) gM_M_230_0 rfl rfl rfl d_M_isDoorHere_80 rfl ?_
        refine Rj_iconst (q := 84) d_M_isDoorHere_83 rfl ?_
        refine Rj_iadd (q := 85) d_M_isDoorHere_84 rfl ?_
        refine Rj_pi (q := 88) (ki := 7) pM_M_230_0 rfl rfl d_M_isDoorHere_85 rfl ?_
        refine Rj_iconst (q := 89) d_M_isDoorHere_88 rfl ?_
        refine Rj_bret1 d_M_isDoorHere_89 rfl ?_
        refine h1 _ ?_ (fun c i h => by simp only [mset]; (repeat' split) <;> first | rfl | (exfalso; apply h; unfold Wst; omega)) hw0
        unfold stDoor
        simp [srOf, *, mset_fs, mset_nc, mset]
      · have z53 := True.intro
        refine Rj_if_ne (q := 59) (t := 61) d_M_isDoorHere_56 rfl (by decide) (by decide) (fun c => absurd c (by decide)) (fun _ => ?_)
        refine Rj_iconst (q := 60) d_M_isDoorHere_59 rfl ?_
        refine Rj_bret0 d_M_isDoorHere_60 rfl ?_
        refine h2 _ _ ?_ (fun c i h => (f53 c i (fun q => h (by unfold Wst; omega))).trans (by simp only [mset]; (repeat' split) <;> first | rfl | (exfalso; apply h; unfold Wst; omega))) g53
        unfold stDoor
        simp [srOf, *, mset_fs, mset_nc, mset]
    · have z24 := True.intro
      refine Rj_if_ne (q := 30) (t := 32) d_M_isDoorHere_27 rfl (by decide) (by decide) (fun c => absurd c (by decide)) (fun _ => ?_)
      refine Rj_iconst (q := 31) d_M_isDoorHere_30 rfl ?_
      refine Rj_bret0 d_M_isDoorHere_31 rfl ?_
      refine h2 _ _ ?_ (fun c i h => (f24 c i (fun q => h (by unfold Wst; omega))).trans (by simp only [mset]; (repeat' split) <;> first | rfl | (exfalso; apply h; unfold Wst; omega))) g24
      unfold stDoor
      simp [srOf, *, mset_fs, mset_nc, mset]
  · refine Rj_aload_n (q := 10) d_M_isDoorHere_9 rfl rfl rfl ?_
    refine Rj_iconst (q := 11) d_M_isDoorHere_10 rfl ?_
    refine Rj_iload_n (q := 12) d_M_isDoorHere_11 rfl rfl rfl ?_
    refine Rj_vo (q := 15) (z := y_M_fails) (as := [vI 4, vI (μ 0 13)]) (rest := []) (la := [vA 0, vI 4, vI (μ 0 13)]) oM_0_M_fails ml_M_131 mw_M_fails mv_M_fails rfl d_M_isDoorHere_12 rfl rfl rfl rfl rfl ?_
    refine s_M_fails hw0 ?_
    refine Rj_bret0 d_M_isDoorHere_15 rfl ?_
    refine h2 _ _ ?_ (fun c i h => by simp only [mset]; (repeat' split) <;> first | rfl | (exfalso; apply h; unfold Wst; omega)) (mset_same _ _ _ _)
    unfold stDoor
    simp [srOf, *, mset_fs, mset_nc, mset]
