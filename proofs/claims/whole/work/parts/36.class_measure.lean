theorem oD_59_Ge_canTurn : OI YD 59 y_Ge_canTurn := ⟨by decide, _, _, _, cD_59, rfl⟩
theorem oD_59_Ge_ratioOf : OI YD 59 y_Ge_ratioOf := ⟨by decide, _, _, _, cD_59, rfl⟩
theorem gD_Ge_22_59 : GI YD "DoorsOnCogs$Gears" 22 59 4 (some (some 63)) := ⟨by decide, _, _, _, fl_Ge_22, cD_59, by decide, rfl⟩
theorem aD_63 : AI YD 63 (.long) 12 := ⟨by decide, cD_63, by decide⟩
theorem gD_Ge_25_59 : GI YD "DoorsOnCogs$Gears" 25 59 5 (some (some 64)) := ⟨by decide, _, _, _, fl_Ge_25, cD_59, by decide, rfl⟩
theorem aD_64 : AI YD 64 (.long) 144 := ⟨by decide, cD_64, by decide⟩
/-! the class measures: what is below the line of each place, and how far a push turns -/
/-- a street in the class's scene: all of it -/
def GT (μ : Mem) (S : Int → Int) : Prop := GS μ S ∧ (∀ d, 0 ≤ d → d < S 0 → μ 5 d = spn S d) ∧ μ 3 3 = S 2 ∧ (0 ≤ S 2 ∧ S 2 < 4096)
/-- the gears (cell 59) are those of the street, hung as lo, up, dn, lk say -/
def GF (μ : Mem) (S lo up dn lk : Int → Int) : Prop :=
  (∀ d, 0 ≤ d → d < S 0 → μ 60 d = lo d) ∧
  ((0 ≤ μ 59 7 ∧ μ 59 7 < 4096) ∧ ∀ k, 0 ≤ k → (zbit (μ 59 7) k = 1 ↔ k < S 0 ∧ lk k = 1)) ∧
  μ 59 8 = ((cntB (fun k => decide (lo (k : Int) = (k : Int))) (S 0).toNat : Nat) : Int) ∧
  (∀ d, 0 ≤ d → d < S 0 → μ 63 d = bel S lo up dn lk d) ∧
  (∀ p d, 0 ≤ p → p < S 0 → 0 ≤ d → d < S 0 → μ 64 (p * 12 + d) = if lo p = lo d ∧ lk d = 0 then stp S lo up dn lk p d else 0)
abbrev Wme (c : Nat) (_ : Int) : Prop := c = 63 ∨ c = 64
theorem GS.me {μ ν : Mem} {S : Int → Int} (h : GS μ S) (f : Fr Wme μ ν) : GS ν S := h.keep f (fun i q => by unfold Wme at q; omega) (fun i q => by unfold Wme at q; omega) (fun i q => by unfold Wme at q; omega) (fun i q => by unfold Wme at q; omega) (fun i q => by unfold Wme at q; omega)
set_option maxHeartbeats 4000000 in
theorem s_canTurn {μ : Mem} {Q : PV → Mem → Prop} {S lk : Int → Int} {x d : Int} (hS : StrOK S) (hx : 0 ≤ x ∧ x < S 0) (hd : 0 ≤ d ∧ d < S 0) (hlo : ∀ y, 0 ≤ y → y < S 0 → -1 ≤ μ 60 y ∧ μ 60 y < 12) (hL : 0 ≤ μ 59 7 ∧ μ 59 7 < 4096) (hb : zbit (μ 59 7) d = 1 ↔ lk d = 1) (h01 : lk d = 0 ∨ lk d = 1) (hQ : Q (vI (bI (decide (μ 60 x = μ 60 d ∧ lk d = 0)))) μ) : Rj YD y_Ge_canTurn 0 [vA 59, vI x, vI d] [] μ Q := by
  obtain ⟨hS0, -⟩ := id hS
  have lx := hlo x hx.1 hx.2
  have ld := hlo d hd.1 hd.2
  have zb := zbit_01 (μ 59 7) d
  refine Rj_aload_n (q := 1) d_Ge_canTurn_0 rfl rfl rfl ?_
  refine Rj_gr (q := 4) (zd := 60) gD_Ge_9_59 rfl rfl d_Ge_canTurn_1 rfl ?_
  refine Rj_iload_n (q := 5) d_Ge_canTurn_4 rfl rfl rfl ?_
  refine Rj_ia (q := 6) (v := μ 60 x) aD_60 rfl (by omega) rfl d_Ge_canTurn_5 rfl ?_
  refine Rj_aload_n (q := 7) d_Ge_canTurn_6 rfl rfl rfl ?_
  refine Rj_gr (q := 10) (zd := 60) gD_Ge_9_59 rfl rfl d_Ge_canTurn_7 rfl ?_
  refine Rj_iload_n (q := 11) d_Ge_canTurn_10 rfl rfl rfl ?_
  refine Rj_ia (q := 12) (v := μ 60 d) aD_60 rfl (by omega) rfl d_Ge_canTurn_11 rfl ?_
  refine Rj_icmp_ne (q := 15) (t := 30) d_Ge_canTurn_12 rfl (by decide) ⟨by omega, by omega⟩ ⟨by omega, by omega⟩ (fun c12 => ?_) (fun c12 => ?_)
  · refine Rj_iconst (q := 31) d_Ge_canTurn_30 rfl ?_
    refine Rj_bret0 d_Ge_canTurn_31 rfl ?_
    exact fin_I hQ (bF (by omega))
  · refine Rj_aload_n (q := 16) d_Ge_canTurn_15 rfl rfl rfl ?_
    refine Rj_gi (q := 19) (ki := 7) (v := μ 59 7) gD_Ge_55_59 rfl rfl rfl d_Ge_canTurn_16 rfl ?_
    refine Rj_iload_n (q := 20) d_Ge_canTurn_19 rfl rfl rfl ?_
    refine Rj_cs (q := 23) (z := y_D_bitOf) (as := [vI (μ 59 7), vI d]) (rest := []) (la := [vI (μ 59 7), vI d]) ml_Ge_70 mw_D_bitOf ms_D_bitOf d_Ge_canTurn_20 rfl rfl rfl rfl rfl ?_
    refine s_D_bitOf (by omega) (by omega) ?_
    refine Rj_if_ne (q := 26) (t := 30) d_Ge_canTurn_23 rfl (by decide) ⟨by omega, by omega⟩ (fun c23 => ?_) (fun c23 => ?_)
    · refine Rj_iconst (q := 31) d_Ge_canTurn_30 rfl ?_
      refine Rj_bret0 d_Ge_canTurn_31 rfl ?_
      exact fin_I hQ (bF (by omega))
    · refine Rj_iconst (q := 27) d_Ge_canTurn_26 rfl ?_
      refine Rj_goto (t := 31) d_Ge_canTurn_27 (by decide) ?_
      refine Rj_bret1 d_Ge_canTurn_31 rfl ?_
      exact fin_I hQ (bT (by omega))
set_option maxHeartbeats 4000000 in
theorem s_ratioOf {μ : Mem} {Q : PV → Mem → Prop} {x d part : Int} (hx : 0 ≤ x ∧ x < 12) (hd : 0 ≤ d ∧ d < 12) (bx : ((-216000 ≤ μ 61 x ∧ μ 61 x ≤ 216000) ∧ μ 61 x ≠ 0 ∧ (0 < μ 62 x ∧ μ 62 x ≤ 216000))) (bd : ((-216000 ≤ μ 61 d ∧ μ 61 d ≤ 216000) ∧ μ 61 d ≠ 0 ∧ (0 < μ 62 d ∧ μ 62 d ≤ 216000))) (hp : i32 part) (hQ : Q (vL (rat (μ 61) (μ 62) x d part)) μ) : Rj YD y_Ge_ratioOf 0 [vA 59, vI x, vI d, vI part] [] μ Q := by
  have m1 := mul_bd bd.1 (show -216000 ≤ μ 62 x ∧ μ 62 x ≤ 216000 by omega)
  have m2 := mul_bd (show -216000 ≤ μ 62 d ∧ μ 62 d ≤ 216000 by omega) bx.1
  have m3 : μ 62 d * μ 61 x ≠ 0 := mul_nn (by omega) bx.2.1
  refine Rj_aload_n (q := 1) d_Ge_ratioOf_0 rfl rfl rfl ?_
  refine Rj_gr (q := 4) (zd := 61) gD_Ge_15_59 rfl rfl d_Ge_ratioOf_1 rfl ?_
  refine Rj_iload_n (q := 5) d_Ge_ratioOf_4 rfl rfl rfl ?_
  refine Rj_la (q := 6) (v := μ 61 d) aD_61 rfl (by omega) rfl d_Ge_ratioOf_5 rfl ?_
  refine Rj_aload_n (q := 7) d_Ge_ratioOf_6 rfl rfl rfl ?_
  refine Rj_gr (q := 10) (zd := 62) gD_Ge_19_59 rfl rfl d_Ge_ratioOf_7 rfl ?_
  refine Rj_iload_n (q := 11) d_Ge_ratioOf_10 rfl rfl rfl ?_
  refine Rj_la (q := 12) (v := μ 62 x) aD_62 rfl (by omega) rfl d_Ge_ratioOf_11 rfl ?_
  refine Rj_lmul (q := 13) d_Ge_ratioOf_12 rfl ?_
  refine Rj_lstore (q := 15) (ls' := [vA 59, vI x, vI d, vI part, vL ((μ 61 d) * (μ 62 x)), vU]) d_Ge_ratioOf_13 rfl (by decide) rfl ?_
  refine Rj_aload_n (q := 16) d_Ge_ratioOf_15 rfl rfl rfl ?_
  refine Rj_gr (q := 19) (zd := 62) gD_Ge_19_59 rfl rfl d_Ge_ratioOf_16 rfl ?_
  refine Rj_iload_n (q := 20) d_Ge_ratioOf_19 rfl rfl rfl ?_
  refine Rj_la (q := 21) (v := μ 62 d) aD_62 rfl (by omega) rfl d_Ge_ratioOf_20 rfl ?_
  refine Rj_aload_n (q := 22) d_Ge_ratioOf_21 rfl rfl rfl ?_
  refine Rj_gr (q := 25) (zd := 61) gD_Ge_15_59 rfl rfl d_Ge_ratioOf_22 rfl ?_
  refine Rj_iload_n (q := 26) d_Ge_ratioOf_25 rfl rfl rfl ?_
  refine Rj_la (q := 27) (v := μ 61 x) aD_61 rfl (by omega) rfl d_Ge_ratioOf_26 rfl ?_
  refine Rj_lmul (q := 28) d_Ge_ratioOf_27 rfl ?_
  refine Rj_lstore (q := 30) (ls' := [vA 59, vI x, vI d, vI part, vL ((μ 61 d) * (μ 62 x)), vU, vL ((μ 62 d) * (μ 61 x)), vU]) d_Ge_ratioOf_28 rfl (by decide) rfl ?_
  refine Rj_lload (q := 32) d_Ge_ratioOf_30 rfl rfl ?_
  refine Rj_lconst (q := 33) (z := 0) d_Ge_ratioOf_32 rfl rfl ?_
  refine Rj_lc_ge (q := 34) (q2 := 37) (t := 50) d_Ge_ratioOf_33 rfl d_Ge_ratioOf_34 rfl (by decide) ⟨by omega, by omega⟩ (by decide) (fun c33 => ?_) (fun c33 => ?_)
  · refine Rj_lload (q := 52) d_Ge_ratioOf_50 rfl rfl ?_
    refine Rj_lload (q := 54) d_Ge_ratioOf_52 rfl rfl ?_
    refine Rj_iload_n (q := 55) d_Ge_ratioOf_54 rfl rfl rfl ?_
    refine Rj_cs (q := 58) (z := y_D_lowest) (as := [vL ((μ 61 d) * (μ 62 x)), vL ((μ 62 d) * (μ 61 x)), vI part]) (rest := []) (la := [vL ((μ 61 d) * (μ 62 x)), vU, vL ((μ 62 d) * (μ 61 x)), vU, vI part]) ml_Ge_110 mw_D_lowest ms_D_lowest d_Ge_ratioOf_55 rfl rfl rfl rfl rfl ?_
    refine s_D_lowest (by omega) (by omega) (by omega) ⟨by omega, by omega⟩ ?_
    refine Rj_lret d_Ge_ratioOf_58 rfl ?_
    exact fin_L hQ (by unfold rat; rw [if_neg (by omega)])
  · refine Rj_lload (q := 39) d_Ge_ratioOf_37 rfl rfl ?_
    refine Rj_lneg (q := 40) d_Ge_ratioOf_39 rfl ?_
    refine Rj_lload (q := 42) d_Ge_ratioOf_40 rfl rfl ?_
    refine Rj_lneg (q := 43) d_Ge_ratioOf_42 rfl ?_
    refine Rj_iload_n (q := 44) d_Ge_ratioOf_43 rfl rfl rfl ?_
    refine Rj_cs (q := 47) (z := y_D_lowest) (as := [vL (-((μ 61 d) * (μ 62 x))), vL (-((μ 62 d) * (μ 61 x))), vI part]) (rest := []) (la := [vL (-((μ 61 d) * (μ 62 x))), vU, vL (-((μ 62 d) * (μ 61 x))), vU, vI part]) ml_Ge_110 mw_D_lowest ms_D_lowest d_Ge_ratioOf_44 rfl rfl rfl rfl rfl ?_
    refine s_D_lowest (by omega) (by omega) (by omega) ⟨by omega, by omega⟩ ?_
    refine Rj_goto (t := 58) d_Ge_ratioOf_47 (by decide) ?_
    refine Rj_lret d_Ge_ratioOf_58 rfl ?_
    exact fin_L hQ (by unfold rat; rw [if_pos c33])
set_option maxHeartbeats 4000000 in
theorem s_measure_22 : ∀ (f : Nat) {μ : Mem} {Q : PV → Mem → Prop} {S lk : Int → Int} {d x : Int}, ((S 0 - x).toNat < f) → (StrOK S) → (GS μ S) → (HI S 0 (S 0) (S 0) (μ 60) (μ 61) (μ 62)) → (∀ y, 0 ≤ y → y < S 0 → -1 ≤ μ 60 y ∧ μ 60 y < 12) → (∀ y, 0 ≤ y → y < S 0 → ((-216000 ≤ μ 61 y ∧ μ 61 y ≤ 216000) ∧ μ 61 y ≠ 0 ∧ (0 < μ 62 y ∧ μ 62 y ≤ 216000))) → (0 ≤ μ 59 7 ∧ μ 59 7 < 4096) → (∀ d, 0 ≤ d → d < S 0 → (zbit (μ 59 7) d = 1 ↔ lk d = 1)) → (∀ d, 0 ≤ d → d < S 0 → lk d = 0 ∨ lk d = 1) → (0 ≤ d ∧ d < S 0) → (0 ≤ x ∧ x ≤ S 0) → (μ 63 d = belN (fun k => rat (μ 61) (μ 62) (k : Int) d 1) (fun k => decide (μ 60 (k : Int) = μ 60 d ∧ lk d = 0)) (x).toNat) → (Rj YD y_Ge_measure 81 [vA 59, vI d] [] (mset μ 63 d (bel S (μ 60) (μ 61) (μ 62) lk d)) Q) → Rj YD y_Ge_measure 22 [vA 59, vI d, vI x] [] μ Q := by
  intro f
  induction f with
  | zero => intro μ Q S lk d x hf hS hG hH hlo hr hL hb h01 hd hx hv hk; exact absurd hf (by omega)
  | succ f ih =>
    intro μ Q S lk d x hf hS hG hH hlo hr hL hb h01 hd hx hv hk
    obtain ⟨hS0, hS1, hS2, hS3, hS4⟩ := id hS
    obtain ⟨G0, G1, G4, G6⟩ := id hG
    have br := belN_rng (lk := lk) hS hH hd x.toNat (by omega)
    rw [← hv] at br
    refine Rj_iload_n (q := 23) d_Ge_measure_22 rfl rfl rfl ?_
    refine Rj_aload_n (q := 24) d_Ge_measure_23 rfl rfl rfl ?_
    refine Rj_gr (q := 27) (zd := 3) gD_Ge_31_59 rfl rfl d_Ge_measure_24 rfl ?_
    refine Rj_gi (q := 30) (ki := 0) (v := μ 3 0) gD_Ge_58_3 rfl rfl rfl d_Ge_measure_27 rfl ?_
    refine Rj_icmp_ge (q := 33) (t := 81) d_Ge_measure_30 rfl (by decide) ⟨by omega, by omega⟩ ⟨by omega, by omega⟩ (fun c30 => ?_) (fun c30 => ?_)
    · have ex : x = S 0 := by omega
      have e0 : bel S (μ 60) (μ 61) (μ 62) lk d = μ 63 d := by rw [hv, ex]; rfl
      rw [e0, mset_id] at hk
      refine Rj_pre (ls' := [vA 59, vI d]) (t := [vI x]) rfl ?_
      exact hk
    · refine Rj_aload_n (q := 34) d_Ge_measure_33 rfl rfl rfl ?_
      refine Rj_iload_n (q := 35) d_Ge_measure_34 rfl rfl rfl ?_
      refine Rj_iload_n (q := 36) d_Ge_measure_35 rfl rfl rfl ?_
      refine Rj_vo (q := 39) (z := y_Ge_canTurn) (as := [vI x, vI d]) (rest := []) (la := [vA 59, vI x, vI d]) oD_59_Ge_canTurn ml_Ge_102 mw_Ge_canTurn mv_Ge_canTurn rfl d_Ge_measure_36 rfl rfl rfl rfl rfl ?_
      refine s_canTurn (lk := lk) hS ⟨by omega, by omega⟩ ⟨by omega, by omega⟩ hlo hL (hb d (by omega) (by omega)) (h01 d (by omega) (by omega)) ?_
      refine Rj_b_eq (q := 42) (t := 75) d_Ge_measure_39 rfl (by decide) (fun c39 => ?_) (fun c39 => ?_)
      · simp only [decide_eq_false_iff_not] at c39
        refine Rj_iinc (q := 78) (ls' := [vA 59, vI d, vI (x + 1)]) d_Ge_measure_75 rfl rfl (by decide) rfl ?_
        refine Rj_goto (t := 22) d_Ge_measure_78 (by decide) ?_
        refine Rj_pre (ls' := [vA 59, vI d, vI (x + 1)]) (t := []) rfl ?_
        refine ih (μ := μ) (by omega) hS hG hH hlo hr hL hb h01 hd (by omega) ?_ ?_
        · rw [show (x + 1).toNat = x.toNat + 1 by omega]
          show μ 63 d = belN (fun k => rat (μ 61) (μ 62) (k : Int) d 1) (fun k => decide (μ 60 (k : Int) = μ 60 d ∧ lk d = 0)) (x.toNat + 1)
          unfold belN
          simp only [show ((x.toNat : Nat) : Int) = x by omega]
          rw [if_neg (by simpa using c39), ← hv]
        · exact hk
      · simp only [decide_eq_true_eq] at c39
        have ps := pof_spec hS hH (p := x) (d := d) ⟨by omega, by omega⟩ hd (hH.2.1 d hd.1 hd.2 hd.2) c39.1
        refine Rj_aload_n (q := 43) d_Ge_measure_42 rfl rfl rfl ?_
        refine Rj_iload_n (q := 44) d_Ge_measure_43 rfl rfl rfl ?_
        refine Rj_iload_n (q := 45) d_Ge_measure_44 rfl rfl rfl ?_
        refine Rj_iconst (q := 46) d_Ge_measure_45 rfl ?_
        refine Rj_vo (q := 49) (z := y_Ge_ratioOf) (as := [vI x, vI d, vI 1]) (rest := []) (la := [vA 59, vI x, vI d, vI 1]) oD_59_Ge_ratioOf ml_Ge_106 mw_Ge_ratioOf mv_Ge_ratioOf rfl d_Ge_measure_46 rfl rfl rfl rfl rfl ?_
        refine s_ratioOf ⟨by omega, by omega⟩ ⟨by omega, by omega⟩ (hr x (by omega) (by omega)) (hr d (by omega) (by omega)) (by decide) ?_
        refine Rj_lstore_n (q := 50) (ls' := [vA 59, vI d, vI x, vL (rat (μ 61) (μ 62) x d 1), vU]) d_Ge_measure_49 rfl rfl (by decide) rfl ?_
        refine Rj_aload_n (q := 51) d_Ge_measure_50 rfl rfl rfl ?_
        refine Rj_gr (q := 54) (zd := 63) gD_Ge_22_59 rfl rfl d_Ge_measure_51 rfl ?_
        refine Rj_iload_n (q := 55) d_Ge_measure_54 rfl rfl rfl ?_
        refine Rj_aload_n (q := 56) d_Ge_measure_55 rfl rfl rfl ?_
        refine Rj_gr (q := 59) (zd := 63) gD_Ge_22_59 rfl rfl d_Ge_measure_56 rfl ?_
        refine Rj_iload_n (q := 60) d_Ge_measure_59 rfl rfl rfl ?_
        refine Rj_la (q := 61) (v := μ 63 d) aD_63 rfl (by omega) rfl d_Ge_measure_60 rfl ?_
        refine Rj_aload_n (q := 62) d_Ge_measure_61 rfl rfl rfl ?_
        refine Rj_gr (q := 65) (zd := 63) gD_Ge_22_59 rfl rfl d_Ge_measure_62 rfl ?_
        refine Rj_iload_n (q := 66) d_Ge_measure_65 rfl rfl rfl ?_
        refine Rj_la (q := 67) (v := μ 63 d) aD_63 rfl (by omega) rfl d_Ge_measure_66 rfl ?_
        refine Rj_lload_n (q := 68) d_Ge_measure_67 rfl rfl rfl ?_
        refine Rj_cs (q := 71) (z := y_D_divisorOf) (as := [vL (μ 63 d), vL (rat (μ 61) (μ 62) x d 1)]) (rest := [vL (μ 63 d), vI d, vA 63]) (la := [vL (μ 63 d), vU, vL (rat (μ 61) (μ 62) x d 1), vU]) ml_Ge_98 mw_D_divisorOf ms_D_divisorOf d_Ge_measure_68 rfl rfl rfl rfl rfl ?_
        refine s_D_divisorOf (by omega) (by omega) (by omega) ?_
        have gr68 := gcd_rng (a := (μ 63 d)) (b := (rat (μ 61) (μ 62) x d 1)) (by omega) (by omega) (by omega)
        refine Rj_ldiv (q := 72) d_Ge_measure_71 rfl ⟨by omega, by omega⟩ ⟨by omega, by omega⟩ (by omega) ?_
        refine Rj_lload_n (q := 73) d_Ge_measure_72 rfl rfl rfl ?_
        refine Rj_lmul (q := 74) d_Ge_measure_73 rfl ?_
        refine Rj_lst (q := 75) aD_63 rfl (by omega) d_Ge_measure_74 rfl ?_
        refine Rj_iinc (q := 78) (ls' := [vA 59, vI d, vI (x + 1), vL (rat (μ 61) (μ 62) x d 1), vU]) d_Ge_measure_75 rfl rfl (by decide) rfl ?_
        refine Rj_goto (t := 22) d_Ge_measure_78 (by decide) ?_
        refine Rj_pre (ls' := [vA 59, vI d, vI (x + 1)]) (t := [vL (rat (μ 61) (μ 62) x d 1), vU]) rfl ?_
        refine ih (μ := (mset μ 63 d (((μ 63 d).tdiv ((Int.gcd (μ 63 d) (rat (μ 61) (μ 62) x d 1) : Nat) : Int)) * (rat (μ 61) (μ 62) x d 1)))) (by omega) hS hG hH hlo hr hL hb h01 hd (by omega) ?_ ?_
        · rw [show (x + 1).toNat = x.toNat + 1 by omega]
          show mset μ 63 d (((μ 63 d).tdiv ((Int.gcd (μ 63 d) (rat (μ 61) (μ 62) x d 1) : Nat) : Int)) * (rat (μ 61) (μ 62) x d 1)) 63 d = belN (fun k => rat (μ 61) (μ 62) (k : Int) d 1) (fun k => decide (μ 60 (k : Int) = μ 60 d ∧ lk d = 0)) (x.toNat + 1)
          unfold belN
          simp only [show ((x.toNat : Nat) : Int) = x by omega]
          rw [mset_same, if_pos (by simpa using c39), ← hv]
        · rw [mset_mset]; exact hk
set_option maxHeartbeats 4000000 in
theorem s_measure_83 : ∀ (f : Nat) {μ : Mem} {Q : PV → Mem → Prop} {S lk : Int → Int} {d x : Int}, ((S 0 - x).toNat < f) → (StrOK S) → (GS μ S) → (HI S 0 (S 0) (S 0) (μ 60) (μ 61) (μ 62)) → (∀ y, 0 ≤ y → y < S 0 → -1 ≤ μ 60 y ∧ μ 60 y < 12) → (∀ y, 0 ≤ y → y < S 0 → ((-216000 ≤ μ 61 y ∧ μ 61 y ≤ 216000) ∧ μ 61 y ≠ 0 ∧ (0 < μ 62 y ∧ μ 62 y ≤ 216000))) → (0 ≤ μ 59 7 ∧ μ 59 7 < 4096) → (∀ d, 0 ≤ d → d < S 0 → (zbit (μ 59 7) d = 1 ↔ lk d = 1)) → (∀ d, 0 ≤ d → d < S 0 → lk d = 0 ∨ lk d = 1) → (0 ≤ d ∧ d < S 0) → (0 ≤ x ∧ x ≤ S 0) → (μ 63 d = bel S (μ 60) (μ 61) (μ 62) lk d) → (∀ q, 0 ≤ q → q < x → μ 64 (q * 12 + d) = (if μ 60 q = μ 60 d ∧ lk d = 0 then stp S (μ 60) (μ 61) (μ 62) lk q d else 0)) → (∀ μ', Fr (fun c i => c = 64 ∧ ∃ q, 0 ≤ q ∧ q < 12 ∧ i = q * 12 + d) μ μ' → (∀ q, 0 ≤ q → q < S 0 → μ' 64 (q * 12 + d) = (if μ 60 q = μ 60 d ∧ lk d = 0 then stp S (μ 60) (μ 61) (μ 62) lk q d else 0)) → Rj YD y_Ge_measure 162 [vA 59, vI d] [] μ' Q) → Rj YD y_Ge_measure 83 [vA 59, vI d, vI x] [] μ Q := by
  intro f
  induction f with
  | zero => intro μ Q S lk d x hf hS hG hH hlo hr hL hb h01 hd hx hv hs hk; exact absurd hf (by omega)
  | succ f ih =>
    intro μ Q S lk d x hf hS hG hH hlo hr hL hb h01 hd hx hv hs hk
    obtain ⟨hS0, hS1, hS2, hS3, hS4⟩ := id hS
    obtain ⟨G0, G1, G4, G6⟩ := id hG
    have br := (bel_spec (lk := lk) hS hH hd).1
    rw [← hv] at br
    refine Rj_iload_n (q := 84) d_Ge_measure_83 rfl rfl rfl ?_
    refine Rj_aload_n (q := 85) d_Ge_measure_84 rfl rfl rfl ?_
    refine Rj_gr (q := 88) (zd := 3) gD_Ge_31_59 rfl rfl d_Ge_measure_85 rfl ?_
    refine Rj_gi (q := 91) (ki := 0) (v := μ 3 0) gD_Ge_58_3 rfl rfl rfl d_Ge_measure_88 rfl ?_
    refine Rj_icmp_ge (q := 94) (t := 162) d_Ge_measure_91 rfl (by decide) ⟨by omega, by omega⟩ ⟨by omega, by omega⟩ (fun c91 => ?_) (fun c91 => ?_)
    · have ex : x = S 0 := by omega
      rw [ex] at hs
      refine Rj_pre (ls' := [vA 59, vI d]) (t := [vI x]) rfl ?_
      exact hk μ (Fr.refl _ _) hs
    · refine Rj_aload_n (q := 95) d_Ge_measure_94 rfl rfl rfl ?_
      refine Rj_iload_n (q := 96) d_Ge_measure_95 rfl rfl rfl ?_
      refine Rj_iload_n (q := 97) d_Ge_measure_96 rfl rfl rfl ?_
      refine Rj_vo (q := 100) (z := y_Ge_canTurn) (as := [vI x, vI d]) (rest := []) (la := [vA 59, vI x, vI d]) oD_59_Ge_canTurn ml_Ge_102 mw_Ge_canTurn mv_Ge_canTurn rfl d_Ge_measure_97 rfl rfl rfl rfl rfl ?_
      refine s_canTurn (lk := lk) hS ⟨by omega, by omega⟩ ⟨by omega, by omega⟩ hlo hL (hb d (by omega) (by omega)) (h01 d (by omega) (by omega)) ?_
      refine Rj_b_eq (q := 103) (t := 113) d_Ge_measure_100 rfl (by decide) (fun c100 => ?_) (fun c100 => ?_)
      · simp only [decide_eq_false_iff_not] at c100
        refine Rj_lconst (q := 114) (z := 0) d_Ge_measure_113 rfl rfl ?_
        refine Rj_lstore_n (q := 115) (ls' := [vA 59, vI d, vI x, vL 0, vU]) d_Ge_measure_114 rfl rfl (by decide) rfl ?_
        refine Rj_lload_n (q := 116) d_Ge_measure_115 rfl rfl rfl ?_
        refine Rj_lconst (q := 117) (z := 0) d_Ge_measure_116 rfl rfl ?_
        refine Rj_lc_le (q := 118) (q2 := 121) (t := 140) d_Ge_measure_117 rfl d_Ge_measure_118 rfl (by decide) (by decide) (by decide) (fun c117 => ?_) (fun c117 => ?_)
        · refine Rj_lconst (q := 141) (z := 0) d_Ge_measure_140 rfl rfl ?_
          refine Rj_lstore (q := 143) (ls' := [vA 59, vI d, vI x, vL 0, vU, vL 0, vU]) d_Ge_measure_141 rfl (by decide) rfl ?_
          refine Rj_aload_n (q := 144) d_Ge_measure_143 rfl rfl rfl ?_
          refine Rj_gr (q := 147) (zd := 64) gD_Ge_25_59 rfl rfl d_Ge_measure_144 rfl ?_
          refine Rj_iload_n (q := 148) d_Ge_measure_147 rfl rfl rfl ?_
          refine Rj_bipush (q := 150) d_Ge_measure_148 rfl (by decide +kernel) ?_
          refine Rj_imul (q := 151) d_Ge_measure_150 rfl ?_
          refine Rj_iload_n (q := 152) d_Ge_measure_151 rfl rfl rfl ?_
          refine Rj_iadd (q := 153) d_Ge_measure_152 rfl ?_
          refine Rj_lload (q := 155) d_Ge_measure_153 rfl rfl ?_
          refine Rj_lst (q := 156) aD_64 rfl (by omega) d_Ge_measure_155 rfl ?_
          refine Rj_iinc (q := 159) (ls' := [vA 59, vI d, vI (x + 1), vL 0, vU, vL 0, vU]) d_Ge_measure_156 rfl rfl (by decide) rfl ?_
          refine Rj_goto (t := 83) d_Ge_measure_159 (by decide) ?_
          refine Rj_pre (ls' := [vA 59, vI d, vI (x + 1)]) (t := [vL 0, vU, vL 0, vU]) rfl ?_
          refine ih (μ := (mset μ 64 ((x * 12) + d) 0)) (by omega) hS hG hH hlo hr hL hb h01 hd (by omega) hv (fun q q1 q2 => ?_) (fun m f h => hk m (Fr.trans (Fr.put (Fr.refl _ _) ⟨rfl, x, by omega, by omega, rfl⟩) f) h)
          by_cases e : q = x
          · subst e
            rw [mset_same]
            show _ = (if μ 60 q = μ 60 d ∧ lk d = 0 then stp S (μ 60) (μ 61) (μ 62) lk q d else 0)
            rw [if_neg c100]
          · rw [mset_ne _ _ _ _ _ (by omega)]
            exact hs q q1 (by omega)
        · exact absurd c117 (by omega)
      · simp only [decide_eq_true_eq] at c100
        have ps := pof_spec hS hH (p := x) (d := d) ⟨by omega, by omega⟩ hd (hH.2.1 d hd.1 hd.2 hd.2) c100.1
        refine Rj_aload_n (q := 104) d_Ge_measure_103 rfl rfl rfl ?_
        refine Rj_iload_n (q := 105) d_Ge_measure_104 rfl rfl rfl ?_
        refine Rj_iload_n (q := 106) d_Ge_measure_105 rfl rfl rfl ?_
        refine Rj_iconst (q := 107) d_Ge_measure_106 rfl ?_
        refine Rj_vo (q := 110) (z := y_Ge_ratioOf) (as := [vI x, vI d, vI 1]) (rest := []) (la := [vA 59, vI x, vI d, vI 1]) oD_59_Ge_ratioOf ml_Ge_106 mw_Ge_ratioOf mv_Ge_ratioOf rfl d_Ge_measure_107 rfl rfl rfl rfl rfl ?_
        refine s_ratioOf ⟨by omega, by omega⟩ ⟨by omega, by omega⟩ (hr x (by omega) (by omega)) (hr d (by omega) (by omega)) (by decide) ?_
        refine Rj_goto (t := 114) d_Ge_measure_110 (by decide) ?_
        refine Rj_lstore_n (q := 115) (ls' := [vA 59, vI d, vI x, vL (rat (μ 61) (μ 62) x d 1), vU]) d_Ge_measure_114 rfl rfl (by decide) rfl ?_
        refine Rj_lload_n (q := 116) d_Ge_measure_115 rfl rfl rfl ?_
        refine Rj_lconst (q := 117) (z := 0) d_Ge_measure_116 rfl rfl ?_
        refine Rj_lc_le (q := 118) (q2 := 121) (t := 140) d_Ge_measure_117 rfl d_Ge_measure_118 rfl (by decide) ⟨by omega, by omega⟩ (by decide) (fun c117 => ?_) (fun c117 => ?_)
        · exact absurd c117 (by omega)
        · refine Rj_aload_n (q := 122) d_Ge_measure_121 rfl rfl rfl ?_
          refine Rj_iload_n (q := 123) d_Ge_measure_122 rfl rfl rfl ?_
          refine Rj_iload_n (q := 124) d_Ge_measure_123 rfl rfl rfl ?_
          refine Rj_iconst (q := 125) d_Ge_measure_124 rfl ?_
          refine Rj_vo (q := 128) (z := y_Ge_ratioOf) (as := [vI x, vI d, vI 0]) (rest := []) (la := [vA 59, vI x, vI d, vI 0]) oD_59_Ge_ratioOf ml_Ge_106 mw_Ge_ratioOf mv_Ge_ratioOf rfl d_Ge_measure_125 rfl rfl rfl rfl rfl ?_
          refine s_ratioOf ⟨by omega, by omega⟩ ⟨by omega, by omega⟩ (hr x (by omega) (by omega)) (hr d (by omega) (by omega)) (by decide) ?_
          refine Rj_aload_n (q := 129) d_Ge_measure_128 rfl rfl rfl ?_
          refine Rj_gr (q := 132) (zd := 63) gD_Ge_22_59 rfl rfl d_Ge_measure_129 rfl ?_
          refine Rj_iload_n (q := 133) d_Ge_measure_132 rfl rfl rfl ?_
          refine Rj_la (q := 134) (v := μ 63 d) aD_63 rfl (by omega) rfl d_Ge_measure_133 rfl ?_
          refine Rj_lload_n (q := 135) d_Ge_measure_134 rfl rfl rfl ?_
          refine Rj_ldiv (q := 136) d_Ge_measure_135 rfl ⟨by omega, by omega⟩ ⟨by omega, by omega⟩ (by omega) ?_
          refine Rj_lmul (q := 137) d_Ge_measure_136 rfl ?_
          refine Rj_goto (t := 141) d_Ge_measure_137 (by decide) ?_
          refine Rj_lstore (q := 143) (ls' := [vA 59, vI d, vI x, vL (rat (μ 61) (μ 62) x d 1), vU, vL ((rat (μ 61) (μ 62) x d 0) * ((μ 63 d).tdiv (rat (μ 61) (μ 62) x d 1))), vU]) d_Ge_measure_141 rfl (by decide) rfl ?_
          refine Rj_aload_n (q := 144) d_Ge_measure_143 rfl rfl rfl ?_
          refine Rj_gr (q := 147) (zd := 64) gD_Ge_25_59 rfl rfl d_Ge_measure_144 rfl ?_
          refine Rj_iload_n (q := 148) d_Ge_measure_147 rfl rfl rfl ?_
          refine Rj_bipush (q := 150) d_Ge_measure_148 rfl (by decide +kernel) ?_
          refine Rj_imul (q := 151) d_Ge_measure_150 rfl ?_
          refine Rj_iload_n (q := 152) d_Ge_measure_151 rfl rfl rfl ?_
          refine Rj_iadd (q := 153) d_Ge_measure_152 rfl ?_
          refine Rj_lload (q := 155) d_Ge_measure_153 rfl rfl ?_
          refine Rj_lst (q := 156) aD_64 rfl (by omega) d_Ge_measure_155 rfl ?_
          refine Rj_iinc (q := 159) (ls' := [vA 59, vI d, vI (x + 1), vL (rat (μ 61) (μ 62) x d 1), vU, vL ((rat (μ 61) (μ 62) x d 0) * ((μ 63 d).tdiv (rat (μ 61) (μ 62) x d 1))), vU]) d_Ge_measure_156 rfl rfl (by decide) rfl ?_
          refine Rj_goto (t := 83) d_Ge_measure_159 (by decide) ?_
          refine Rj_pre (ls' := [vA 59, vI d, vI (x + 1)]) (t := [vL (rat (μ 61) (μ 62) x d 1), vU, vL ((rat (μ 61) (μ 62) x d 0) * ((μ 63 d).tdiv (rat (μ 61) (μ 62) x d 1))), vU]) rfl ?_
          refine ih (μ := (mset μ 64 ((x * 12) + d) ((rat (μ 61) (μ 62) x d 0) * ((μ 63 d).tdiv (rat (μ 61) (μ 62) x d 1))))) (by omega) hS hG hH hlo hr hL hb h01 hd (by omega) hv (fun q q1 q2 => ?_) (fun m f h => hk m (Fr.trans (Fr.put (Fr.refl _ _) ⟨rfl, x, by omega, by omega, rfl⟩) f) h)
          by_cases e : q = x
          · subst e
            rw [mset_same]
            show _ = (if μ 60 q = μ 60 d ∧ lk d = 0 then stp S (μ 60) (μ 61) (μ 62) lk q d else 0)
            rw [if_pos c100, stp, ← hv]
          · rw [mset_ne _ _ _ _ _ (by omega)]
            exact hs q q1 (by omega)
set_option maxHeartbeats 4000000 in
theorem s_measure_2 : ∀ (f : Nat) {μ : Mem} {Q : PV → Mem → Prop} {S lk : Int → Int} {d : Int}, ((S 0 - d).toNat < f) → (StrOK S) → (GS μ S) → (HI S 0 (S 0) (S 0) (μ 60) (μ 61) (μ 62)) → (∀ y, 0 ≤ y → y < S 0 → -1 ≤ μ 60 y ∧ μ 60 y < 12) → (∀ y, 0 ≤ y → y < S 0 → ((-216000 ≤ μ 61 y ∧ μ 61 y ≤ 216000) ∧ μ 61 y ≠ 0 ∧ (0 < μ 62 y ∧ μ 62 y ≤ 216000))) → (0 ≤ μ 59 7 ∧ μ 59 7 < 4096) → (∀ d, 0 ≤ d → d < S 0 → (zbit (μ 59 7) d = 1 ↔ lk d = 1)) → (∀ d, 0 ≤ d → d < S 0 → lk d = 0 ∨ lk d = 1) → (0 ≤ d ∧ d ≤ S 0) → (∀ y, 0 ≤ y → y < d → μ 63 y = bel S (μ 60) (μ 61) (μ 62) lk y) → (∀ q y, 0 ≤ q → q < S 0 → 0 ≤ y → y < d → μ 64 (q * 12 + y) = (if μ 60 q = μ 60 y ∧ lk y = 0 then stp S (μ 60) (μ 61) (μ 62) lk q y else 0)) → (∀ μ', Fr Wme μ μ' → (∀ y, 0 ≤ y → y < S 0 → μ' 63 y = bel S (μ 60) (μ 61) (μ 62) lk y) → (∀ q y, 0 ≤ q → q < S 0 → 0 ≤ y → y < S 0 → μ' 64 (q * 12 + y) = (if μ 60 q = μ 60 y ∧ lk y = 0 then stp S (μ 60) (μ 61) (μ 62) lk q y else 0)) → Q vU μ') → Rj YD y_Ge_measure 2 [vA 59, vI d] [] μ Q := by
  intro f
  induction f with
  | zero => intro μ Q S lk d hf hS hG hH hlo hr hL hb h01 hd hv hs hk; exact absurd hf (by omega)
  | succ f ih =>
    intro μ Q S lk d hf hS hG hH hlo hr hL hb h01 hd hv hs hk
    obtain ⟨hS0, hS1, hS2, hS3, hS4⟩ := id hS
    obtain ⟨G0, G1, G4, G6⟩ := id hG
    refine Rj_iload_n (q := 3) d_Ge_measure_2 rfl rfl rfl ?_
    refine Rj_aload_n (q := 4) d_Ge_measure_3 rfl rfl rfl ?_
    refine Rj_gr (q := 7) (zd := 3) gD_Ge_31_59 rfl rfl d_Ge_measure_4 rfl ?_
    refine Rj_gi (q := 10) (ki := 0) (v := μ 3 0) gD_Ge_58_3 rfl rfl rfl d_Ge_measure_7 rfl ?_
    refine Rj_icmp_ge (q := 13) (t := 168) d_Ge_measure_10 rfl (by decide) ⟨by omega, by omega⟩ ⟨by omega, by omega⟩ (fun c10 => ?_) (fun c10 => ?_)
    · have ed : d = S 0 := by omega
      subst ed
      refine Rj_vret d_Ge_measure_168 rfl ?_
      exact hk μ (Fr.refl _ _) hv hs
    · have hlt : 0 ≤ d ∧ d < S 0 := by omega
      refine Rj_aload_n (q := 14) d_Ge_measure_13 rfl rfl rfl ?_
      refine Rj_gr (q := 17) (zd := 63) gD_Ge_22_59 rfl rfl d_Ge_measure_14 rfl ?_
      refine Rj_iload_n (q := 18) d_Ge_measure_17 rfl rfl rfl ?_
      refine Rj_lconst (q := 19) (z := 1) d_Ge_measure_18 rfl rfl ?_
      refine Rj_lst (q := 20) aD_63 rfl (by omega) d_Ge_measure_19 rfl ?_
      refine Rj_iconst (q := 21) d_Ge_measure_20 rfl ?_
      refine Rj_istore_n (q := 22) (ls' := [vA 59, vI d, vI 0]) d_Ge_measure_21 rfl rfl (by decide) rfl ?_
      refine s_measure_22 (μ := mset μ 63 d 1) (lk := lk) _ (Nat.lt_succ_self _) hS hG hH hlo hr hL hb h01 hlt ⟨by decide, by omega⟩ (by rw [mset_same]; rfl) ?_
      rw [mset_mset]
      refine Rj_iconst (q := 82) d_Ge_measure_81 rfl ?_
      refine Rj_istore_n (q := 83) (ls' := [vA 59, vI d, vI 0]) d_Ge_measure_82 rfl rfl (by decide) rfl ?_
      refine s_measure_83 (μ := mset μ 63 d (bel S (μ 60) (μ 61) (μ 62) lk d)) (lk := lk) _ (Nat.lt_succ_self _) hS hG hH hlo hr hL hb h01 hlt ⟨by decide, by omega⟩ (mset_same _ _ _ _) (fun q q1 q2 => by omega) (fun m f h => ?_)
      have h : ∀ q, 0 ≤ q → q < S 0 → m 64 (q * 12 + d) = (if μ 60 q = μ 60 d ∧ lk d = 0 then stp S (μ 60) (μ 61) (μ 62) lk q d else 0) := h
      have fr : Fr Wme μ m := Fr.trans (Fr.put (Fr.refl _ _) (Or.inl rfl)) (Fr.wide f (fun c i q => Or.inr q.1))
      have r60 : m 60 = μ 60 := fr.row (fun i q => by unfold Wme at q; omega)
      have r61 : m 61 = μ 61 := fr.row (fun i q => by unfold Wme at q; omega)
      have r62 : m 62 = μ 62 := fr.row (fun i q => by unfold Wme at q; omega)
      have r59 : m 59 = μ 59 := fr.row (fun i q => by unfold Wme at q; omega)
      refine Rj_iinc (q := 165) (ls' := [vA 59, vI (d + 1)]) d_Ge_measure_162 rfl rfl (by decide) rfl ?_
      refine Rj_goto (t := 2) d_Ge_measure_165 (by decide) ?_
      refine ih (μ := m) (lk := lk) (by omega) hS (hG.me fr) (by rw [r60, r61, r62]; exact hH) (by rw [r60]; exact hlo) (by rw [r61, r62]; exact hr) (by rw [r59]; exact hL) (by rw [r59]; exact hb) h01 (by omega) (fun y y1 y2 => ?_) (fun q y q1 q2 y1 y2 => ?_) (fun m2 f2 h2 h3 => hk m2 (fr.trans f2) (by rw [r60, r61, r62] at h2; exact h2) (by rw [r60, r61, r62] at h3; exact h3))
      · rw [f 63 y (by omega), r60, r61, r62]
        by_cases e : y = d
        · subst e; rw [mset_same]
        · rw [mset_ne _ _ _ _ _ e]; exact hv y y1 (by omega)
      · rw [r60, r61, r62]
        by_cases e : y = d
        · subst e; exact h q q1 q2
        · rw [f 64 (q * 12 + y) (by rintro ⟨-, q', a, b, c⟩; omega)]
          exact hs q y q1 q2 y1 (by omega)
