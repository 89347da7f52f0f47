theorem gM_M_77_0 : GI YM "DoorsOnCogsModel" 77 0 37 (some (some 21)) := ⟨by decide, _, _, _, fl_M_77, cM_0, by decide, rfl⟩
theorem aM_21 : AI YM 21 (.int) 8192 := ⟨by decide, cM_21, by decide⟩
theorem gM_M_68_0 : GI YM "DoorsOnCogsModel" 68 0 33 (some (some 18)) := ⟨by decide, _, _, _, fl_M_68, cM_0, by decide, rfl⟩
theorem aM_18 : AI YM 18 (.long) 2000 := ⟨by decide, cM_18, by decide⟩
theorem oM_0_M_slotOf : OI YM 0 y_M_slotOf := ⟨by decide, _, _, _, cM_0, rfl⟩
theorem gM_M_403_0 : GI YM "DoorsOnCogsModel" 403 0 36 none := ⟨by decide, _, _, _, fl_M_403, cM_0, by decide, rfl⟩
theorem gM_M_71_0 : GI YM "DoorsOnCogsModel" 71 0 34 (some (some 19)) := ⟨by decide, _, _, _, fl_M_71, cM_0, by decide, rfl⟩
theorem aM_19 : AI YM 19 (.int) 2000 := ⟨by decide, cM_19, by decide⟩
theorem gM_M_74_0 : GI YM "DoorsOnCogsModel" 74 0 35 (some (some 20)) := ⟨by decide, _, _, _, fl_M_74, cM_0, by decide, rfl⟩
theorem aM_20 : AI YM 20 (.int) 2000 := ⟨by decide, cM_20, by decide⟩
theorem pM_M_403_0 : PI YM "DoorsOnCogsModel" 403 0 36 none .int := ⟨by decide, _, _, _, fl_M_403, fp_10_36, cM_0, by decide, rfl⟩
/-! the reference's table of states -/
section MORE
variable {Y : Ly} {y : Mt} {pc q : Nat} {ls st : List PV} {μ : Mem} {Q : PV → Mem → Prop}
theorem Rj_iincw {i : Nat} {n z : Int} {ls' : List PV} (hd : decode y.2.1 pc = .ok (.iinc i n, 6)) (hq : pc + 6 = q) (hz : ls[i]? = some (vI z)) (hn : i < y.2.2.1) (hs : stI i (vI (z + n)) ls = ls') (k : Rj Y y q ls' st μ Q) : Rj Y y pc ls (st) μ Q := by
  subst hq
  intro l p e s m args below meth c G H locs la hC hP hS hl
  obtain ⟨hx, hb, hr, hml, hown, hlk, hSW⟩ := id hC
  obtain ⟨kk, hk⟩ := toL_place (G := G) hz (Nat.noConfusion)
  exact lv_iincW hx hb hd hl hk (Int32.ofInt_add z n).symm hn rfl (fun la2 hl2 => k l p e s m args below meth c G H locs la2 hC hP hS (hs ▸ lh_I rfl hl2))
/-- a number of 64 bits by another one that is the same there -/
theorem Rj_nl {z z' : Int} (h : Int64.ofInt z = Int64.ofInt z') (k : Rj Y y pc ls (vL z' :: st) μ Q) : Rj Y y pc ls (vL z :: st) μ Q := by
  intro l p e s m args below meth c G H locs la hC hP hS hl
  have := k l p e s m args below meth c G H locs la hC hP hS hl
  rw [List.map_cons, pv_L] at this ⊢
  rw [h]; exact this
end MORE
/-- held to 64 bits -/
def nL (z : Int) : Int := (Int64.ofInt z).toInt
theorem nL_64 (z : Int) : i64 (nL z) := t64 _
theorem nL_eq (z : Int) : Int64.ofInt z = Int64.ofInt (nL z) := (r64 _).symm
def hM0 (t : Int) : Int := (nL (zl_xor (zl_xor t (zl_shr t 13)) (zl_shr t 29) * 40503)).tmod 8192
def hM (t : Int) : Int := if 0 ≤ hM0 t then hM0 t else hM0 t + 8192
theorem hM0_rng (t : Int) : -8192 < hM0 t ∧ hM0 t < 8192 := by
  unfold hM0
  generalize nL (zl_xor (zl_xor t (zl_shr t 13)) (zl_shr t 29) * 40503) = a
  have h1 := Int.tmod_add_mul_tdiv a 8192
  have h2 := tdiv_bd (a := a) (b := 8192) (by decide)
  rcases Int.le_total 0 a with q | q
  · rw [Int.tmod_eq_emod_of_nonneg q]; omega
  · have e : a.tmod 8192 = -((-a) % 8192) := by
      have := Int.neg_tmod (-a) 8192
      rw [Int.neg_neg, Int.tmod_eq_emod_of_nonneg (show 0 ≤ -a by omega)] at this
      exact this
    omega
theorem hM_rng (t : Int) : 0 ≤ hM t ∧ hM t < 8192 := by
  have := hM0_rng t
  unfold hM
  split <;> omega
set_option maxHeartbeats 4000000 in
theorem s_M_slotOf_l : ∀ (f : Nat) {μ : Mem} {Q : PV → Mem → Prop} {t p m i : Int}, ((8192 - i).toNat < f) → (HTB 8192 (μ 21) (μ 18) hM m) → (m ≤ 2000) → (∀ s, 0 ≤ s → s < m → i64 (μ 18 s)) → (i64 t) → (0 ≤ i ∧ i ≤ 8192) → (p = (hM t + i) % 8192) → (∀ j, 0 ≤ j → j < i → μ 21 ((hM t + j) % 8192) ≠ 0 ∧ μ 18 (μ 21 ((hM t + j) % 8192) - 1) ≠ t) → (∀ p s, 0 ≤ p ∧ p < 8192 → μ 21 p = s + 1 → 0 ≤ s ∧ s < m → μ 18 s = t → Q (vI p) μ) → (∀ p, ¬ KN (μ 18) m t → FRE 8192 (μ 21) hM t p → Q (vI p) μ) → Rj YM y_M_slotOf 31 [vA 0, vL t, vU, vI p] [] μ Q := by
  intro f
  induction f with
  | zero => intro μ Q t p m i hf H hmm hb18 ht hi hp hv h1 h0; exact absurd hf (by omega)
  | succ f ih =>
    intro μ Q t p m i hf H hmm hb18 ht hi hp hv h1 h0
    have hr := hM_rng t
    have pr : 0 ≤ p ∧ p < 8192 := by rw [hp]; exact ⟨Int.emod_nonneg _ (by decide), Int.emod_lt_of_pos _ (by decide)⟩
    have T1 := H.2.1 p pr.1 pr.2
    refine Rj_aload_n (q := 32) d_M_slotOf_31 rfl rfl rfl ?_
    refine Rj_gr (q := 35) (zd := 21) gM_M_77_0 rfl rfl d_M_slotOf_32 rfl ?_
    refine Rj_iload_n (q := 36) d_M_slotOf_35 rfl rfl rfl ?_
    refine Rj_ia (q := 37) (v := μ 21 p) aM_21 rfl (by omega) rfl d_M_slotOf_36 rfl ?_
    refine Rj_if_le (q := 40) (t := 69) d_M_slotOf_37 rfl (by decide) ⟨by omega, by omega⟩ (fun c37 => ?_) (fun c37 => ?_)
    · refine Rj_iload_n (q := 70) d_M_slotOf_69 rfl rfl rfl ?_
      refine Rj_iret d_M_slotOf_70 rfl ?_
      first
      | exact h1 p (μ 21 p - 1) pr (by omega) (by omega) c54
      | (have hz0 : μ 21 p = 0 := by omega
         have hz : μ 21 ((hM t + i) % 8192) = 0 := by rw [← hp]; exact hz0
         exact h0 p (H.no hi.1 hv hz) ⟨pr, hz0, i, hi.1, hp, fun j j0 j1 => (hv j j0 j1).1⟩)
    · have tb := hb18 (μ 21 p - 1) (by omega) (by omega)
      refine Rj_aload_n (q := 41) d_M_slotOf_40 rfl rfl rfl ?_
      refine Rj_gr (q := 44) (zd := 18) gM_M_68_0 rfl rfl d_M_slotOf_41 rfl ?_
      refine Rj_aload_n (q := 45) d_M_slotOf_44 rfl rfl rfl ?_
      refine Rj_gr (q := 48) (zd := 21) gM_M_77_0 rfl rfl d_M_slotOf_45 rfl ?_
      refine Rj_iload_n (q := 49) d_M_slotOf_48 rfl rfl rfl ?_
      refine Rj_ia (q := 50) (v := μ 21 p) aM_21 rfl (by omega) rfl d_M_slotOf_49 rfl ?_
      refine Rj_iconst (q := 51) d_M_slotOf_50 rfl ?_
      refine Rj_isub (q := 52) d_M_slotOf_51 rfl ?_
      refine Rj_la (q := 53) (v := μ 18 ((μ 21 p) - 1)) aM_18 rfl (by omega) rfl d_M_slotOf_52 rfl ?_
      refine Rj_lload_n (q := 54) d_M_slotOf_53 rfl rfl rfl ?_
      refine Rj_lc_eq (q := 55) (q2 := 58) (t := 69) d_M_slotOf_54 rfl d_M_slotOf_55 rfl (by decide) (by first | exact tb | exact ht) (by first | exact tb | exact ht) (fun c54 => ?_) (fun c54 => ?_)
      · refine Rj_iload_n (q := 70) d_M_slotOf_69 rfl rfl rfl ?_
        refine Rj_iret d_M_slotOf_70 rfl ?_
        first
        | exact h1 p (μ 21 p - 1) pr (by omega) (by omega) c54
        | (have hz0 : μ 21 p = 0 := by omega
           have hz : μ 21 ((hM t + i) % 8192) = 0 := by rw [← hp]; exact hz0
           exact h0 p (H.no hi.1 hv hz) ⟨pr, hz0, i, hi.1, hp, fun j j0 j1 => (hv j j0 j1).1⟩)
      · refine Rj_iload_n (q := 59) d_M_slotOf_58 rfl rfl rfl ?_
        refine Rj_iconst (q := 60) d_M_slotOf_59 rfl ?_
        refine Rj_iadd (q := 61) d_M_slotOf_60 rfl ?_
        refine Rj_sipush (q := 64) d_M_slotOf_61 rfl (by decide +kernel) ?_
        refine Rj_irem (q := 65) d_M_slotOf_64 rfl ⟨by omega, by omega⟩ (by decide) (by decide) ?_
        rw [show (p + 1).tmod 8192 = (p + 1) % 8192 from Int.tmod_eq_emod_of_nonneg (by omega)]
        refine Rj_istore_n (q := 66) (ls' := [vA 0, vL t, vU, vI ((p + 1) % 8192)]) d_M_slotOf_65 rfl rfl (by decide) rfl ?_
        refine Rj_goto (t := 31) d_M_slotOf_66 (by decide) ?_
        have hi2 : i < 8192 := by
          rcases Int.lt_or_le i 8192 with q | q
          · exact q
          · exact absurd (H.end hr.1 (fun j j0 j1 => (hv j j0 (by have : j < 8192 := j1; omega)).1)) id
        refine ih (i := i + 1) (by omega) H hmm hb18 ht (by omega) (by rw [hp]; exact mod_step (by decide)) (fun j j0 j1 => ?_) h1 h0
        by_cases e : j = i
        · rw [e, ← hp]; exact ⟨by omega, c54⟩
        · exact hv j j0 (by omega)
set_option maxHeartbeats 4000000 in
theorem s_M_slotOf {μ : Mem} {Q : PV → Mem → Prop} {t m : Int} (H : HTB 8192 (μ 21) (μ 18) hM m) (hmm : m ≤ 2000) (hb18 : ∀ s, 0 ≤ s → s < m → i64 (μ 18 s)) (ht : i64 t) (h1 : ∀ p s, 0 ≤ p ∧ p < 8192 → μ 21 p = s + 1 → 0 ≤ s ∧ s < m → μ 18 s = t → Q (vI p) μ) (h0 : ∀ p, ¬ KN (μ 18) m t → FRE 8192 (μ 21) hM t p → Q (vI p) μ) : Rj YM y_M_slotOf 0 [vA 0, vL t, vU] [] μ Q := by
  have hr := hM_rng t
  have hr0 := hM0_rng t
  refine Rj_lload_n (q := 1) d_M_slotOf_0 rfl rfl rfl ?_
  refine Rj_lload_n (q := 2) d_M_slotOf_1 rfl rfl rfl ?_
  refine Rj_bipush (q := 4) d_M_slotOf_2 rfl (by decide +kernel) ?_
  refine Rj_lshr (q := 5) (z := zl_shr t 13) d_M_slotOf_4 rfl rfl ?_
  refine Rj_lxor (q := 6) (z := zl_xor t (zl_shr t 13)) d_M_slotOf_5 rfl rfl ?_
  refine Rj_lload_n (q := 7) d_M_slotOf_6 rfl rfl rfl ?_
  refine Rj_bipush (q := 9) d_M_slotOf_7 rfl (by decide +kernel) ?_
  refine Rj_lshr (q := 10) (z := zl_shr t 29) d_M_slotOf_9 rfl rfl ?_
  refine Rj_lxor (q := 11) (z := zl_xor (zl_xor t (zl_shr t 13)) (zl_shr t 29)) d_M_slotOf_10 rfl rfl ?_
  refine Rj_ldc2 (q := 14) k_M_395 d_M_slotOf_11 rfl ?_
  refine Rj_lmul (q := 15) d_M_slotOf_14 rfl ?_
  refine Rj_nl (z' := nL (zl_xor (zl_xor t (zl_shr t 13)) (zl_shr t 29) * 40503)) (nL_eq _) ?_
  refine Rj_ldc2 (q := 18) k_M_397 d_M_slotOf_15 rfl ?_
  refine Rj_lrem (q := 19) d_M_slotOf_18 rfl (nL_64 _) (by decide) (by decide) ?_
  rw [show (nL (zl_xor (zl_xor t (zl_shr t 13)) (zl_shr t 29) * 40503)).tmod 8192 = hM0 t from rfl]
  refine Rj_l2i (q := 20) d_M_slotOf_19 rfl ?_
  refine Rj_istore_n (q := 21) (ls' := [vA 0, vL t, vU, vI (hM0 t)]) d_M_slotOf_20 rfl rfl (by decide) rfl ?_
  refine Rj_iload_n (q := 22) d_M_slotOf_21 rfl rfl rfl ?_
  refine Rj_if_ge (q := 25) (t := 31) d_M_slotOf_22 rfl (by decide) ⟨by omega, by omega⟩ (fun c22 => ?_) (fun c22 => ?_)
  · refine Rj_eql (ls' := [vA 0, vL t, vU, vI (hM t)]) (by unfold hM; rw [if_pos c22]) ?_
    exact s_M_slotOf_l (i := 0) _ (Nat.lt_succ_self _) H hmm hb18 ht (by decide) (by rw [Int.add_zero, Int.emod_eq_of_lt hr.1 hr.2]) (fun j j0 j1 => by omega) h1 h0
  · refine Rj_iincw (q := 31) (ls' := [vA 0, vL t, vU, vI ((hM0 t) + 8192)]) d_M_slotOf_25 rfl rfl (by decide) rfl ?_
    refine Rj_eql (ls' := [vA 0, vL t, vU, vI (hM t)]) (by unfold hM; rw [if_neg (by omega)]) ?_
    exact s_M_slotOf_l (i := 0) _ (Nat.lt_succ_self _) H hmm hb18 ht (by decide) (by rw [Int.add_zero, Int.emod_eq_of_lt hr.1 hr.2]) (fun j j0 j1 => by omega) h1 h0
set_option maxHeartbeats 4000000 in
theorem s_M_isKnown {μ : Mem} {Q : PV → Mem → Prop} {t m : Int} (H : HTB 8192 (μ 21) (μ 18) hM m) (hmm : m ≤ 2000) (hb18 : ∀ s, 0 ≤ s → s < m → i64 (μ 18 s)) (ht : i64 t) (h1 : KN (μ 18) m t → Q (vI 1) μ) (h0 : ¬ KN (μ 18) m t → Q (vI 0) μ) : Rj YM y_M_isKnown 0 [vA 0, vL t, vU] [] μ Q := by
  refine Rj_aload_n (q := 1) d_M_isKnown_0 rfl rfl rfl ?_
  refine Rj_gr (q := 4) (zd := 21) gM_M_77_0 rfl rfl d_M_isKnown_1 rfl ?_
  refine Rj_aload_n (q := 5) d_M_isKnown_4 rfl rfl rfl ?_
  refine Rj_lload_n (q := 6) d_M_isKnown_5 rfl rfl rfl ?_
  refine Rj_vo (q := 9) (z := y_M_slotOf) (as := [vL t]) (rest := [vA 21]) (la := [vA 0, vL t, vU]) oM_0_M_slotOf ml_M_399 mw_M_slotOf mv_M_slotOf rfl d_M_isKnown_6 rfl rfl rfl rfl rfl ?_
  refine s_M_slotOf H hmm hb18 ht (fun p s k1 k2 k3 k4 => ?_) (fun p k1 k2 => ?_)
  · have kz := True.intro
    refine Rj_ia (q := 10) (v := μ 21 p) aM_21 rfl (by omega) rfl d_M_isKnown_9 rfl ?_
    refine Rj_if_le (q := 13) (t := 17) d_M_isKnown_10 rfl (by decide) (by first | (rw [k2]; exact ⟨by omega, by omega⟩) | (rw [k2.2.1]; decide)) (fun c10 => ?_) (fun c10 => ?_)
    · refine Rj_iconst (q := 18) d_M_isKnown_17 rfl ?_
      refine Rj_bret0 d_M_isKnown_18 rfl ?_
      first | exact h1 ⟨s, k3.1, k3.2, k4⟩ | exact h0 k1 | (exfalso; have := k2; omega) | (exfalso; have := k2.2.1; omega)
    · refine Rj_iconst (q := 14) d_M_isKnown_13 rfl ?_
      refine Rj_goto (t := 18) d_M_isKnown_14 (by decide) ?_
      refine Rj_bret1 d_M_isKnown_18 rfl ?_
      first | exact h1 ⟨s, k3.1, k3.2, k4⟩ | exact h0 k1 | (exfalso; have := k2; omega) | (exfalso; have := k2.2.1; omega)
  · have k3 := k2.1
    refine Rj_ia (q := 10) (v := μ 21 p) aM_21 rfl (by omega) rfl d_M_isKnown_9 rfl ?_
    refine Rj_if_le (q := 13) (t := 17) d_M_isKnown_10 rfl (by decide) (by first | (rw [k2]; exact ⟨by omega, by omega⟩) | (rw [k2.2.1]; decide)) (fun c10 => ?_) (fun c10 => ?_)
    · refine Rj_iconst (q := 18) d_M_isKnown_17 rfl ?_
      refine Rj_bret0 d_M_isKnown_18 rfl ?_
      first | exact h1 ⟨s, k3.1, k3.2, k4⟩ | exact h0 k1 | (exfalso; have := k2; omega) | (exfalso; have := k2.2.1; omega)
    · refine Rj_iconst (q := 14) d_M_isKnown_13 rfl ?_
      refine Rj_goto (t := 18) d_M_isKnown_14 (by decide) ?_
      refine Rj_bret1 d_M_isKnown_18 rfl ?_
      first | exact h1 ⟨s, k3.1, k3.2, k4⟩ | exact h0 k1 | (exfalso; have := k2; omega) | (exfalso; have := k2.2.1; omega)
set_option maxHeartbeats 4000000 in
theorem s_M_comesTo {μ : Mem} {Q : PV → Mem → Prop} {t m b c : Int} (H : HTB 8192 (μ 21) (μ 18) hM m) (hmm : m ≤ 2000) (hb18 : ∀ s, 0 ≤ s → s < m → i64 (μ 18 s)) (ht : i64 t) (hm : μ 0 36 = m) (h20 : m < 2000) (hnk : ¬ KN (μ 18) m t) (hQ : ∀ μ', Fr (fun c i => c = 21 ∨ (c = 18 ∧ i = m) ∨ (c = 19 ∧ i = m) ∨ (c = 20 ∧ i = m) ∨ (c = 0 ∧ i = 36)) μ μ' → HTB 8192 (μ' 21) (μ' 18) hM (m + 1) → μ' 18 m = t → μ' 19 m = b → μ' 20 m = c → μ' 0 36 = m + 1 → Q vU μ') : Rj YM y_M_comesTo 0 [vA 0, vL t, vU, vI b, vI c] [] μ Q := by
  have m0 := H.1.1
  refine Rj_aload_n (q := 1) d_M_comesTo_0 rfl rfl rfl ?_
  refine Rj_gr (q := 4) (zd := 21) gM_M_77_0 rfl rfl d_M_comesTo_1 rfl ?_
  refine Rj_aload_n (q := 5) d_M_comesTo_4 rfl rfl rfl ?_
  refine Rj_lload_n (q := 6) d_M_comesTo_5 rfl rfl rfl ?_
  refine Rj_vo (q := 9) (z := y_M_slotOf) (as := [vL t]) (rest := [vA 21]) (la := [vA 0, vL t, vU]) oM_0_M_slotOf ml_M_399 mw_M_slotOf mv_M_slotOf rfl d_M_comesTo_6 rfl rfl rfl rfl rfl ?_
  refine s_M_slotOf H hmm hb18 ht (fun p s k1 k2 k3 k4 => ?_) (fun p k1 k2 => ?_)
  · have kz := True.intro
    refine Rj_aload_n (q := 10) d_M_comesTo_9 rfl rfl rfl ?_
    refine Rj_gi (q := 13) (ki := 36) (v := m) gM_M_403_0 rfl rfl hm d_M_comesTo_10 rfl ?_
    refine Rj_iconst (q := 14) d_M_comesTo_13 rfl ?_
    refine Rj_iadd (q := 15) d_M_comesTo_14 rfl ?_
    refine Rj_is (q := 16) aM_21 rfl (by omega) d_M_comesTo_15 rfl ?_
    refine Rj_aload_n (q := 17) d_M_comesTo_16 rfl rfl rfl ?_
    refine Rj_gr (q := 20) (zd := 18) gM_M_68_0 rfl rfl d_M_comesTo_17 rfl ?_
    refine Rj_aload_n (q := 21) d_M_comesTo_20 rfl rfl rfl ?_
    refine Rj_gi (q := 24) (ki := 36) (v := m) gM_M_403_0 rfl rfl hm d_M_comesTo_21 rfl ?_
    refine Rj_lload_n (q := 25) d_M_comesTo_24 rfl rfl rfl ?_
    refine Rj_lst (q := 26) aM_18 rfl (by omega) d_M_comesTo_25 rfl ?_
    refine Rj_aload_n (q := 27) d_M_comesTo_26 rfl rfl rfl ?_
    refine Rj_gr (q := 30) (zd := 19) gM_M_71_0 rfl rfl d_M_comesTo_27 rfl ?_
    refine Rj_aload_n (q := 31) d_M_comesTo_30 rfl rfl rfl ?_
    refine Rj_gi (q := 34) (ki := 36) (v := m) gM_M_403_0 rfl rfl hm d_M_comesTo_31 rfl ?_
    refine Rj_iload_n (q := 35) d_M_comesTo_34 rfl rfl rfl ?_
    refine Rj_is (q := 36) aM_19 rfl (by omega) d_M_comesTo_35 rfl ?_
    refine Rj_aload_n (q := 37) d_M_comesTo_36 rfl rfl rfl ?_
    refine Rj_gr (q := 40) (zd := 20) gM_M_74_0 rfl rfl d_M_comesTo_37 rfl ?_
    refine Rj_aload_n (q := 41) d_M_comesTo_40 rfl rfl rfl ?_
    refine Rj_gi (q := 44) (ki := 36) (v := m) gM_M_403_0 rfl rfl hm d_M_comesTo_41 rfl ?_
    refine Rj_iload (q := 46) d_M_comesTo_44 rfl rfl ?_
    refine Rj_is (q := 47) aM_20 rfl (by omega) d_M_comesTo_46 rfl ?_
    refine Rj_aload_n (q := 48) d_M_comesTo_47 rfl rfl rfl ?_
    refine Rj_dup (q := 49) d_M_comesTo_48 rfl (by intro h; cases h) ?_
    refine Rj_gi (q := 52) (ki := 36) (v := m) gM_M_403_0 rfl rfl hm d_M_comesTo_49 rfl ?_
    refine Rj_iconst (q := 53) d_M_comesTo_52 rfl ?_
    refine Rj_iadd (q := 54) d_M_comesTo_53 rfl ?_
    refine Rj_pi (q := 57) (ki := 36) pM_M_403_0 rfl rfl d_M_comesTo_54 rfl ?_
    refine Rj_vret d_M_comesTo_57 rfl ?_
    exact absurd ⟨s, k3.1, k3.2, k4⟩ hnk
  · have k3 := k2.1
    refine Rj_aload_n (q := 10) d_M_comesTo_9 rfl rfl rfl ?_
    refine Rj_gi (q := 13) (ki := 36) (v := m) gM_M_403_0 rfl rfl hm d_M_comesTo_10 rfl ?_
    refine Rj_iconst (q := 14) d_M_comesTo_13 rfl ?_
    refine Rj_iadd (q := 15) d_M_comesTo_14 rfl ?_
    refine Rj_is (q := 16) aM_21 rfl (by omega) d_M_comesTo_15 rfl ?_
    refine Rj_aload_n (q := 17) d_M_comesTo_16 rfl rfl rfl ?_
    refine Rj_gr (q := 20) (zd := 18) gM_M_68_0 rfl rfl d_M_comesTo_17 rfl ?_
    refine Rj_aload_n (q := 21) d_M_comesTo_20 rfl rfl rfl ?_
    refine Rj_gi (q := 24) (ki := 36) (v := m) gM_M_403_0 rfl rfl hm d_M_comesTo_21 rfl ?_
    refine Rj_lload_n (q := 25) d_M_comesTo_24 rfl rfl rfl ?_
    refine Rj_lst (q := 26) aM_18 rfl (by omega) d_M_comesTo_25 rfl ?_
    refine Rj_aload_n (q := 27) d_M_comesTo_26 rfl rfl rfl ?_
    refine Rj_gr (q := 30) (zd := 19) gM_M_71_0 rfl rfl d_M_comesTo_27 rfl ?_
    refine Rj_aload_n (q := 31) d_M_comesTo_30 rfl rfl rfl ?_
    refine Rj_gi (q := 34) (ki := 36) (v := m) gM_M_403_0 rfl rfl hm d_M_comesTo_31 rfl ?_
    refine Rj_iload_n (q := 35) d_M_comesTo_34 rfl rfl rfl ?_
    refine Rj_is (q := 36) aM_19 rfl (by omega) d_M_comesTo_35 rfl ?_
    refine Rj_aload_n (q := 37) d_M_comesTo_36 rfl rfl rfl ?_
    refine Rj_gr (q := 40) (zd := 20) gM_M_74_0 rfl rfl d_M_comesTo_37 rfl ?_
    refine Rj_aload_n (q := 41) d_M_comesTo_40 rfl rfl rfl ?_
    refine Rj_gi (q := 44) (ki := 36) (v := m) gM_M_403_0 rfl rfl hm d_M_comesTo_41 rfl ?_
    refine Rj_iload (q := 46) d_M_comesTo_44 rfl rfl ?_
    refine Rj_is (q := 47) aM_20 rfl (by omega) d_M_comesTo_46 rfl ?_
    refine Rj_aload_n (q := 48) d_M_comesTo_47 rfl rfl rfl ?_
    refine Rj_dup (q := 49) d_M_comesTo_48 rfl (by intro h; cases h) ?_
    refine Rj_gi (q := 52) (ki := 36) (v := m) gM_M_403_0 rfl rfl hm d_M_comesTo_49 rfl ?_
    refine Rj_iconst (q := 53) d_M_comesTo_52 rfl ?_
    refine Rj_iadd (q := 54) d_M_comesTo_53 rfl ?_
    refine Rj_pi (q := 57) (ki := 36) pM_M_403_0 rfl rfl d_M_comesTo_54 rfl ?_
    refine Rj_vret d_M_comesTo_57 rfl ?_
    refine hQ _ (Fr.put (Fr.put (Fr.put (Fr.put (Fr.put (Fr.refl _ _) (Or.inl rfl)) (Or.inr (Or.inl ⟨rfl, rfl⟩))) (Or.inr (Or.inr (Or.inl ⟨rfl, rfl⟩)))) (Or.inr (Or.inr (Or.inr (Or.inl ⟨rfl, rfl⟩))))) (Or.inr (Or.inr (Or.inr (Or.inr ⟨rfl, rfl⟩))))) ?_ ?_ ?_ ?_ rfl
    · have := H.put (by have : m + 1 < 8192 := by omega
                        exact this) k2
      simpa [mset_fs, mset_nc] using this
    · simp [mset]
    · simp [mset]
    · simp [mset]
