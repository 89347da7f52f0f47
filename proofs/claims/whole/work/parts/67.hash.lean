theorem gD_Pl_22_74 : GI YD "DoorsOnCogs$Planner" 22 74 5 (some (some 78)) := ⟨by decide, _, _, _, fl_Pl_22, cD_74, by decide, rfl⟩
theorem aD_78 : AI YD 78 (.int) 4096 := ⟨by decide, cD_78, by decide⟩
theorem gD_Pl_11_74 : GI YD "DoorsOnCogs$Planner" 11 74 2 (some (some 75)) := ⟨by decide, _, _, _, fl_Pl_11, cD_74, by decide, rfl⟩
theorem aD_75 : AI YD 75 (.long) 2000 := ⟨by decide, cD_75, by decide⟩
theorem pD_Pl_162_74 : PI YD "DoorsOnCogs$Planner" 162 74 7 none .int := ⟨by decide, _, _, _, fl_Pl_162, fp_3_7, cD_74, by decide, rfl⟩
/-! tables in which states are looked up -/
/-- N slots T, states below m whose numbers are tn, looked for from h on -/
def HTB (N : Nat) (T tn : Int → Int) (h : Int → Int) (m : Int) : Prop := (0 ≤ m ∧ m < (N : Int)) ∧ (∀ p, 0 ≤ p → p < (N : Int) → 0 ≤ T p ∧ T p ≤ m) ∧
  (∀ s, 0 ≤ s → s < m → ∃ i : Int, 0 ≤ i ∧ T ((h (tn s) + i) % (N : Int)) = s + 1 ∧ ∀ j, 0 ≤ j → j < i → T ((h (tn s) + j) % (N : Int)) ≠ 0) ∧ ((cntB (fun p => decide (T (p : Int) ≠ 0)) N : Nat) : Int) = m
/-- t is among the states -/
def KN (tn : Int → Int) (m t : Int) : Prop := ∃ s, 0 ≤ s ∧ s < m ∧ tn s = t
/-- the slot p is where t belongs -/
def FRE (N : Nat) (T : Int → Int) (h : Int → Int) (t p : Int) : Prop := (0 ≤ p ∧ p < (N : Int)) ∧ T p = 0 ∧ ∃ i : Int, 0 ≤ i ∧ p = (h t + i) % (N : Int) ∧ ∀ j, 0 ≤ j → j < i → T ((h t + j) % (N : Int)) ≠ 0
theorem HTB.no {N : Nat} {T tn h : Int → Int} {m t i : Int} (H : HTB N T tn h m) (i0 : 0 ≤ i) (hb : ∀ j, 0 ≤ j → j < i → T ((h t + j) % (N : Int)) ≠ 0 ∧ tn (T ((h t + j) % (N : Int)) - 1) ≠ t) (hz : T ((h t + i) % (N : Int)) = 0) : ¬ KN tn m t := by
  rintro ⟨s, s0, s1, s2⟩
  obtain ⟨i', i'0, e1, e2⟩ := H.2.2.1 s s0 s1
  rw [s2] at e1 e2
  rcases Int.lt_trichotomy i i' with q | q | q
  · exact e2 i i0 q hz
  · rw [q] at hz; omega
  · have := (hb i' i'0 q).2
    rw [e1, show s + 1 - 1 = s by omega] at this
    exact this s2
theorem cntB_all {p : Nat → Bool} : ∀ n : Nat, (∀ k, k < n → p k = true) → cntB p n = n
  | 0, _ => rfl
  | n + 1, h => by unfold cntB; rw [cntB_all n (fun k hk => h k (by omega)), if_pos (h n (by omega))]
theorem HTB.end {N : Nat} {T tn h : Int → Int} {m t : Int} (H : HTB N T tn h m) (hh : 0 ≤ h t) (hb : ∀ j, 0 ≤ j → j < (N : Int) → T ((h t + j) % (N : Int)) ≠ 0) : False := by
  have hN : 0 < (N : Int) := by have := H.1; omega
  have e : cntB (fun p => decide (T (p : Int) ≠ 0)) N = N := cntB_all N (fun k hk => by
    refine decide_eq_true ?_
    have := hb (((k : Int) - h t) % (N : Int)) (Int.emod_nonneg _ (by omega)) (Int.emod_lt_of_pos _ hN)
    rw [Int.add_emod_emod] at this
    rw [show h t + ((k : Int) - h t) = (k : Int) by omega, Int.emod_eq_of_lt (by omega) (by omega)] at this
    exact this)
  have := H.2.2.2
  have := H.1
  omega
theorem HTB.put {N : Nat} {T tn h : Int → Int} {m t p : Int} (H : HTB N T tn h m) (hm : m + 1 < (N : Int)) (F : FRE N T h t p) : HTB N (fset T p (m + 1)) (fset tn m t) h (m + 1) := by
  obtain ⟨h1, h2, h3, h4⟩ := H
  obtain ⟨f1, f2, i, i0, ei, f3⟩ := F
  refine ⟨by omega, fun q q0 q1 => ?_, fun s s0 s1 => ?_, ?_⟩
  · by_cases e : q = p
    · rw [e, fset_same]; omega
    · rw [fset_ne _ e]; have := h2 q q0 q1; omega
  · by_cases e : s = m
    · rw [e, fset_same]
      refine ⟨i, i0, by rw [← ei, fset_same], fun j j0 j1 => ?_⟩
      have := f3 j j0 j1
      by_cases e2 : (h t + j) % (N : Int) = p
      · rw [e2] at this; exact absurd f2 this
      · rw [fset_ne _ e2]; exact this
    · obtain ⟨i', i'0, e1, e2⟩ := h3 s s0 (by omega)
      rw [fset_ne _ e]
      refine ⟨i', i'0, ?_, fun j j0 j1 => ?_⟩
      · rw [fset_ne _ (fun q => by rw [q, f2] at e1; omega)]; exact e1
      · have := e2 j j0 j1
        rw [fset_ne _ (fun q => this (by rw [q, f2]))]; exact this
  · have e : cntB (fun q => if q = p.toNat then true else decide (T (q : Int) ≠ 0)) N = cntB (fun q => decide (T (q : Int) ≠ 0)) N + 1 :=
      cntB_set (by rw [show ((p.toNat : Nat) : Int) = p by omega, f2]; rfl) N (by omega)
    have e2 : cntB (fun q => decide (fset T p (m + 1) (q : Int) ≠ 0)) N = cntB (fun q => if q = p.toNat then true else decide (T (q : Int) ≠ 0)) N := by
      refine cntB_congr _ (fun q hq => ?_)
      by_cases e3 : q = p.toNat
      · rw [if_pos e3, show (q : Int) = p by omega, fset_same]
        exact decide_eq_true (by omega)
      · rw [if_neg e3, fset_ne _ (by omega)]
    rw [e2, e]
    omega
theorem HTB.empty {N : Nat} {T tn h : Int → Int} (hN : 0 < N) (hT : ∀ p, 0 ≤ p → p < (N : Int) → T p = 0) : HTB N T tn h 0 := by
  refine ⟨by omega, fun p p0 p1 => by rw [hT p p0 p1]; decide, fun s s0 s1 => by omega, ?_⟩
  have : ∀ n : Nat, n ≤ N → cntB (fun p => decide (T (p : Int) ≠ 0)) n = 0 := by
    intro n
    induction n with
    | zero => intro _; rfl
    | succ n ih =>
      intro hn
      unfold cntB
      rw [ih (by omega), if_neg (by rw [hT (n : Int) (by omega) (by omega)]; decide)]
  rw [this N (Nat.le_refl _)]; rfl
theorem mod_step {a i N : Int} (hN : 0 < N) : ((a + i) % N + 1) % N = (a + (i + 1)) % N := by
  rw [Int.emod_add_emod, Int.add_assoc]
theorem z_and_mask {a : Int} (h0 : 0 ≤ a) (h1 : a < 2147483648) : z_and a 4095 = a % 4096 := by
  obtain ⟨k, rfl⟩ := set_nat h0
  have := z_and_n (a := k) (b := 4095) (by omega)
  rw [Nat.and_two_pow_sub_one_eq_mod k 12] at this
  have e : z_and (k : Int) 4095 = ((k % 2 ^ 12 : Nat) : Int) := this
  rw [e]
  omega
/-- the class's first slot of a number -/
def hD (t : Int) : Int := zl_ush (t * -7046029254386353131) 52
theorem hD_rng (t : Int) : 0 ≤ hD t ∧ hD t < 4096 := by
  unfold hD zl_ush
  obtain ⟨m, hm, he⟩ := wb_of (Int64.ofInt (t * -7046029254386353131))
  rw [he, show (Int32.ofInt 52) = nI 52 from rfl, wb_shr hm (by decide)]
  have h : m / 2 ^ 52 < 4096 := Nat.div_lt_of_lt_mul (by omega)
  have e : (lN (m / 2 ^ 52)).toInt = ((m / 2 ^ 52 : Nat) : Int) := by
    rw [← zN64]
    exact o64 ⟨by omega, by omega⟩
  rw [e]
  omega
set_option maxHeartbeats 4000000 in
theorem s_isKnown_l : ∀ (f : Nat) {μ : Mem} {Q : PV → Mem → Prop} {t p i m : Int} {l5 : PV}, ((4096 - i).toNat < f) → (HTB 4096 (μ 78) (μ 75) hD m) → (μ 74 6 = m) → (∀ s, 0 ≤ s → s < m → i64 (μ 75 s)) → (i64 t) → (m ≤ 2000) → (0 ≤ i ∧ i ≤ 4096) → (p = (hD t + i) % 4096) → (∀ j, 0 ≤ j → j < i → μ 78 ((hD t + j) % 4096) ≠ 0 ∧ μ 75 (μ 78 ((hD t + j) % 4096) - 1) ≠ t) → (KN (μ 75) m t → Q (vI 1) μ) → (∀ p, ¬ KN (μ 75) m t → FRE 4096 (μ 78) hD t p → Q (vI 0) (mset μ 74 7 p)) → Rj YD y_Pl_isKnown 13 [vA 74, vL t, vU, vI p, vI i] [] μ Q := by
  intro f
  induction f with
  | zero => intro μ Q t p i m l5 hf H hm hb75 ht hmm hi hp hv h1 h0; exact absurd hf (by omega)
  | succ f ih =>
    intro μ Q t p i m l5 hf H hm hb75 ht hmm hi hp hv h1 h0
    have hr := hD_rng t
    have pr : 0 ≤ p ∧ p < 4096 := by rw [hp]; exact ⟨Int.emod_nonneg _ (by decide), Int.emod_lt_of_pos _ (by decide)⟩
    have T1 := H.2.1 p pr.1 pr.2
    refine Rj_iload (q := 15) d_Pl_isKnown_13 rfl rfl ?_
    refine Rj_sipush (q := 18) d_Pl_isKnown_15 rfl (by decide +kernel) ?_
    refine Rj_icmp_ge (q := 21) (t := 71) d_Pl_isKnown_18 rfl (by decide) ⟨by omega, by omega⟩ (by decide) (fun c18 => ?_) (fun c18 => ?_)
    · exact absurd (H.end hr.1 (fun j j0 j1 => (hv j j0 (by have : j < 4096 := j1; omega)).1)) id
    · refine Rj_aload_n (q := 22) d_Pl_isKnown_21 rfl rfl rfl ?_
      refine Rj_gr (q := 25) (zd := 78) gD_Pl_22_74 rfl rfl d_Pl_isKnown_22 rfl ?_
      refine Rj_iload_n (q := 26) d_Pl_isKnown_25 rfl rfl rfl ?_
      refine Rj_ia (q := 27) (v := μ 78 p) aD_78 rfl (by omega) rfl d_Pl_isKnown_26 rfl ?_
      refine Rj_istore (q := 29) (ls' := [vA 74, vL t, vU, vI p, vI i, vI (μ 78 p)]) d_Pl_isKnown_27 rfl (by decide) rfl ?_
      refine Rj_iload (q := 31) d_Pl_isKnown_29 rfl rfl ?_
      refine Rj_if_ne (q := 34) (t := 41) d_Pl_isKnown_31 rfl (by decide) ⟨by omega, by omega⟩ (fun c31 => ?_) (fun c31 => ?_)
      · have tb := hb75 (μ 78 p - 1) (by omega) (by omega)
        refine Rj_aload_n (q := 42) d_Pl_isKnown_41 rfl rfl rfl ?_
        refine Rj_gr (q := 45) (zd := 75) gD_Pl_11_74 rfl rfl d_Pl_isKnown_42 rfl ?_
        refine Rj_iload (q := 47) d_Pl_isKnown_45 rfl rfl ?_
        refine Rj_iconst (q := 48) d_Pl_isKnown_47 rfl ?_
        refine Rj_isub (q := 49) d_Pl_isKnown_48 rfl ?_
        refine Rj_la (q := 50) (v := μ 75 ((μ 78 p) - 1)) aD_75 rfl (by omega) rfl d_Pl_isKnown_49 rfl ?_
        refine Rj_lload_n (q := 51) d_Pl_isKnown_50 rfl rfl rfl ?_
        refine Rj_lc_ne (q := 52) (q2 := 55) (t := 57) d_Pl_isKnown_51 rfl d_Pl_isKnown_52 rfl (by decide) (by first | exact tb | exact ht) (by first | exact tb | exact ht) (fun c51 => ?_) (fun c51 => ?_)
        · refine Rj_iload_n (q := 58) d_Pl_isKnown_57 rfl rfl rfl ?_
          refine Rj_iconst (q := 59) d_Pl_isKnown_58 rfl ?_
          refine Rj_iadd (q := 60) d_Pl_isKnown_59 rfl ?_
          refine Rj_sipush (q := 63) d_Pl_isKnown_60 rfl (by decide +kernel) ?_
          refine Rj_iand (q := 64) (z := (p + 1) % 4096) d_Pl_isKnown_63 rfl (z_and_mask (by omega) (by omega)) ?_
          refine Rj_istore_n (q := 65) (ls' := [vA 74, vL t, vU, vI ((p + 1) % 4096), vI i, vI (μ 78 p)]) d_Pl_isKnown_64 rfl rfl (by decide) rfl ?_
          refine Rj_iinc (q := 68) (ls' := [vA 74, vL t, vU, vI ((p + 1) % 4096), vI (i + 1), vI (μ 78 p)]) d_Pl_isKnown_65 rfl rfl (by decide) rfl ?_
          refine Rj_goto (t := 13) d_Pl_isKnown_68 (by decide) ?_
          refine Rj_pre (ls' := [vA 74, vL t, vU, vI ((p + 1) % 4096), vI (i + 1)]) (t := [vI (μ 78 p)]) rfl ?_
          refine ih (l5 := l5) (by omega) H hm hb75 ht hmm (by omega) (by rw [hp]; exact mod_step (by decide)) (fun j j0 j1 => ?_) h1 h0
          by_cases e : j = i
          · rw [e, ← hp]; exact ⟨c31, c51⟩
          · exact hv j j0 (by omega)
        · refine Rj_iconst (q := 56) d_Pl_isKnown_55 rfl ?_
          refine Rj_bret1 d_Pl_isKnown_56 rfl ?_
          exact h1 ⟨μ 78 p - 1, by omega, by omega, c51⟩
      · refine Rj_aload_n (q := 35) d_Pl_isKnown_34 rfl rfl rfl ?_
        refine Rj_iload_n (q := 36) d_Pl_isKnown_35 rfl rfl rfl ?_
        refine Rj_pi (q := 39) (ki := 7) pD_Pl_162_74 rfl rfl d_Pl_isKnown_36 rfl ?_
        refine Rj_iconst (q := 40) d_Pl_isKnown_39 rfl ?_
        refine Rj_bret0 d_Pl_isKnown_40 rfl ?_
        have hz : μ 78 ((hD t + i) % 4096) = 0 := by rw [← hp]; exact c31
        exact h0 p (H.no hi.1 hv hz) ⟨pr, c31, i, hi.1, hp, fun j j0 j1 => (hv j j0 j1).1⟩
set_option maxHeartbeats 4000000 in
theorem s_isKnown {μ : Mem} {Q : PV → Mem → Prop} {t m : Int} (H : HTB 4096 (μ 78) (μ 75) hD m) (hm : μ 74 6 = m) (hb75 : ∀ s, 0 ≤ s → s < m → i64 (μ 75 s)) (ht : i64 t) (hmm : m ≤ 2000) (h1 : KN (μ 75) m t → Q (vI 1) μ) (h0 : ∀ p, ¬ KN (μ 75) m t → FRE 4096 (μ 78) hD t p → Q (vI 0) (mset μ 74 7 p)) : Rj YD y_Pl_isKnown 0 [vA 74, vL t, vU] [] μ Q := by
  have hr := hD_rng t
  refine Rj_lload_n (q := 1) d_Pl_isKnown_0 rfl rfl rfl ?_
  refine Rj_ldc2 (q := 4) k_Pl_160 d_Pl_isKnown_1 rfl ?_
  refine Rj_lmul (q := 5) d_Pl_isKnown_4 rfl ?_
  refine Rj_bipush (q := 7) d_Pl_isKnown_5 rfl (by decide +kernel) ?_
  refine Rj_lushr (q := 8) (z := hD t) d_Pl_isKnown_7 rfl rfl ?_
  refine Rj_l2i (q := 9) d_Pl_isKnown_8 rfl ?_
  refine Rj_istore_n (q := 10) (ls' := [vA 74, vL t, vU, vI (hD t)]) d_Pl_isKnown_9 rfl rfl (by decide) rfl ?_
  refine Rj_iconst (q := 11) d_Pl_isKnown_10 rfl ?_
  refine Rj_istore (q := 13) (ls' := [vA 74, vL t, vU, vI (hD t), vI 0]) d_Pl_isKnown_11 rfl (by decide) rfl ?_
  exact s_isKnown_l (l5 := vU) _ (Nat.lt_succ_self _) H hm hb75 ht hmm (by decide) (by rw [Int.add_zero, Int.emod_eq_of_lt hr.1 hr.2]) (fun j j0 j1 => by omega) h1 h0
