theorem oD_59_Ge_hang : OI YD 59 y_Ge_hang := ⟨by decide, _, _, _, cD_59, rfl⟩
theorem oD_59_Ge_measure : OI YD 59 y_Ge_measure := ⟨by decide, _, _, _, cD_59, rfl⟩
/-! the class fits its gears to its street; whole parts of quotients -/
theorem stp_same {S : Int → Int} {lo up dn lk lo' up' dn' lk' : Int → Int} (hS : StrOK S) (h : Hung S 0 lo up dn lk) (h' : Hung S 0 lo' up' dn' lk') {p d : Int} (p1 : 0 ≤ p ∧ p < S 0) (d1 : 0 ≤ d ∧ d < S 0) (he : lo p = lo d) (hk : lk d = 0) : stp S lo up dn lk p d = stp S lo' up' dn' lk' p d := by
  unfold stp
  rw [bel_same hS h h' d1, rat_same hS h.1 h'.1 p1 d1 ((Hung_lk h d1).mp hk) he 0, rat_same hS h.1 h'.1 p1 d1 ((Hung_lk h d1).mp hk) he 1]
abbrev Wft (c : Nat) (i : Int) : Prop := (60 ≤ c ∧ c ≤ 64) ∨ (c = 59 ∧ (i = 7 ∨ i = 8))
theorem Hung_lo {S : Int → Int} {w : Int} {lo up dn lk : Int → Int} (h : Hung S w lo up dn lk) {d : Int} (d1 : 0 ≤ d ∧ d < S 0) : 0 ≤ lo d ∧ lo d ≤ d ∧ lo (lo d) = lo d := by
  obtain ⟨a1, a2, -⟩ := id h.1
  have := a1 d d1.1 d1.2
  have := a2 d d1.1 d1.2 d1.2
  omega
set_option maxHeartbeats 4000000 in
theorem s_measure {μ : Mem} {Q : PV → Mem → Prop} {S lk : Int → Int} (hS : StrOK S) (hG : GS μ S) (hH : HI S 0 (S 0) (S 0) (μ 60) (μ 61) (μ 62)) (hlo : ∀ y, 0 ≤ y → y < S 0 → -1 ≤ μ 60 y ∧ μ 60 y < 12) (hr : ∀ y, 0 ≤ y → y < S 0 → ((-216000 ≤ μ 61 y ∧ μ 61 y ≤ 216000) ∧ μ 61 y ≠ 0 ∧ (0 < μ 62 y ∧ μ 62 y ≤ 216000))) (hL : 0 ≤ μ 59 7 ∧ μ 59 7 < 4096) (hb : ∀ d, 0 ≤ d → d < S 0 → (zbit (μ 59 7) d = 1 ↔ lk d = 1)) (h01 : ∀ d, 0 ≤ d → d < S 0 → lk d = 0 ∨ lk d = 1) (hk : ∀ μ', Fr Wme μ μ' → (∀ y, 0 ≤ y → y < S 0 → μ' 63 y = bel S (μ 60) (μ 61) (μ 62) lk y) → (∀ q y, 0 ≤ q → q < S 0 → 0 ≤ y → y < S 0 → μ' 64 (q * 12 + y) = (if μ 60 q = μ 60 y ∧ lk y = 0 then stp S (μ 60) (μ 61) (μ 62) lk q y else 0)) → Q vU μ') : Rj YD y_Ge_measure 0 [vA 59] [] μ Q := by
  refine Rj_iconst (q := 1) d_Ge_measure_0 rfl ?_
  refine Rj_istore_n (q := 2) (ls' := [vA 59, vI 0]) d_Ge_measure_1 rfl rfl (by decide) rfl ?_
  exact s_measure_2 (lk := lk) _ (Nat.lt_succ_self _) hS hG hH hlo hr hL hb h01 ⟨by decide, hS.1.1⟩ (fun y y1 y2 => by omega) (fun q y q1 q2 y1 y2 => by omega) hk
set_option maxHeartbeats 4000000 in
theorem s_fit {μ : Mem} {Q : PV → Mem → Prop} {S lo up dn lk : Int → Int} (hS : StrOK S) (hT : GT μ S) (hH : Hung S 0 lo up dn lk) (hk : ∀ μ', Fr Wft μ μ' → GF μ' S lo up dn lk → Q vU μ') : Rj YD y_Ge_fit 0 [vA 59] [] μ Q := by
  refine Rj_aload_n (q := 1) d_Ge_fit_0 rfl rfl rfl ?_
  refine Rj_iconst (q := 2) d_Ge_fit_1 rfl ?_
  refine Rj_vov (q := 5) (z := y_Ge_hang) (as := [vI 0]) (rest := []) (la := [vA 59, vI 0]) oD_59_Ge_hang ml_Ge_41 mw_Ge_hang mv_Ge_hang rfl d_Ge_fit_2 rfl rfl rfl rfl rfl ?_
  refine s_hang_59 (w := 0) hS hT.1 (by decide) (fun m f q1 q2 q3 q4 => ?_)
  refine Rj_aload_n (q := 6) d_Ge_fit_5 rfl rfl rfl ?_
  refine Rj_vov (q := 9) (z := y_Ge_measure) (as := []) (rest := []) (la := [vA 59]) oD_59_Ge_measure ml_Ge_45 mw_Ge_measure mv_Ge_measure rfl d_Ge_fit_6 rfl rfl rfl rfl rfl ?_
  have fr : Fr Wft μ m := Fr.wide f (fun c i q => by unfold Wh59 at q; unfold Wft; omega)
  have hl : ∀ k, 0 ≤ k → k < S 0 → (lkP S 0 (m 60) (m 61) (m 62) k ↔ lk k = 1) := fun k k1 k2 => (HI_lk hS q1 hH.1 ⟨k1, k2⟩).trans (hH.2 k k1 k2).2.symm
  have hH2 : Hung S 0 (m 60) (m 61) (m 62) lk := ⟨q1, fun x x1 x2 => ⟨(hH.2 x x1 x2).1, (hl x x1 x2).symm⟩⟩
  obtain ⟨a1, a2, -, -, a5, -⟩ := id q1
  refine s_measure (lk := lk) hS (hT.1.h59 f) q1 (fun y y1 y2 => by have := a1 y y1 y2; have := hS.1; omega) (fun y y1 y2 => ⟨(HI_bd hS q1 y y1 y2 (a2 y y1 y2 y2)).1, (a5 y y1 y2 (a2 y y1 y2 y2)).2.1, (HI_bd hS q1 y y1 y2 (a2 y y1 y2 y2)).2⟩) q3 (fun d d1 d2 => (q4 d d1).trans ⟨fun q => (hl d d1 d2).mp q.2, fun q => ⟨d2, (hl d d1 d2).mpr q⟩⟩) (fun d d1 d2 => (hH.2 d d1 d2).1) (fun m2 f2 g1 g2 => ?_)
  have elo := HI_lo hS q1 hH.1
  have r60 : m2 60 = m 60 := f2.row (fun i q => by unfold Wme at q; omega)
  have r59 : m2 59 = m 59 := f2.row (fun i q => by unfold Wme at q; omega)
  refine Rj_vret d_Ge_fit_9 rfl ?_
  refine hk m2 (fr.trans (Fr.wide f2 (fun c i q => by unfold Wme at q; unfold Wft; omega))) ⟨?_, ?_, ?_, ?_, ?_⟩
  · rw [r60]; exact elo
  · rw [r59]
    exact ⟨q3, fun k k1 => (q4 k k1).trans ⟨fun q => ⟨q.1, (hl k k1 q.1).mp q.2⟩, fun q => ⟨q.1, (hl k k1 q.1).mpr q.2⟩⟩⟩
  · rw [r59, q2]
    congr 1
    refine cntB_congr _ (fun j hj => ?_)
    rw [elo (j : Int) (by omega) (by omega)]
  · intro d d1 d2
    rw [g1 d d1 d2]
    exact bel_same hS hH2 hH ⟨d1, d2⟩
  · intro x d x1 x2 d1 d2
    rw [g2 x d x1 x2 d1 d2]
    by_cases e : m 60 x = m 60 d ∧ lk d = 0
    · have e' : lo x = lo d ∧ lk d = 0 := by rw [← elo x x1 x2, ← elo d d1 d2]; exact e
      rw [if_pos e, if_pos e']
      exact stp_same hS hH2 hH ⟨x1, x2⟩ ⟨d1, d2⟩ e.1 e.2
    · have e' : ¬ (lo x = lo d ∧ lk d = 0) := by rw [← elo x x1 x2, ← elo d d1 d2]; exact e
      rw [if_neg e, if_neg e']
theorem zl_xor_neg {a b : Int} (ha : i64 a) (hb : i64 b) (hb0 : 0 < b) : zl_xor a b < 0 ↔ a < 0 := by
  have e : ∀ x : Int64, x.toInt < 0 ↔ x.toBitVec.msb = true := fun x => by
    rw [BitVec.msb_eq_toInt, decide_eq_true_eq]; exact Iff.rfl
  unfold zl_xor
  rw [e, Int64.toBitVec_xor, BitVec.msb_xor]
  have h1 := e (Int64.ofInt a)
  have h2 := e (Int64.ofInt b)
  rw [o64 ha] at h1
  rw [o64 hb] at h2
  have h3 : (Int64.ofInt b).toBitVec.msb = false := by
    cases h : (Int64.ofInt b).toBitVec.msb
    · rfl
    · have := h2.mpr h; omega
  rw [h3, Bool.xor_false]
  exact h1.symm
theorem tmod_floor {a b : Int} (hb : 0 < b) : a % b = if a < 0 ∧ a.tmod b ≠ 0 then a.tmod b + b else a.tmod b := by
  have h1 := Int.tmod_add_mul_tdiv a b
  have h2 := Int.emod_add_mul_ediv a b
  have h3 := Int.emod_nonneg a (show b ≠ 0 by omega)
  have h4 := Int.emod_lt_of_pos a hb
  rcases Int.le_total 0 a with q | q
  · rw [Int.tmod_eq_emod_of_nonneg q, if_neg (by omega)]
  · have e : a.tmod b = -((-a) % b) := by
      have := Int.neg_tmod (-a) b
      rw [Int.neg_neg, Int.tmod_eq_emod_of_nonneg (show 0 ≤ -a by omega)] at this
      exact this
    rw [e]
    have h5 := Int.emod_nonneg (-a) (show b ≠ 0 by omega)
    have h6 := Int.emod_lt_of_pos (-a) hb
    have h7 := Int.emod_add_mul_ediv (-a) b
    by_cases z : (-a) % b = 0
    · have hd : b ∣ a := by
        have : b ∣ -a := Int.dvd_of_emod_eq_zero z
        exact (Int.dvd_neg).mp this
      rw [z, Int.emod_eq_zero_of_dvd hd]
      simp
    · have hs : a % b = b - (-a) % b := by
        have e2 : a = (b - (-a) % b) + b * (-((-a) / b) - 1) := by grind
        rw [e2, Int.add_mul_emod_self_left]
        rw [show -((b - (-a) % b) + b * (-((-a) / b) - 1)) = -a by grind]
        exact Int.emod_eq_of_lt (by omega) (by omega)
      have ha : a < 0 := by
        rcases Int.lt_or_eq_of_le q with h | h
        · exact h
        · subst h; simp at z
      rw [hs, if_pos ⟨ha, by omega⟩]
      omega
theorem tdiv_floor {a b : Int} (hb : 0 < b) : a / b = if a < 0 ∧ a.tdiv b * b ≠ a then a.tdiv b - 1 else a.tdiv b := by
  have ht := tdiv_bd (a := a) hb
  rw [floor_td hb]
  by_cases q : 0 ≤ a
  · have := ht.1 q
    rw [if_neg (by omega), if_neg (by omega)]
  · have := ht.2 (by omega)
    by_cases e : a.tdiv b * b = a
    · rw [if_neg (by omega), if_neg (by omega)]
    · rw [if_pos (by omega), if_pos ⟨by omega, e⟩]
set_option maxHeartbeats 4000000 in
theorem s_J_floorMod {μ : Mem} {Q : PV → Mem → Prop} {a b : Int} (ha : -9223372036854775807 ≤ a ∧ a ≤ 9223372036854775807) (hb : 0 < b ∧ b ≤ 9223372036854775807) (hQ : Q (vL (a % b)) μ) : Rj YD y_Jmath_floorMod 0 [vL a, vU, vL b] [] μ Q := by
  have hx := zl_xor_neg (a := a) (b := b) ⟨by omega, by omega⟩ ⟨by omega, by omega⟩ hb.1
  have ht : i64 (a.tmod b) := by
    have h1 := Int.tmod_add_mul_tdiv a b
    have h2 := tdiv_bd (a := a) hb.1
    rw [Int.mul_comm] at h1
    constructor <;> omega
  rw [tmod_floor hb.1] at hQ
  refine Rj_lload_n (q := 1) d_Jmath_floorMod_0 rfl rfl rfl ?_
  refine Rj_lload_n (q := 2) d_Jmath_floorMod_1 rfl rfl rfl ?_
  refine Rj_lrem (q := 3) d_Jmath_floorMod_2 rfl ⟨by omega, by omega⟩ ⟨by omega, by omega⟩ (by omega) ?_
  refine Rj_lstore (q := 5) (ls' := [vL a, vU, vL b, vU, vL (a.tmod b), vU]) d_Jmath_floorMod_3 rfl (by decide) rfl ?_
  refine Rj_lload_n (q := 6) d_Jmath_floorMod_5 rfl rfl rfl ?_
  refine Rj_lload_n (q := 7) d_Jmath_floorMod_6 rfl rfl rfl ?_
  refine Rj_lxor (q := 8) (z := zl_xor a b) d_Jmath_floorMod_7 rfl rfl ?_
  refine Rj_lconst (q := 9) (z := 0) d_Jmath_floorMod_8 rfl rfl ?_
  refine Rj_lc_ge (q := 10) (q2 := 13) (t := 25) d_Jmath_floorMod_9 rfl d_Jmath_floorMod_10 rfl (by decide) (by first | exact t64 _ | decide) (by decide) (fun c9 => ?_) (fun c9 => ?_)
  · refine Rj_lload (q := 27) d_Jmath_floorMod_25 rfl rfl ?_
    refine Rj_lret d_Jmath_floorMod_27 rfl ?_
    exact fin_L hQ (if_neg (by omega))
  · refine Rj_lload (q := 15) d_Jmath_floorMod_13 rfl rfl ?_
    refine Rj_lconst (q := 16) (z := 0) d_Jmath_floorMod_15 rfl rfl ?_
    refine Rj_lc_eq (q := 17) (q2 := 20) (t := 25) d_Jmath_floorMod_16 rfl d_Jmath_floorMod_17 rfl (by decide) ht (by decide) (fun c16 => ?_) (fun c16 => ?_)
    · refine Rj_lload (q := 27) d_Jmath_floorMod_25 rfl rfl ?_
      refine Rj_lret d_Jmath_floorMod_27 rfl ?_
      exact fin_L hQ (if_neg (by omega))
    · refine Rj_lload (q := 22) d_Jmath_floorMod_20 rfl rfl ?_
      refine Rj_lload_n (q := 23) d_Jmath_floorMod_22 rfl rfl rfl ?_
      refine Rj_ladd (q := 24) d_Jmath_floorMod_23 rfl ?_
      refine Rj_lret d_Jmath_floorMod_24 rfl ?_
      exact fin_L hQ (if_pos ⟨by omega, by omega⟩)
set_option maxHeartbeats 4000000 in
theorem s_J_floorDiv {μ : Mem} {Q : PV → Mem → Prop} {a b : Int} (ha : -9223372036854775807 ≤ a ∧ a ≤ 9223372036854775807) (hb : 0 < b ∧ b ≤ 9223372036854775807) (hQ : Q (vL (a / b)) μ) : Rj YD y_Jmath_floorDiv 0 [vL a, vU, vL b] [] μ Q := by
  have hx := zl_xor_neg (a := a) (b := b) ⟨by omega, by omega⟩ ⟨by omega, by omega⟩ hb.1
  have ht := tdiv_bd (a := a) hb.1
  rw [tdiv_floor hb.1] at hQ
  refine Rj_lload_n (q := 1) d_Jmath_floorDiv_0 rfl rfl rfl ?_
  refine Rj_lload_n (q := 2) d_Jmath_floorDiv_1 rfl rfl rfl ?_
  refine Rj_ldiv (q := 3) d_Jmath_floorDiv_2 rfl ⟨by omega, by omega⟩ ⟨by omega, by omega⟩ (by omega) ?_
  refine Rj_lstore (q := 5) (ls' := [vL a, vU, vL b, vU, vL (a.tdiv b), vU]) d_Jmath_floorDiv_3 rfl (by decide) rfl ?_
  refine Rj_lload_n (q := 6) d_Jmath_floorDiv_5 rfl rfl rfl ?_
  refine Rj_lload_n (q := 7) d_Jmath_floorDiv_6 rfl rfl rfl ?_
  refine Rj_lxor (q := 8) (z := zl_xor a b) d_Jmath_floorDiv_7 rfl rfl ?_
  refine Rj_lconst (q := 9) (z := 0) d_Jmath_floorDiv_8 rfl rfl ?_
  refine Rj_lc_ge (q := 10) (q2 := 13) (t := 27) d_Jmath_floorDiv_9 rfl d_Jmath_floorDiv_10 rfl (by decide) (by first | exact t64 _ | decide) (by decide) (fun c9 => ?_) (fun c9 => ?_)
  · refine Rj_lload (q := 29) d_Jmath_floorDiv_27 rfl rfl ?_
    refine Rj_lret d_Jmath_floorDiv_29 rfl ?_
    exact fin_L hQ (if_neg (by omega))
  · refine Rj_lload (q := 15) d_Jmath_floorDiv_13 rfl rfl ?_
    refine Rj_lload_n (q := 16) d_Jmath_floorDiv_15 rfl rfl rfl ?_
    refine Rj_lmul (q := 17) d_Jmath_floorDiv_16 rfl ?_
    refine Rj_lload_n (q := 18) d_Jmath_floorDiv_17 rfl rfl rfl ?_
    refine Rj_lc_eq (q := 19) (q2 := 22) (t := 27) d_Jmath_floorDiv_18 rfl d_Jmath_floorDiv_19 rfl (by decide) ⟨by omega, by omega⟩ ⟨by omega, by omega⟩ (fun c18 => ?_) (fun c18 => ?_)
    · refine Rj_lload (q := 29) d_Jmath_floorDiv_27 rfl rfl ?_
      refine Rj_lret d_Jmath_floorDiv_29 rfl ?_
      exact fin_L hQ (if_neg (by omega))
    · refine Rj_lload (q := 24) d_Jmath_floorDiv_22 rfl rfl ?_
      refine Rj_lconst (q := 25) (z := 1) d_Jmath_floorDiv_24 rfl rfl ?_
      refine Rj_lsub (q := 26) d_Jmath_floorDiv_25 rfl ?_
      refine Rj_lret d_Jmath_floorDiv_26 rfl ?_
      exact fin_L hQ (if_pos ⟨by omega, by omega⟩)
