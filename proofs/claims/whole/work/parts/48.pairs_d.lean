theorem gD_D_130_3 : GI YD "DoorsOnCogs" 130 3 0 none := ⟨by decide, _, _, _, fl_D_130, cD_3, by decide, rfl⟩
theorem gM_M_273_0 : GI YM "DoorsOnCogsModel" 273 0 2 none := ⟨by decide, _, _, _, fl_M_273, cM_0, by decide, rfl⟩
theorem oM_0_M_openOnes : OI YM 0 y_M_openOnes := ⟨by decide, _, _, _, cM_0, rfl⟩
theorem gD_D_70_0 : GI YD "DoorsOnCogs" 70 0 10 (some (some 79)) := ⟨by decide, _, _, _, fl_D_70, cD_0, by decide, rfl⟩
theorem gD_D_133_79 : GI YD "DoorsOnCogs" 133 79 1 none := ⟨by decide, _, _, _, fl_D_133, cD_79, by decide, rfl⟩
theorem oD_59_Ge_openSet : OI YD 59 y_Ge_openSet := ⟨by decide, _, _, _, cD_59, rfl⟩
theorem gD_D_315_59 : GI YD "DoorsOnCogs" 315 59 8 none := ⟨by decide, _, _, _, fl_D_315, cD_59, by decide, rfl⟩
theorem gD_D_223_3 : GI YD "DoorsOnCogs" 223 3 10 none := ⟨by decide, _, _, _, fl_D_223, cD_3, by decide, rfl⟩
theorem gD_D_226_3 : GI YD "DoorsOnCogs" 226 3 11 none := ⟨by decide, _, _, _, fl_D_226, cD_3, by decide, rfl⟩
/-! pairs of calls: reach, count, feed -/
def rch (Z : Int → Int) (w : Int) : Nat → Int → Int
  | 0, k => k
  | f + 1, k => if k < 60 ∧ 0 < Z (w * (k + 1)) then rch Z w f (k + 1) else k
def wy (b : Int) : Int := if b = 0 then 1 else -1
set_option maxHeartbeats 4000000 in
theorem s_reach_l : ∀ (f : Nat) {μ : Mem} {Q : PV → Mem → Prop} {S lo up dn lk pl : Int → Int} {x b w k : Int}, ((60 - k).toNat < f) → (GX μ S lo up dn lk pl) → (0 ≤ x ∧ x < S 0) → (w = 1 ∨ w = -1) → (0 ≤ k ∧ k ≤ 60) → (Q (vI (w * rch (fun n => pushR S lo up dn lk pl (pts S) x n) w f k)) μ) → Rj YD y_D_reach 30 [vA 0, vI x, vI b, vI w, vI (w * k), vI (k + 1)] [] μ Q := by
  intro f
  induction f with
  | zero => intro μ Q S lo up dn lk pl x b w k hf h hx hw hk hQ; exact absurd hf (by omega)
  | succ f ih =>
    intro μ Q S lo up dn lk pl x b w k hf h hx hw hk hQ
    obtain ⟨z0, z1, z2, z3, z4, z5, z6, z7⟩ := h.z
    unfold rch at hQ
    refine Rj_iload (q := 32) d_D_reach_30 rfl rfl ?_
    refine Rj_bipush (q := 34) d_D_reach_32 rfl (by decide +kernel) ?_
    refine Rj_icmp_gt (q := 37) (t := 64) d_D_reach_34 rfl (by decide) ⟨by omega, by omega⟩ (by decide) (fun c34 => ?_) (fun c34 => ?_)
    · rw [if_neg (by omega)] at hQ
      refine Rj_iload (q := 66) d_D_reach_64 rfl rfl ?_
      refine Rj_iret d_D_reach_66 rfl ?_
      exact hQ
    · have wk := mul_bd (a := w) (b := k + 1) (A := 1) (B := 60) (by omega) (by omega)
      have prg := pushR_rng (lo := lo) (up := up) (dn := dn) (lk := lk) (pl := pl) (P := pts S) (p := x) (n := w * (k + 1)) z0.2
      refine Rj_aload_n (q := 38) d_D_reach_37 rfl rfl rfl ?_
      refine Rj_gr (q := 41) (zd := 59) gD_D_45_0 rfl rfl d_D_reach_38 rfl ?_
      refine Rj_iload_n (q := 42) d_D_reach_41 rfl rfl rfl ?_
      refine Rj_iload (q := 44) d_D_reach_42 rfl rfl ?_
      refine Rj_iload_n (q := 45) d_D_reach_44 rfl rfl rfl ?_
      refine Rj_imul (q := 46) d_D_reach_45 rfl ?_
      rw [show (k + 1) * w = w * (k + 1) from Int.mul_comm _ _]
      refine Rj_vo (q := 49) (z := y_Ge_tryPush) (as := [vI x, vI (w * (k + 1))]) (rest := []) (la := [vA 59, vI x, vI (w * (k + 1))]) oD_59_Ge_tryPush ml_D_213 mw_Ge_tryPush mv_Ge_tryPush rfl d_D_reach_46 rfl rfl rfl rfl rfl ?_
      refine s_tryPush h ⟨by omega, by omega⟩ ⟨by omega, by omega⟩ ?_
      refine Rj_if_le (q := 52) (t := 64) d_D_reach_49 rfl (by decide) ⟨by omega, by omega⟩ (fun c49 => ?_) (fun c49 => ?_)
      · rw [if_neg (fun q => by have := q.2; omega)] at hQ
        refine Rj_iload (q := 66) d_D_reach_64 rfl rfl ?_
        refine Rj_iret d_D_reach_66 rfl ?_
        exact hQ
      · rw [if_pos ⟨by omega, by omega⟩] at hQ
        refine Rj_iload (q := 54) d_D_reach_52 rfl rfl ?_
        refine Rj_iload_n (q := 55) d_D_reach_54 rfl rfl rfl ?_
        refine Rj_imul (q := 56) d_D_reach_55 rfl ?_
        rw [show (k + 1) * w = w * (k + 1) from Int.mul_comm _ _]
        refine Rj_istore (q := 58) (ls' := [vA 0, vI x, vI b, vI w, vI (w * (k + 1)), vI (k + 1)]) d_D_reach_56 rfl (by decide) rfl ?_
        refine Rj_iinc (q := 61) (ls' := [vA 0, vI x, vI b, vI w, vI (w * (k + 1)), vI ((k + 1) + 1)]) d_D_reach_58 rfl rfl (by decide) rfl ?_
        refine Rj_goto (t := 30) d_D_reach_61 (by decide) ?_
        exact ih (by omega) h hx hw (by omega) hQ
set_option maxHeartbeats 4000000 in
theorem s_reach {μ : Mem} {Q : PV → Mem → Prop} {S lo up dn lk pl : Int → Int} (h : GX μ S lo up dn lk pl) {x b : Int} (hx : i32 x) (hb : b = 0 ∨ b = 1) (h1 : ¬ (0 ≤ x ∧ x < S 0) → Q (vI (-100)) μ) (h2 : 0 ≤ x ∧ x < S 0 → Q (vI (wy b * rch (fun n => pushR S lo up dn lk pl (pts S) x n) (wy b) 61 0)) μ) : Rj YD y_D_reach 0 [vA 0, vI x, vI b] [] μ Q := by
  obtain ⟨z0, z1, z2, z3, z4, z5, z6, z7⟩ := h.z
  refine Rj_aload_n (q := 1) d_D_reach_0 rfl rfl rfl ?_
  refine Rj_gr (q := 4) (zd := 3) gD_D_25_0 rfl rfl d_D_reach_1 rfl ?_
  refine Rj_iload_n (q := 5) d_D_reach_4 rfl rfl rfl ?_
  refine Rj_vo (q := 8) (z := y_Sc_isDoor) (as := [vI x]) (rest := []) (la := [vA 3, vI x]) oD_3_Sc_isDoor ml_D_144 mw_Sc_isDoor mv_Sc_isDoor rfl d_D_reach_5 rfl rfl rfl rfl rfl ?_
  refine Rj_iload_n (q := 1) d_Sc_isDoor_0 rfl rfl rfl ?_
  refine Rj_if_lt (q := 4) (t := 16) d_Sc_isDoor_1 rfl (by decide) (by first | assumption | exact ⟨by omega, by omega⟩) (fun c5_1 => ?_) (fun c5_1 => ?_)
  · refine Rj_iconst (q := 17) d_Sc_isDoor_16 rfl ?_
    refine Rj_bret0 d_Sc_isDoor_17 rfl ?_
    refine Rj_if_ne (q := 11) (t := 14) d_D_reach_8 rfl (by decide) (by decide) (fun c => absurd c (by decide)) (fun _ => ?_)
    refine Rj_bipush (q := 13) d_D_reach_11 rfl (by decide +kernel) ?_
    refine Rj_iret d_D_reach_13 rfl ?_
    exact h1 (by omega)
  · refine Rj_iload_n (q := 5) d_Sc_isDoor_4 rfl rfl rfl ?_
    refine Rj_aload_n (q := 6) d_Sc_isDoor_5 rfl rfl rfl ?_
    refine Rj_gi (q := 9) (ki := 0) (v := μ 3 0) gD_Sc_37_3 rfl rfl rfl d_Sc_isDoor_6 rfl ?_
    refine Rj_icmp_ge (q := 12) (t := 16) d_Sc_isDoor_9 rfl (by decide) (by first | assumption | exact ⟨by omega, by omega⟩) (by first | assumption | exact ⟨by omega, by omega⟩) (fun c5_9 => ?_) (fun c5_9 => ?_)
    · refine Rj_iconst (q := 17) d_Sc_isDoor_16 rfl ?_
      refine Rj_bret0 d_Sc_isDoor_17 rfl ?_
      refine Rj_if_ne (q := 11) (t := 14) d_D_reach_8 rfl (by decide) (by decide) (fun c => absurd c (by decide)) (fun _ => ?_)
      refine Rj_bipush (q := 13) d_D_reach_11 rfl (by decide +kernel) ?_
      refine Rj_iret d_D_reach_13 rfl ?_
      exact h1 (by omega)
    · refine Rj_iconst (q := 13) d_Sc_isDoor_12 rfl ?_
      refine Rj_goto (t := 17) d_Sc_isDoor_13 (by decide) ?_
      refine Rj_bret1 d_Sc_isDoor_17 rfl ?_
      refine Rj_if_ne (q := 11) (t := 14) d_D_reach_8 rfl (by decide) (by decide) (fun _ => ?_) (fun c => absurd c (by decide))
      refine Rj_iload_n (q := 15) d_D_reach_14 rfl rfl rfl ?_
      refine Rj_if_eq (q := 18) (t := 22) d_D_reach_15 rfl (by decide) (by first | assumption | exact ⟨by omega, by omega⟩) (fun c15 => ?_) (fun c15 => ?_)
      · refine Rj_iconst (q := 23) d_D_reach_22 rfl ?_
        refine Rj_istore_n (q := 24) (ls' := [vA 0, vI x, vI b, vI 1]) d_D_reach_23 rfl rfl (by decide) rfl ?_
        refine Rj_iconst (q := 25) d_D_reach_24 rfl ?_
        refine Rj_istore (q := 27) (ls' := [vA 0, vI x, vI b, vI 1, vI 0]) d_D_reach_25 rfl (by decide) rfl ?_
        refine Rj_iconst (q := 28) d_D_reach_27 rfl ?_
        refine Rj_istore (q := 30) (ls' := [vA 0, vI x, vI b, vI 1, vI 0, vI 1]) d_D_reach_28 rfl (by decide) rfl ?_
        have ew : wy b = 1 := by unfold wy; rw [if_pos c15]
        rw [ew] at h2
        exact s_reach_l 61 (by decide) h ⟨by omega, by omega⟩ (by decide) (by decide) (h2 ⟨by omega, by omega⟩)
      · refine Rj_iconst (q := 19) d_D_reach_18 rfl ?_
        refine Rj_goto (t := 23) d_D_reach_19 (by decide) ?_
        refine Rj_istore_n (q := 24) (ls' := [vA 0, vI x, vI b, vI (-1)]) d_D_reach_23 rfl rfl (by decide) rfl ?_
        refine Rj_iconst (q := 25) d_D_reach_24 rfl ?_
        refine Rj_istore (q := 27) (ls' := [vA 0, vI x, vI b, vI (-1), vI 0]) d_D_reach_25 rfl (by decide) rfl ?_
        refine Rj_iconst (q := 28) d_D_reach_27 rfl ?_
        refine Rj_istore (q := 30) (ls' := [vA 0, vI x, vI b, vI (-1), vI 0, vI 1]) d_D_reach_28 rfl (by decide) rfl ?_
        have ew : wy b = -1 := by unfold wy; rw [if_neg c15]
        rw [ew] at h2
        exact s_reach_l 61 (by decide) h ⟨by omega, by omega⟩ (by decide) (by decide) (h2 ⟨by omega, by omega⟩)
set_option maxHeartbeats 4000000 in
theorem s_M_reach_l : ∀ (f : Nat) {μ : Mem} {Q : PV → Mem → Prop} {x b w k : Int}, ((60 - k).toNat < f) → (MX μ) → (0 ≤ x ∧ x < μ 11 0) → ((b = 0 ∧ w = 1) ∨ (b = 1 ∧ w = -1)) → (0 ≤ k ∧ k ≤ 60) → (Q (vI (w * rch (fun n => pushR (μ 11) (μ 14) (μ 15) (μ 16) (μ 17) (μ 12) (pts (μ 11)) x n) w f k)) μ) → Rj YM y_M_reach 13 [vA 0, vI x, vI b, vI k] [] μ Q := by
  intro f
  induction f with
  | zero => intro μ Q x b w k hf h hx hw hk hQ; exact absurd hf (by omega)
  | succ f ih =>
    intro μ Q x b w k hf h hx hw hk hQ
    obtain ⟨z0, z1, z6, z5⟩ := h.z
    unfold rch at hQ
    have prg := pushR_rng (lo := μ 14) (up := μ 15) (dn := μ 16) (lk := μ 17) (pl := μ 12) (P := pts (μ 11)) (p := x) (n := w * (k + 1)) z0.2
    refine Rj_iload_n (q := 14) d_M_reach_13 rfl rfl rfl ?_
    refine Rj_bipush (q := 16) d_M_reach_14 rfl (by decide +kernel) ?_
    refine Rj_icmp_ge (q := 19) (t := 47) d_M_reach_16 rfl (by decide) ⟨by omega, by omega⟩ (by decide) (fun c16 => ?_) (fun c16 => ?_)
    · rw [if_neg (by omega)] at hQ
      refine Rj_iload_n (q := 48) d_M_reach_47 rfl rfl rfl ?_
      refine Rj_if_eq (q := 51) (t := 56) d_M_reach_48 rfl (by decide) ⟨by omega, by omega⟩ (fun c48 => ?_) (fun c48 => ?_)
      · refine Rj_iload_n (q := 57) d_M_reach_56 rfl rfl rfl ?_
        refine Rj_iret d_M_reach_57 rfl ?_
        exact fin_I hQ (by rw [show w = 1 by omega]; omega)
      · refine Rj_iload_n (q := 52) d_M_reach_51 rfl rfl rfl ?_
        refine Rj_ineg (q := 53) d_M_reach_52 rfl ?_
        refine Rj_goto (t := 57) d_M_reach_53 (by decide) ?_
        refine Rj_iret d_M_reach_57 rfl ?_
        exact fin_I hQ (by rw [show w = -1 by omega]; omega)
    · refine Rj_aload_n (q := 20) d_M_reach_19 rfl rfl rfl ?_
      refine Rj_iload_n (q := 21) d_M_reach_20 rfl rfl rfl ?_
      refine Rj_iload_n (q := 22) d_M_reach_21 rfl rfl rfl ?_
      refine Rj_if_eq (q := 25) (t := 32) d_M_reach_22 rfl (by decide) ⟨by omega, by omega⟩ (fun c22 => ?_) (fun c22 => ?_)
      · have hw1 : w = 1 := by omega
        refine Rj_iload_n (q := 33) d_M_reach_32 rfl rfl rfl ?_
        refine Rj_iconst (q := 34) d_M_reach_33 rfl ?_
        refine Rj_iadd (q := 35) d_M_reach_34 rfl ?_
        rw [show k + 1 = w * (k + 1) from (by rw [hw1]; omega)]
        refine Rj_vo (q := 38) (z := y_M_pushes) (as := [vI x, vI (w * (k + 1))]) (rest := []) (la := [vA 0, vI x, vI (w * (k + 1))]) oM_0_M_pushes ml_M_379 mw_M_pushes mv_M_pushes rfl d_M_reach_35 rfl rfl rfl rfl rfl ?_
        refine s_M_pushes h ⟨by omega, by omega⟩ (by rw [hw1]; omega) ?_
        refine Rj_if_le (q := 41) (t := 47) d_M_reach_38 rfl (by decide) ⟨by omega, by omega⟩ (fun c38 => ?_) (fun c38 => ?_)
        · rw [if_neg (fun q => by have := q.2; omega)] at hQ
          refine Rj_iload_n (q := 48) d_M_reach_47 rfl rfl rfl ?_
          refine Rj_if_eq (q := 51) (t := 56) d_M_reach_48 rfl (by decide) ⟨by omega, by omega⟩ (fun c48 => ?_) (fun c48 => ?_)
          · refine Rj_iload_n (q := 57) d_M_reach_56 rfl rfl rfl ?_
            refine Rj_iret d_M_reach_57 rfl ?_
            exact fin_I hQ (by rw [show w = 1 by omega]; omega)
          · refine Rj_iload_n (q := 52) d_M_reach_51 rfl rfl rfl ?_
            refine Rj_ineg (q := 53) d_M_reach_52 rfl ?_
            refine Rj_goto (t := 57) d_M_reach_53 (by decide) ?_
            refine Rj_iret d_M_reach_57 rfl ?_
            exact fin_I hQ (by rw [show w = -1 by omega]; omega)
        · rw [if_pos ⟨by omega, by omega⟩] at hQ
          refine Rj_iinc (q := 44) (ls' := [vA 0, vI x, vI b, vI (k + 1)]) d_M_reach_41 rfl rfl (by decide) rfl ?_
          refine Rj_goto (t := 13) d_M_reach_44 (by decide) ?_
          exact ih (by omega) h hx hw (by omega) hQ
      · have hw1 : w = -1 := by omega
        refine Rj_iload_n (q := 26) d_M_reach_25 rfl rfl rfl ?_
        refine Rj_ineg (q := 27) d_M_reach_26 rfl ?_
        refine Rj_iconst (q := 28) d_M_reach_27 rfl ?_
        refine Rj_isub (q := 29) d_M_reach_28 rfl ?_
        rw [show (-k) - 1 = w * (k + 1) from (by rw [hw1]; omega)]
        refine Rj_goto (t := 35) d_M_reach_29 (by decide) ?_
        refine Rj_vo (q := 38) (z := y_M_pushes) (as := [vI x, vI (w * (k + 1))]) (rest := []) (la := [vA 0, vI x, vI (w * (k + 1))]) oM_0_M_pushes ml_M_379 mw_M_pushes mv_M_pushes rfl d_M_reach_35 rfl rfl rfl rfl rfl ?_
        refine s_M_pushes h ⟨by omega, by omega⟩ (by rw [hw1]; omega) ?_
        refine Rj_if_le (q := 41) (t := 47) d_M_reach_38 rfl (by decide) ⟨by omega, by omega⟩ (fun c38 => ?_) (fun c38 => ?_)
        · rw [if_neg (fun q => by have := q.2; omega)] at hQ
          refine Rj_iload_n (q := 48) d_M_reach_47 rfl rfl rfl ?_
          refine Rj_if_eq (q := 51) (t := 56) d_M_reach_48 rfl (by decide) ⟨by omega, by omega⟩ (fun c48 => ?_) (fun c48 => ?_)
          · refine Rj_iload_n (q := 57) d_M_reach_56 rfl rfl rfl ?_
            refine Rj_iret d_M_reach_57 rfl ?_
            exact fin_I hQ (by rw [show w = 1 by omega]; omega)
          · refine Rj_iload_n (q := 52) d_M_reach_51 rfl rfl rfl ?_
            refine Rj_ineg (q := 53) d_M_reach_52 rfl ?_
            refine Rj_goto (t := 57) d_M_reach_53 (by decide) ?_
            refine Rj_iret d_M_reach_57 rfl ?_
            exact fin_I hQ (by rw [show w = -1 by omega]; omega)
        · rw [if_pos ⟨by omega, by omega⟩] at hQ
          refine Rj_iinc (q := 44) (ls' := [vA 0, vI x, vI b, vI (k + 1)]) d_M_reach_41 rfl rfl (by decide) rfl ?_
          refine Rj_goto (t := 13) d_M_reach_44 (by decide) ?_
          exact ih (by omega) h hx hw (by omega) hQ
set_option maxHeartbeats 4000000 in
theorem s_M_reach {μ : Mem} {Q : PV → Mem → Prop} (h : MX μ) {x b : Int} (hx : i32 x) (hb : b = 0 ∨ b = 1) (h1 : ¬ (0 ≤ x ∧ x < μ 11 0) → Q (vI (-100)) μ) (h2 : 0 ≤ x ∧ x < μ 11 0 → Q (vI (wy b * rch (fun n => pushR (μ 11) (μ 14) (μ 15) (μ 16) (μ 17) (μ 12) (pts (μ 11)) x n) (wy b) 61 0)) μ) : Rj YM y_M_reach 0 [vA 0, vI x, vI b] [] μ Q := by
  obtain ⟨z0, z1, z6, z5⟩ := h.z
  have hD := z0
  refine Rj_aload_n (q := 1) d_M_reach_0 rfl rfl rfl ?_
  refine Rj_iload_n (q := 2) d_M_reach_1 rfl rfl rfl ?_
  refine Rj_vo (q := 5) (z := y_M_isDoor) (as := [vI x]) (rest := []) (la := [vA 0, vI x]) oM_0_M_isDoor ml_M_353 mw_M_isDoor mv_M_isDoor rfl d_M_reach_2 rfl rfl rfl rfl rfl ?_
  refine s_M_isDoor hD (by first | assumption | omega) ?_
  refine Rj_b_ne (q := 8) (t := 11) d_M_reach_5 rfl (by decide) (fun c5 => ?_) (fun c5 => ?_)
  · have c5 := of_decide_eq_true c5
    refine Rj_iconst (q := 12) d_M_reach_11 rfl ?_
    refine Rj_istore_n (q := 13) (ls' := [vA 0, vI x, vI b, vI 0]) d_M_reach_12 rfl rfl (by decide) rfl ?_
    exact s_M_reach_l 61 (by decide) h c5 (by unfold wy; rcases hb with q | q <;> rw [q] <;> decide) (by decide) (h2 c5)
  · have c5 := of_decide_eq_false c5
    refine Rj_bipush (q := 10) d_M_reach_8 rfl (by decide +kernel) ?_
    refine Rj_iret d_M_reach_10 rfl ?_
    exact h1 c5
theorem C_reach {n : Nat} {μ ν : Mem} {a b : Int} (hC : Cor n μ ν) (ha : i32 a) (hb : b = 0 ∨ b = 1) : Rj YD y_D_reach 0 [vA 0, vI a, vI b] [] μ (fun r μ' => Rj YM y_M_reach 0 [vA 0, vI a, vI b] [] ν (fun r' ν' => Sm 1 r' r ∧ Cor (n + 1) μ' ν' ∧ Kp μ μ' ∧ Kq ν ν')) := by
  obtain ⟨hTP, hK, hSc, h, hM, -⟩ := id hC
  refine s_reach h ha hb (fun q => ?_) (fun q => ?_)
  · exact s_M_reach hM ha hb (fun _ => ⟨sm_I rfl, hC.next, kp0 _, kq0 _⟩) (fun q2 => absurd q2 q)
  · exact s_M_reach hM ha hb (fun q2 => absurd q q2) (fun _ => ⟨sm_I rfl, hC.next, kp0 _, kq0 _⟩)
theorem z_or_0 {a : Int} (h : 0 ≤ a ∧ a < 2147483648) : z_or a 0 = a := by
  obtain ⟨k, rfl⟩ := set_nat h.1
  have := z_or_n (a := k) (b := 0) (by omega) (by decide)
  simpa using this
set_option maxHeartbeats 4000000 in
theorem s_M_count_83 : ∀ (f : Nat) {μ : Mem} {Q : PV → Mem → Prop} {a s d : Int}, ((μ 11 0 - d).toNat < f) → (MX μ) → (0 ≤ d ∧ d ≤ μ 11 0) → ((0 ≤ s ∧ s < 4096) ∧ ∀ k, 0 ≤ k → (zbit s k = 1 ↔ k < d ∧ μ 17 k = 1)) → (∀ s, (0 ≤ s ∧ s < 4096) → (∀ k, 0 ≤ k → (zbit s k = 1 ↔ k < μ 11 0 ∧ μ 17 k = 1)) → Q (vI s) μ) → Rj YM y_M_count 83 [vA 0, vI a, vI s, vI d] [] μ Q := by
  intro f
  induction f with
  | zero => intro μ Q a s d hf h hd hs hQ; exact absurd hf (by omega)
  | succ f ih =>
    intro μ Q a s d hf h hd hs hQ
    obtain ⟨hS, hH, hP, hB, hFx⟩ := id h
    obtain ⟨z0, z1, z6, z5⟩ := h.z
    refine Rj_iload_n (q := 84) d_M_count_83 rfl rfl rfl ?_
    refine Rj_aload_n (q := 85) d_M_count_84 rfl rfl rfl ?_
    refine Rj_gr (q := 88) (zd := 11) gM_M_42_0 rfl rfl d_M_count_85 rfl ?_
    refine Rj_iconst (q := 89) d_M_count_88 rfl ?_
    refine Rj_ia (q := 90) (v := μ 11 0) aM_11 rfl (by decide) rfl d_M_count_89 rfl ?_
    refine Rj_icmp_ge (q := 93) (t := 118) d_M_count_90 rfl (by decide) ⟨by omega, by omega⟩ ⟨by omega, by omega⟩ (fun c90 => ?_) (fun c90 => ?_)
    · have ed : d = μ 11 0 := by omega
      rw [ed] at hs
      refine Rj_iload_n (q := 119) d_M_count_118 rfl rfl rfl ?_
      refine Rj_iret d_M_count_119 rfl ?_
      exact hQ s hs.1 hs.2
    · obtain ⟨tr, sr, lr, kr, ur, un, dr⟩ := Hu_d hS hH ⟨hd.1, c90⟩
      have pr := pow_rng (d := d) (n := 12) (by omega) (by decide)
      have orr := z_or_rng (a := s) (b := z_shl 1 d) (n := 12) (by decide) hs.1 pr
      refine Rj_iload_n (q := 94) d_M_count_93 rfl rfl rfl ?_
      refine Rj_aload_n (q := 95) d_M_count_94 rfl rfl rfl ?_
      refine Rj_gr (q := 98) (zd := 17) gM_M_60_0 rfl rfl d_M_count_95 rfl ?_
      refine Rj_iload_n (q := 99) d_M_count_98 rfl rfl rfl ?_
      refine Rj_za (q := 100) (v := μ 17 d) aM_17 rfl (by omega) rfl d_M_count_99 rfl ?_
      refine Rj_if_eq (q := 103) (t := 109) d_M_count_100 rfl (by decide) ⟨by omega, by omega⟩ (fun c100 => ?_) (fun c100 => ?_)
      · refine Rj_iconst (q := 110) d_M_count_109 rfl ?_
        refine Rj_ior (q := 111) (z := s) d_M_count_110 rfl (z_or_0 (by omega)) ?_
        refine Rj_istore_n (q := 112) (ls' := [vA 0, vI a, vI s, vI d]) d_M_count_111 rfl rfl (by decide) rfl ?_
        refine Rj_iinc (q := 115) (ls' := [vA 0, vI a, vI s, vI (d + 1)]) d_M_count_112 rfl rfl (by decide) rfl ?_
        refine Rj_goto (t := 83) d_M_count_115 (by decide) ?_
        exact ih (by omega) h (by omega) ⟨hs.1, fun k hk => (hs.2 k hk).trans ⟨fun q => ⟨by omega, q.2⟩, fun q => ⟨by
          by_cases e : k = d
          · subst e; omega
          · omega, q.2⟩⟩⟩ hQ
      · refine Rj_iconst (q := 104) d_M_count_103 rfl ?_
        refine Rj_iload_n (q := 105) d_M_count_104 rfl rfl rfl ?_
        refine Rj_ishl (q := 106) (z := z_shl 1 d) d_M_count_105 rfl rfl ?_
        refine Rj_goto (t := 110) d_M_count_106 (by decide) ?_
        refine Rj_ior (q := 111) (z := z_or s (z_shl 1 d)) d_M_count_110 rfl rfl ?_
        refine Rj_istore_n (q := 112) (ls' := [vA 0, vI a, vI (z_or s (z_shl 1 d)), vI d]) d_M_count_111 rfl rfl (by decide) rfl ?_
        refine Rj_iinc (q := 115) (ls' := [vA 0, vI a, vI (z_or s (z_shl 1 d)), vI (d + 1)]) d_M_count_112 rfl rfl (by decide) rfl ?_
        refine Rj_goto (t := 83) d_M_count_115 (by decide) ?_
        exact ih (by omega) h (by omega) ⟨orr, fun k hk => by
          rw [zbit_or (by omega) (by omega) hk, hs.2 k hk, zbit_pow (by omega) hk]
          constructor
          · rintro (⟨q1, q2⟩ | q)
            · exact ⟨by omega, q2⟩
            · subst q; exact ⟨by omega, by omega⟩
          · rintro ⟨q1, q2⟩
            by_cases e : k = d
            · exact Or.inr e
            · exact Or.inl ⟨by omega, q2⟩⟩ hQ
set_option maxHeartbeats 4000000 in
theorem s_M_count_122 : ∀ (f : Nat) {μ : Mem} {Q : PV → Mem → Prop} {a s d : Int}, ((μ 11 0 - d).toNat < f) → (MX μ) → (0 ≤ d ∧ d ≤ μ 11 0) → (s = ((cntB (fun k => decide (μ 14 (k : Int) = (k : Int))) d.toNat : Nat) : Int)) → (Q (vI ((cntB (fun k => decide (μ 14 (k : Int) = (k : Int))) (μ 11 0).toNat : Nat) : Int)) μ) → Rj YM y_M_count 122 [vA 0, vI a, vI s, vI d] [] μ Q := by
  intro f
  induction f with
  | zero => intro μ Q a s d hf h hd hs hQ; exact absurd hf (by omega)
  | succ f ih =>
    intro μ Q a s d hf h hd hs hQ
    obtain ⟨hS, hH, hP, hB, hFx⟩ := id h
    obtain ⟨z0, z1, z6, z5⟩ := h.z
    refine Rj_iload_n (q := 123) d_M_count_122 rfl rfl rfl ?_
    refine Rj_aload_n (q := 124) d_M_count_123 rfl rfl rfl ?_
    refine Rj_gr (q := 127) (zd := 11) gM_M_42_0 rfl rfl d_M_count_124 rfl ?_
    refine Rj_iconst (q := 128) d_M_count_127 rfl ?_
    refine Rj_ia (q := 129) (v := μ 11 0) aM_11 rfl (by decide) rfl d_M_count_128 rfl ?_
    refine Rj_icmp_ge (q := 132) (t := 156) d_M_count_129 rfl (by decide) ⟨by omega, by omega⟩ ⟨by omega, by omega⟩ (fun c129 => ?_) (fun c129 => ?_)
    · have ed : d = μ 11 0 := by omega
      rw [ed] at hs
      refine Rj_iload_n (q := 157) d_M_count_156 rfl rfl rfl ?_
      refine Rj_iret d_M_count_157 rfl ?_
      exact fin_I hQ hs.symm
    · obtain ⟨tr, sr, lr, kr, ur, un, dr⟩ := Hu_d hS hH ⟨hd.1, c129⟩
      refine Rj_iload_n (q := 133) d_M_count_132 rfl rfl rfl ?_
      refine Rj_aload_n (q := 134) d_M_count_133 rfl rfl rfl ?_
      refine Rj_gr (q := 137) (zd := 14) gM_M_51_0 rfl rfl d_M_count_134 rfl ?_
      refine Rj_iload_n (q := 138) d_M_count_137 rfl rfl rfl ?_
      refine Rj_ia (q := 139) (v := μ 14 d) aM_14 rfl (by omega) rfl d_M_count_138 rfl ?_
      refine Rj_iload_n (q := 140) d_M_count_139 rfl rfl rfl ?_
      refine Rj_icmp_ne (q := 143) (t := 147) d_M_count_140 rfl (by decide) ⟨by omega, by omega⟩ ⟨by omega, by omega⟩ (fun c140 => ?_) (fun c140 => ?_)
      · refine Rj_iconst (q := 148) d_M_count_147 rfl ?_
        refine Rj_iadd (q := 149) d_M_count_148 rfl ?_
        refine Rj_istore_n (q := 150) (ls' := [vA 0, vI a, vI (s + 0), vI d]) d_M_count_149 rfl rfl (by decide) rfl ?_
        refine Rj_iinc (q := 153) (ls' := [vA 0, vI a, vI (s + 0), vI (d + 1)]) d_M_count_150 rfl rfl (by decide) rfl ?_
        refine Rj_goto (t := 122) d_M_count_153 (by decide) ?_
        refine ih (by omega) h (by omega) ?_ hQ
        rw [show (d + 1).toNat = d.toNat + 1 by omega]
        unfold cntB
        simp only [show ((d.toNat : Nat) : Int) = d by omega]
        rw [if_neg (by simpa using c140), hs]
        all_goals omega
      · refine Rj_iconst (q := 144) d_M_count_143 rfl ?_
        refine Rj_goto (t := 148) d_M_count_144 (by decide) ?_
        refine Rj_iadd (q := 149) d_M_count_148 rfl ?_
        refine Rj_istore_n (q := 150) (ls' := [vA 0, vI a, vI (s + 1), vI d]) d_M_count_149 rfl rfl (by decide) rfl ?_
        refine Rj_iinc (q := 153) (ls' := [vA 0, vI a, vI (s + 1), vI (d + 1)]) d_M_count_150 rfl rfl (by decide) rfl ?_
        refine Rj_goto (t := 122) d_M_count_153 (by decide) ?_
        refine ih (by omega) h (by omega) ?_ hQ
        rw [show (d + 1).toNat = d.toNat + 1 by omega]
        unfold cntB
        simp only [show ((d.toNat : Nat) : Int) = d by omega]
        rw [if_pos (by simpa using c140), hs]
        all_goals omega
set_option maxHeartbeats 8000000 in
theorem C_count {n : Nat} {μ ν : Mem} {a : Int} (hC : Cor n μ ν) (hn : n ≤ 511) (ha : i32 a) (hRu : μ 79 1 = ν 0 2)  : Rj YD y_D_count 0 [vA 0, vI a] [] μ (fun r μ' => Rj YM y_M_count 0 [vA 0, vI a] [] ν (fun r' ν' => Sm 1 r' r ∧ Cor (n + 1) μ' ν' ∧ Kp μ μ' ∧ Kq ν ν')) := by
  obtain ⟨hTP, hK, hSc, h, hM, hSB, hBK, hIM⟩ := id hC
  have hC1 := hC.next
  obtain ⟨z0, z1, z2, z3, z4, z5, z6, z7⟩ := h.z
  obtain ⟨hS, hH, hP, hB, hFx⟩ := id hM
  have hD := z0
  have hJ := z1
  have s6 := hSc.2.2.2.2.2.1
  have s7 := hSc.2.2.2.2.2.2.1
  have s8 := hSc.2.2.2.2.2.2.2.1
  have t1 := hTP.2.1
  refine Rj_iload_n (q := 1) d_D_count_0 rfl rfl rfl ?_
  rcases (show a = 0 ∨ a = 1 ∨ a = 2 ∨ a = 3 ∨ a = 4 ∨ a = 5 ∨ a = 6 ∨ a = 7 ∨ a = 8 ∨ a = 9 ∨ a = 10 ∨ a = 11 ∨ (a < 0 ∨ 11 < a) by omega) with hs1 | hs1 | hs1 | hs1 | hs1 | hs1 | hs1 | hs1 | hs1 | hs1 | hs1 | hs1 | hs1
  · refine Rj_tsI (t := 64) d_D_count_1 (by first | assumption | exact ⟨by omega, by omega⟩) (by omega) (by omega) (by rw [hs1]; rfl) (by decide) ?_
    refine Rj_aload_n (q := 65) d_D_count_64 rfl rfl rfl ?_
    refine Rj_gr (q := 68) (zd := 3) gD_D_25_0 rfl rfl d_D_count_65 rfl ?_
    refine Rj_gi (q := 71) (ki := 0) (v := μ 3 0) gD_D_130_3 rfl rfl rfl d_D_count_68 rfl ?_
    refine Rj_iret d_D_count_71 rfl ?_
    refine Rj_iconst (q := 1) d_M_count_0 rfl ?_
    refine Rj_istore_n (q := 2) (ls' := [vA 0, vI a, vI 0]) d_M_count_1 rfl rfl (by decide) rfl ?_
    refine Rj_iload_n (q := 3) d_M_count_2 rfl rfl rfl ?_
    rcases (show a = 0 ∨ a = 1 ∨ a = 2 ∨ a = 3 ∨ a = 4 ∨ a = 5 ∨ a = 6 ∨ a = 7 ∨ a = 8 ∨ a = 9 ∨ a = 10 ∨ a = 11 ∨ (a < 0 ∨ 11 < a) by omega) with hs3 | hs3 | hs3 | hs3 | hs3 | hs3 | hs3 | hs3 | hs3 | hs3 | hs3 | hs3 | hs3
    · refine Rj_tsI (t := 64) d_M_count_3 (by first | assumption | exact ⟨by omega, by omega⟩) (by omega) (by omega) (by rw [hs3]; rfl) (by decide) ?_
      refine Rj_aload_n (q := 65) d_M_count_64 rfl rfl rfl ?_
      refine Rj_gr (q := 68) (zd := 11) gM_M_42_0 rfl rfl d_M_count_65 rfl ?_
      refine Rj_iload_n (q := 69) d_M_count_68 rfl rfl rfl ?_
      refine Rj_ia (q := 70) (v := ν 11 a) aM_11 rfl (by omega) rfl d_M_count_69 rfl ?_
      refine Rj_iret d_M_count_70 rfl ?_
      first | exact ⟨sm_I rfl, hC1, kp0 _, kq0 _⟩ | exact ⟨sm_I (by omega), hC1, kp0 _, kq0 _⟩ | exact ⟨sm_I (by rw [hs3]; first | exact z2.symm | exact z3.symm | exact hSc.2.2.2.1.symm | exact hSc.2.2.2.2.1.symm), hC1, kp0 _, kq0 _⟩
    · refine Rj_tsI (t := 64) d_M_count_3 (by first | assumption | exact ⟨by omega, by omega⟩) (by omega) (by omega) (by rw [hs3]; rfl) (by decide) ?_
      refine Rj_aload_n (q := 65) d_M_count_64 rfl rfl rfl ?_
      refine Rj_gr (q := 68) (zd := 11) gM_M_42_0 rfl rfl d_M_count_65 rfl ?_
      refine Rj_iload_n (q := 69) d_M_count_68 rfl rfl rfl ?_
      refine Rj_ia (q := 70) (v := ν 11 a) aM_11 rfl (by omega) rfl d_M_count_69 rfl ?_
      refine Rj_iret d_M_count_70 rfl ?_
      first | exact ⟨sm_I rfl, hC1, kp0 _, kq0 _⟩ | exact ⟨sm_I (by omega), hC1, kp0 _, kq0 _⟩ | exact ⟨sm_I (by rw [hs3]; first | exact z2.symm | exact z3.symm | exact hSc.2.2.2.1.symm | exact hSc.2.2.2.2.1.symm), hC1, kp0 _, kq0 _⟩
    · refine Rj_tsI (t := 71) d_M_count_3 (by first | assumption | exact ⟨by omega, by omega⟩) (by omega) (by omega) (by rw [hs3]; rfl) (by decide) ?_
      refine Rj_aload_n (q := 72) d_M_count_71 rfl rfl rfl ?_
      refine Rj_gi (q := 75) (ki := 2) (v := ν 0 2) gM_M_273_0 rfl rfl rfl d_M_count_72 rfl ?_
      refine Rj_iret d_M_count_75 rfl ?_
      first | exact ⟨sm_I rfl, hC1, kp0 _, kq0 _⟩ | exact ⟨sm_I (by omega), hC1, kp0 _, kq0 _⟩ | exact ⟨sm_I (by rw [hs3]; first | exact z2.symm | exact z3.symm | exact hSc.2.2.2.1.symm | exact hSc.2.2.2.2.1.symm), hC1, kp0 _, kq0 _⟩
    · refine Rj_tsI (t := 76) d_M_count_3 (by first | assumption | exact ⟨by omega, by omega⟩) (by omega) (by omega) (by rw [hs3]; rfl) (by decide) ?_
      refine Rj_aload_n (q := 77) d_M_count_76 rfl rfl rfl ?_
      refine Rj_vo (q := 80) (z := y_M_openOnes) (as := []) (rest := []) (la := [vA 0]) oM_0_M_openOnes ml_M_452 mw_M_openOnes mv_M_openOnes rfl d_M_count_77 rfl rfl rfl rfl rfl ?_
      refine s_M_openOnes hM ?_
      refine Rj_iret d_M_count_80 rfl ?_
      first | exact ⟨sm_I rfl, hC1, kp0 _, kq0 _⟩ | exact ⟨sm_I (by omega), hC1, kp0 _, kq0 _⟩ | exact ⟨sm_I (by rw [hs3]; first | exact z2.symm | exact z3.symm | exact hSc.2.2.2.1.symm | exact hSc.2.2.2.2.1.symm), hC1, kp0 _, kq0 _⟩
    · refine Rj_tsI (t := 81) d_M_count_3 (by first | assumption | exact ⟨by omega, by omega⟩) (by omega) (by omega) (by rw [hs3]; rfl) (by decide) ?_
      refine Rj_iconst (q := 82) d_M_count_81 rfl ?_
      refine Rj_istore_n (q := 83) (ls' := [vA 0, vI a, vI 0, vI 0]) d_M_count_82 rfl rfl (by decide) rfl ?_
      first | (exfalso; omega; done) | exact s_M_count_83 _ (Nat.lt_succ_self _) hM (show 0 ≤ (0 : Int) ∧ (0 : Int) ≤ ν 11 0 by omega) ⟨by decide, fun k hk => by rw [zbit_0]; exact ⟨fun q => absurd q (by decide), fun q => by omega⟩⟩ (fun s rg bt => ⟨sm_I (zbit_ext (n := 12) rg z7 (fun k k0 k1 => (bt k k0).trans (h.2.2.2.1.2.1.2 k k0).symm)), hC1, kp0 _, kq0 _⟩)
    · refine Rj_tsI (t := 120) d_M_count_3 (by first | assumption | exact ⟨by omega, by omega⟩) (by omega) (by omega) (by rw [hs3]; rfl) (by decide) ?_
      refine Rj_iconst (q := 121) d_M_count_120 rfl ?_
      refine Rj_istore_n (q := 122) (ls' := [vA 0, vI a, vI 0, vI 0]) d_M_count_121 rfl rfl (by decide) rfl ?_
      first | (exfalso; omega; done) | exact s_M_count_122 _ (Nat.lt_succ_self _) hM (show 0 ≤ (0 : Int) ∧ (0 : Int) ≤ ν 11 0 by omega) rfl ⟨sm_I h.2.2.2.1.2.2.1.symm, hC1, kp0 _, kq0 _⟩
    · refine Rj_tsI (t := 158) d_M_count_3 (by first | assumption | exact ⟨by omega, by omega⟩) (by omega) (by omega) (by rw [hs3]; rfl) (by decide) ?_
      refine Rj_aload_n (q := 159) d_M_count_158 rfl rfl rfl ?_
      refine Rj_gr (q := 162) (zd := 11) gM_M_42_0 rfl rfl d_M_count_159 rfl ?_
      refine Rj_iconst (q := 163) d_M_count_162 rfl ?_
      refine Rj_ia (q := 164) (v := ν 11 5) aM_11 rfl (by decide) rfl d_M_count_163 rfl ?_
      refine Rj_iret d_M_count_164 rfl ?_
      first | exact ⟨sm_I rfl, hC1, kp0 _, kq0 _⟩ | exact ⟨sm_I (by omega), hC1, kp0 _, kq0 _⟩ | exact ⟨sm_I (by rw [hs3]; first | exact z2.symm | exact z3.symm | exact hSc.2.2.2.1.symm | exact hSc.2.2.2.2.1.symm), hC1, kp0 _, kq0 _⟩
    · refine Rj_tsI (t := 165) d_M_count_3 (by first | assumption | exact ⟨by omega, by omega⟩) (by omega) (by omega) (by rw [hs3]; rfl) (by decide) ?_
      refine Rj_aload_n (q := 166) d_M_count_165 rfl rfl rfl ?_
      refine Rj_gr (q := 169) (zd := 11) gM_M_42_0 rfl rfl d_M_count_166 rfl ?_
      refine Rj_bipush (q := 171) d_M_count_169 rfl (by decide +kernel) ?_
      refine Rj_ia (q := 172) (v := ν 11 6) aM_11 rfl (by decide) rfl d_M_count_171 rfl ?_
      refine Rj_iret d_M_count_172 rfl ?_
      first | exact ⟨sm_I rfl, hC1, kp0 _, kq0 _⟩ | exact ⟨sm_I (by omega), hC1, kp0 _, kq0 _⟩ | exact ⟨sm_I (by rw [hs3]; first | exact z2.symm | exact z3.symm | exact hSc.2.2.2.1.symm | exact hSc.2.2.2.2.1.symm), hC1, kp0 _, kq0 _⟩
    · refine Rj_tsI (t := 173) d_M_count_3 (by first | assumption | exact ⟨by omega, by omega⟩) (by omega) (by omega) (by rw [hs3]; rfl) (by decide) ?_
      refine Rj_aload_n (q := 174) d_M_count_173 rfl rfl rfl ?_
      refine Rj_gr (q := 177) (zd := 11) gM_M_42_0 rfl rfl d_M_count_174 rfl ?_
      refine Rj_bipush (q := 179) d_M_count_177 rfl (by decide +kernel) ?_
      refine Rj_ia (q := 180) (v := ν 11 8) aM_11 rfl (by decide) rfl d_M_count_179 rfl ?_
      refine Rj_iret d_M_count_180 rfl ?_
      first | exact ⟨sm_I rfl, hC1, kp0 _, kq0 _⟩ | exact ⟨sm_I (by omega), hC1, kp0 _, kq0 _⟩ | exact ⟨sm_I (by rw [hs3]; first | exact z2.symm | exact z3.symm | exact hSc.2.2.2.1.symm | exact hSc.2.2.2.2.1.symm), hC1, kp0 _, kq0 _⟩
    · refine Rj_tsI (t := 181) d_M_count_3 (by first | assumption | exact ⟨by omega, by omega⟩) (by omega) (by omega) (by rw [hs3]; rfl) (by decide) ?_
      refine Rj_aload_n (q := 182) d_M_count_181 rfl rfl rfl ?_
      refine Rj_gi (q := 185) (ki := 1) (v := ν 0 1) gM_M_99_0 rfl rfl rfl d_M_count_182 rfl ?_
      refine Rj_iret d_M_count_185 rfl ?_
      first | exact ⟨sm_I rfl, hC1, kp0 _, kq0 _⟩ | exact ⟨sm_I (by omega), hC1, kp0 _, kq0 _⟩ | exact ⟨sm_I (by rw [hs3]; first | exact z2.symm | exact z3.symm | exact hSc.2.2.2.1.symm | exact hSc.2.2.2.2.1.symm), hC1, kp0 _, kq0 _⟩
    · refine Rj_tsI (t := 186) d_M_count_3 (by first | assumption | exact ⟨by omega, by omega⟩) (by omega) (by omega) (by rw [hs3]; rfl) (by decide) ?_
      refine Rj_aload_n (q := 187) d_M_count_186 rfl rfl rfl ?_
      refine Rj_gr (q := 190) (zd := 11) gM_M_42_0 rfl rfl d_M_count_187 rfl ?_
      refine Rj_iload_n (q := 191) d_M_count_190 rfl rfl rfl ?_
      refine Rj_bipush (q := 193) d_M_count_191 rfl (by decide +kernel) ?_
      refine Rj_isub (q := 194) d_M_count_193 rfl ?_
      refine Rj_ia (q := 195) (v := ν 11 (a - 7)) aM_11 rfl (by omega) rfl d_M_count_194 rfl ?_
      refine Rj_iret d_M_count_195 rfl ?_
      first | exact ⟨sm_I rfl, hC1, kp0 _, kq0 _⟩ | exact ⟨sm_I (by omega), hC1, kp0 _, kq0 _⟩ | exact ⟨sm_I (by rw [hs3]; first | exact z2.symm | exact z3.symm | exact hSc.2.2.2.1.symm | exact hSc.2.2.2.2.1.symm), hC1, kp0 _, kq0 _⟩
    · refine Rj_tsI (t := 186) d_M_count_3 (by first | assumption | exact ⟨by omega, by omega⟩) (by omega) (by omega) (by rw [hs3]; rfl) (by decide) ?_
      refine Rj_aload_n (q := 187) d_M_count_186 rfl rfl rfl ?_
      refine Rj_gr (q := 190) (zd := 11) gM_M_42_0 rfl rfl d_M_count_187 rfl ?_
      refine Rj_iload_n (q := 191) d_M_count_190 rfl rfl rfl ?_
      refine Rj_bipush (q := 193) d_M_count_191 rfl (by decide +kernel) ?_
      refine Rj_isub (q := 194) d_M_count_193 rfl ?_
      refine Rj_ia (q := 195) (v := ν 11 (a - 7)) aM_11 rfl (by omega) rfl d_M_count_194 rfl ?_
      refine Rj_iret d_M_count_195 rfl ?_
      first | exact ⟨sm_I rfl, hC1, kp0 _, kq0 _⟩ | exact ⟨sm_I (by omega), hC1, kp0 _, kq0 _⟩ | exact ⟨sm_I (by rw [hs3]; first | exact z2.symm | exact z3.symm | exact hSc.2.2.2.1.symm | exact hSc.2.2.2.2.1.symm), hC1, kp0 _, kq0 _⟩
    · refine Rj_tsO (t := 196) d_M_count_3 (by first | assumption | exact ⟨by omega, by omega⟩) hs3 (by decide) ?_
      refine Rj_iconst (q := 197) d_M_count_196 rfl ?_
      refine Rj_iret d_M_count_197 rfl ?_
      first | exact ⟨sm_I rfl, hC1, kp0 _, kq0 _⟩ | exact ⟨sm_I (by omega), hC1, kp0 _, kq0 _⟩ | exact ⟨sm_I (by rw [hs3]; first | exact z2.symm | exact z3.symm | exact hSc.2.2.2.1.symm | exact hSc.2.2.2.2.1.symm), hC1, kp0 _, kq0 _⟩
  · refine Rj_tsI (t := 72) d_D_count_1 (by first | assumption | exact ⟨by omega, by omega⟩) (by omega) (by omega) (by rw [hs1]; rfl) (by decide) ?_
    refine Rj_aload_n (q := 73) d_D_count_72 rfl rfl rfl ?_
    refine Rj_gr (q := 76) (zd := 3) gD_D_25_0 rfl rfl d_D_count_73 rfl ?_
    refine Rj_gi (q := 79) (ki := 4) (v := μ 3 4) gD_D_186_3 rfl rfl rfl d_D_count_76 rfl ?_
    refine Rj_iret d_D_count_79 rfl ?_
    refine Rj_iconst (q := 1) d_M_count_0 rfl ?_
    refine Rj_istore_n (q := 2) (ls' := [vA 0, vI a, vI 0]) d_M_count_1 rfl rfl (by decide) rfl ?_
    refine Rj_iload_n (q := 3) d_M_count_2 rfl rfl rfl ?_
    rcases (show a = 0 ∨ a = 1 ∨ a = 2 ∨ a = 3 ∨ a = 4 ∨ a = 5 ∨ a = 6 ∨ a = 7 ∨ a = 8 ∨ a = 9 ∨ a = 10 ∨ a = 11 ∨ (a < 0 ∨ 11 < a) by omega) with hs3 | hs3 | hs3 | hs3 | hs3 | hs3 | hs3 | hs3 | hs3 | hs3 | hs3 | hs3 | hs3
    · refine Rj_tsI (t := 64) d_M_count_3 (by first | assumption | exact ⟨by omega, by omega⟩) (by omega) (by omega) (by rw [hs3]; rfl) (by decide) ?_
      refine Rj_aload_n (q := 65) d_M_count_64 rfl rfl rfl ?_
      refine Rj_gr (q := 68) (zd := 11) gM_M_42_0 rfl rfl d_M_count_65 rfl ?_
      refine Rj_iload_n (q := 69) d_M_count_68 rfl rfl rfl ?_
      refine Rj_ia (q := 70) (v := ν 11 a) aM_11 rfl (by omega) rfl d_M_count_69 rfl ?_
      refine Rj_iret d_M_count_70 rfl ?_
      first | exact ⟨sm_I rfl, hC1, kp0 _, kq0 _⟩ | exact ⟨sm_I (by omega), hC1, kp0 _, kq0 _⟩ | exact ⟨sm_I (by rw [hs3]; first | exact z2.symm | exact z3.symm | exact hSc.2.2.2.1.symm | exact hSc.2.2.2.2.1.symm), hC1, kp0 _, kq0 _⟩
    · refine Rj_tsI (t := 64) d_M_count_3 (by first | assumption | exact ⟨by omega, by omega⟩) (by omega) (by omega) (by rw [hs3]; rfl) (by decide) ?_
      refine Rj_aload_n (q := 65) d_M_count_64 rfl rfl rfl ?_
      refine Rj_gr (q := 68) (zd := 11) gM_M_42_0 rfl rfl d_M_count_65 rfl ?_
      refine Rj_iload_n (q := 69) d_M_count_68 rfl rfl rfl ?_
      refine Rj_ia (q := 70) (v := ν 11 a) aM_11 rfl (by omega) rfl d_M_count_69 rfl ?_
      refine Rj_iret d_M_count_70 rfl ?_
      first | exact ⟨sm_I rfl, hC1, kp0 _, kq0 _⟩ | exact ⟨sm_I (by omega), hC1, kp0 _, kq0 _⟩ | exact ⟨sm_I (by rw [hs3]; first | exact z2.symm | exact z3.symm | exact hSc.2.2.2.1.symm | exact hSc.2.2.2.2.1.symm), hC1, kp0 _, kq0 _⟩
    · refine Rj_tsI (t := 71) d_M_count_3 (by first | assumption | exact ⟨by omega, by omega⟩) (by omega) (by omega) (by rw [hs3]; rfl) (by decide) ?_
      refine Rj_aload_n (q := 72) d_M_count_71 rfl rfl rfl ?_
      refine Rj_gi (q := 75) (ki := 2) (v := ν 0 2) gM_M_273_0 rfl rfl rfl d_M_count_72 rfl ?_
      refine Rj_iret d_M_count_75 rfl ?_
      first | exact ⟨sm_I rfl, hC1, kp0 _, kq0 _⟩ | exact ⟨sm_I (by omega), hC1, kp0 _, kq0 _⟩ | exact ⟨sm_I (by rw [hs3]; first | exact z2.symm | exact z3.symm | exact hSc.2.2.2.1.symm | exact hSc.2.2.2.2.1.symm), hC1, kp0 _, kq0 _⟩
    · refine Rj_tsI (t := 76) d_M_count_3 (by first | assumption | exact ⟨by omega, by omega⟩) (by omega) (by omega) (by rw [hs3]; rfl) (by decide) ?_
      refine Rj_aload_n (q := 77) d_M_count_76 rfl rfl rfl ?_
      refine Rj_vo (q := 80) (z := y_M_openOnes) (as := []) (rest := []) (la := [vA 0]) oM_0_M_openOnes ml_M_452 mw_M_openOnes mv_M_openOnes rfl d_M_count_77 rfl rfl rfl rfl rfl ?_
      refine s_M_openOnes hM ?_
      refine Rj_iret d_M_count_80 rfl ?_
      first | exact ⟨sm_I rfl, hC1, kp0 _, kq0 _⟩ | exact ⟨sm_I (by omega), hC1, kp0 _, kq0 _⟩ | exact ⟨sm_I (by rw [hs3]; first | exact z2.symm | exact z3.symm | exact hSc.2.2.2.1.symm | exact hSc.2.2.2.2.1.symm), hC1, kp0 _, kq0 _⟩
    · refine Rj_tsI (t := 81) d_M_count_3 (by first | assumption | exact ⟨by omega, by omega⟩) (by omega) (by omega) (by rw [hs3]; rfl) (by decide) ?_
      refine Rj_iconst (q := 82) d_M_count_81 rfl ?_
      refine Rj_istore_n (q := 83) (ls' := [vA 0, vI a, vI 0, vI 0]) d_M_count_82 rfl rfl (by decide) rfl ?_
      first | (exfalso; omega; done) | exact s_M_count_83 _ (Nat.lt_succ_self _) hM (show 0 ≤ (0 : Int) ∧ (0 : Int) ≤ ν 11 0 by omega) ⟨by decide, fun k hk => by rw [zbit_0]; exact ⟨fun q => absurd q (by decide), fun q => by omega⟩⟩ (fun s rg bt => ⟨sm_I (zbit_ext (n := 12) rg z7 (fun k k0 k1 => (bt k k0).trans (h.2.2.2.1.2.1.2 k k0).symm)), hC1, kp0 _, kq0 _⟩)
    · refine Rj_tsI (t := 120) d_M_count_3 (by first | assumption | exact ⟨by omega, by omega⟩) (by omega) (by omega) (by rw [hs3]; rfl) (by decide) ?_
      refine Rj_iconst (q := 121) d_M_count_120 rfl ?_
      refine Rj_istore_n (q := 122) (ls' := [vA 0, vI a, vI 0, vI 0]) d_M_count_121 rfl rfl (by decide) rfl ?_
      first | (exfalso; omega; done) | exact s_M_count_122 _ (Nat.lt_succ_self _) hM (show 0 ≤ (0 : Int) ∧ (0 : Int) ≤ ν 11 0 by omega) rfl ⟨sm_I h.2.2.2.1.2.2.1.symm, hC1, kp0 _, kq0 _⟩
    · refine Rj_tsI (t := 158) d_M_count_3 (by first | assumption | exact ⟨by omega, by omega⟩) (by omega) (by omega) (by rw [hs3]; rfl) (by decide) ?_
      refine Rj_aload_n (q := 159) d_M_count_158 rfl rfl rfl ?_
      refine Rj_gr (q := 162) (zd := 11) gM_M_42_0 rfl rfl d_M_count_159 rfl ?_
      refine Rj_iconst (q := 163) d_M_count_162 rfl ?_
      refine Rj_ia (q := 164) (v := ν 11 5) aM_11 rfl (by decide) rfl d_M_count_163 rfl ?_
      refine Rj_iret d_M_count_164 rfl ?_
      first | exact ⟨sm_I rfl, hC1, kp0 _, kq0 _⟩ | exact ⟨sm_I (by omega), hC1, kp0 _, kq0 _⟩ | exact ⟨sm_I (by rw [hs3]; first | exact z2.symm | exact z3.symm | exact hSc.2.2.2.1.symm | exact hSc.2.2.2.2.1.symm), hC1, kp0 _, kq0 _⟩
    · refine Rj_tsI (t := 165) d_M_count_3 (by first | assumption | exact ⟨by omega, by omega⟩) (by omega) (by omega) (by rw [hs3]; rfl) (by decide) ?_
      refine Rj_aload_n (q := 166) d_M_count_165 rfl rfl rfl ?_
      refine Rj_gr (q := 169) (zd := 11) gM_M_42_0 rfl rfl d_M_count_166 rfl ?_
      refine Rj_bipush (q := 171) d_M_count_169 rfl (by decide +kernel) ?_
      refine Rj_ia (q := 172) (v := ν 11 6) aM_11 rfl (by decide) rfl d_M_count_171 rfl ?_
      refine Rj_iret d_M_count_172 rfl ?_
      first | exact ⟨sm_I rfl, hC1, kp0 _, kq0 _⟩ | exact ⟨sm_I (by omega), hC1, kp0 _, kq0 _⟩ | exact ⟨sm_I (by rw [hs3]; first | exact z2.symm | exact z3.symm | exact hSc.2.2.2.1.symm | exact hSc.2.2.2.2.1.symm), hC1, kp0 _, kq0 _⟩
    · refine Rj_tsI (t := 173) d_M_count_3 (by first | assumption | exact ⟨by omega, by omega⟩) (by omega) (by omega) (by rw [hs3]; rfl) (by decide) ?_
      refine Rj_aload_n (q := 174) d_M_count_173 rfl rfl rfl ?_
      refine Rj_gr (q := 177) (zd := 11) gM_M_42_0 rfl rfl d_M_count_174 rfl ?_
      refine Rj_bipush (q := 179) d_M_count_177 rfl (by decide +kernel) ?_
      refine Rj_ia (q := 180) (v := ν 11 8) aM_11 rfl (by decide) rfl d_M_count_179 rfl ?_
      refine Rj_iret d_M_count_180 rfl ?_
      first | exact ⟨sm_I rfl, hC1, kp0 _, kq0 _⟩ | exact ⟨sm_I (by omega), hC1, kp0 _, kq0 _⟩ | exact ⟨sm_I (by rw [hs3]; first | exact z2.symm | exact z3.symm | exact hSc.2.2.2.1.symm | exact hSc.2.2.2.2.1.symm), hC1, kp0 _, kq0 _⟩
    · refine Rj_tsI (t := 181) d_M_count_3 (by first | assumption | exact ⟨by omega, by omega⟩) (by omega) (by omega) (by rw [hs3]; rfl) (by decide) ?_
      refine Rj_aload_n (q := 182) d_M_count_181 rfl rfl rfl ?_
      refine Rj_gi (q := 185) (ki := 1) (v := ν 0 1) gM_M_99_0 rfl rfl rfl d_M_count_182 rfl ?_
      refine Rj_iret d_M_count_185 rfl ?_
      first | exact ⟨sm_I rfl, hC1, kp0 _, kq0 _⟩ | exact ⟨sm_I (by omega), hC1, kp0 _, kq0 _⟩ | exact ⟨sm_I (by rw [hs3]; first | exact z2.symm | exact z3.symm | exact hSc.2.2.2.1.symm | exact hSc.2.2.2.2.1.symm), hC1, kp0 _, kq0 _⟩
    · refine Rj_tsI (t := 186) d_M_count_3 (by first | assumption | exact ⟨by omega, by omega⟩) (by omega) (by omega) (by rw [hs3]; rfl) (by decide) ?_
      refine Rj_aload_n (q := 187) d_M_count_186 rfl rfl rfl ?_
      refine Rj_gr (q := 190) (zd := 11) gM_M_42_0 rfl rfl d_M_count_187 rfl ?_
      refine Rj_iload_n (q := 191) d_M_count_190 rfl rfl rfl ?_
      refine Rj_bipush (q := 193) d_M_count_191 rfl (by decide +kernel) ?_
      refine Rj_isub (q := 194) d_M_count_193 rfl ?_
      refine Rj_ia (q := 195) (v := ν 11 (a - 7)) aM_11 rfl (by omega) rfl d_M_count_194 rfl ?_
      refine Rj_iret d_M_count_195 rfl ?_
      first | exact ⟨sm_I rfl, hC1, kp0 _, kq0 _⟩ | exact ⟨sm_I (by omega), hC1, kp0 _, kq0 _⟩ | exact ⟨sm_I (by rw [hs3]; first | exact z2.symm | exact z3.symm | exact hSc.2.2.2.1.symm | exact hSc.2.2.2.2.1.symm), hC1, kp0 _, kq0 _⟩
    · refine Rj_tsI (t := 186) d_M_count_3 (by first | assumption | exact ⟨by omega, by omega⟩) (by omega) (by omega) (by rw [hs3]; rfl) (by decide) ?_
      refine Rj_aload_n (q := 187) d_M_count_186 rfl rfl rfl ?_
      refine Rj_gr (q := 190) (zd := 11) gM_M_42_0 rfl rfl d_M_count_187 rfl ?_
      refine Rj_iload_n (q := 191) d_M_count_190 rfl rfl rfl ?_
      refine Rj_bipush (q := 193) d_M_count_191 rfl (by decide +kernel) ?_
      refine Rj_isub (q := 194) d_M_count_193 rfl ?_
      refine Rj_ia (q := 195) (v := ν 11 (a - 7)) aM_11 rfl (by omega) rfl d_M_count_194 rfl ?_
      refine Rj_iret d_M_count_195 rfl ?_
      first | exact ⟨sm_I rfl, hC1, kp0 _, kq0 _⟩ | exact ⟨sm_I (by omega), hC1, kp0 _, kq0 _⟩ | exact ⟨sm_I (by rw [hs3]; first | exact z2.symm | exact z3.symm | exact hSc.2.2.2.1.symm | exact hSc.2.2.2.2.1.symm), hC1, kp0 _, kq0 _⟩
    · refine Rj_tsO (t := 196) d_M_count_3 (by first | assumption | exact ⟨by omega, by omega⟩) hs3 (by decide) ?_
      refine Rj_iconst (q := 197) d_M_count_196 rfl ?_
      refine Rj_iret d_M_count_197 rfl ?_
      first | exact ⟨sm_I rfl, hC1, kp0 _, kq0 _⟩ | exact ⟨sm_I (by omega), hC1, kp0 _, kq0 _⟩ | exact ⟨sm_I (by rw [hs3]; first | exact z2.symm | exact z3.symm | exact hSc.2.2.2.1.symm | exact hSc.2.2.2.2.1.symm), hC1, kp0 _, kq0 _⟩
  · refine Rj_tsI (t := 80) d_D_count_1 (by first | assumption | exact ⟨by omega, by omega⟩) (by omega) (by omega) (by rw [hs1]; rfl) (by decide) ?_
    refine Rj_aload_n (q := 81) d_D_count_80 rfl rfl rfl ?_
    refine Rj_gr (q := 84) (zd := 79) gD_D_70_0 rfl rfl d_D_count_81 rfl ?_
    refine Rj_gi (q := 87) (ki := 1) (v := μ 79 1) gD_D_133_79 rfl rfl rfl d_D_count_84 rfl ?_
    refine Rj_iret d_D_count_87 rfl ?_
    refine Rj_iconst (q := 1) d_M_count_0 rfl ?_
    refine Rj_istore_n (q := 2) (ls' := [vA 0, vI a, vI 0]) d_M_count_1 rfl rfl (by decide) rfl ?_
    refine Rj_iload_n (q := 3) d_M_count_2 rfl rfl rfl ?_
    rcases (show a = 0 ∨ a = 1 ∨ a = 2 ∨ a = 3 ∨ a = 4 ∨ a = 5 ∨ a = 6 ∨ a = 7 ∨ a = 8 ∨ a = 9 ∨ a = 10 ∨ a = 11 ∨ (a < 0 ∨ 11 < a) by omega) with hs3 | hs3 | hs3 | hs3 | hs3 | hs3 | hs3 | hs3 | hs3 | hs3 | hs3 | hs3 | hs3
    · refine Rj_tsI (t := 64) d_M_count_3 (by first | assumption | exact ⟨by omega, by omega⟩) (by omega) (by omega) (by rw [hs3]; rfl) (by decide) ?_
      refine Rj_aload_n (q := 65) d_M_count_64 rfl rfl rfl ?_
      refine Rj_gr (q := 68) (zd := 11) gM_M_42_0 rfl rfl d_M_count_65 rfl ?_
      refine Rj_iload_n (q := 69) d_M_count_68 rfl rfl rfl ?_
      refine Rj_ia (q := 70) (v := ν 11 a) aM_11 rfl (by omega) rfl d_M_count_69 rfl ?_
      refine Rj_iret d_M_count_70 rfl ?_
      first | exact ⟨sm_I rfl, hC1, kp0 _, kq0 _⟩ | exact ⟨sm_I (by omega), hC1, kp0 _, kq0 _⟩ | exact ⟨sm_I (by rw [hs3]; first | exact z2.symm | exact z3.symm | exact hSc.2.2.2.1.symm | exact hSc.2.2.2.2.1.symm), hC1, kp0 _, kq0 _⟩
    · refine Rj_tsI (t := 64) d_M_count_3 (by first | assumption | exact ⟨by omega, by omega⟩) (by omega) (by omega) (by rw [hs3]; rfl) (by decide) ?_
      refine Rj_aload_n (q := 65) d_M_count_64 rfl rfl rfl ?_
      refine Rj_gr (q := 68) (zd := 11) gM_M_42_0 rfl rfl d_M_count_65 rfl ?_
      refine Rj_iload_n (q := 69) d_M_count_68 rfl rfl rfl ?_
      refine Rj_ia (q := 70) (v := ν 11 a) aM_11 rfl (by omega) rfl d_M_count_69 rfl ?_
      refine Rj_iret d_M_count_70 rfl ?_
      first | exact ⟨sm_I rfl, hC1, kp0 _, kq0 _⟩ | exact ⟨sm_I (by omega), hC1, kp0 _, kq0 _⟩ | exact ⟨sm_I (by rw [hs3]; first | exact z2.symm | exact z3.symm | exact hSc.2.2.2.1.symm | exact hSc.2.2.2.2.1.symm), hC1, kp0 _, kq0 _⟩
    · refine Rj_tsI (t := 71) d_M_count_3 (by first | assumption | exact ⟨by omega, by omega⟩) (by omega) (by omega) (by rw [hs3]; rfl) (by decide) ?_
      refine Rj_aload_n (q := 72) d_M_count_71 rfl rfl rfl ?_
      refine Rj_gi (q := 75) (ki := 2) (v := ν 0 2) gM_M_273_0 rfl rfl rfl d_M_count_72 rfl ?_
      refine Rj_iret d_M_count_75 rfl ?_
      first | exact ⟨sm_I rfl, hC1, kp0 _, kq0 _⟩ | exact ⟨sm_I (by omega), hC1, kp0 _, kq0 _⟩ | exact ⟨sm_I (by rw [hs3]; first | exact z2.symm | exact z3.symm | exact hSc.2.2.2.1.symm | exact hSc.2.2.2.2.1.symm), hC1, kp0 _, kq0 _⟩
    · refine Rj_tsI (t := 76) d_M_count_3 (by first | assumption | exact ⟨by omega, by omega⟩) (by omega) (by omega) (by rw [hs3]; rfl) (by decide) ?_
      refine Rj_aload_n (q := 77) d_M_count_76 rfl rfl rfl ?_
      refine Rj_vo (q := 80) (z := y_M_openOnes) (as := []) (rest := []) (la := [vA 0]) oM_0_M_openOnes ml_M_452 mw_M_openOnes mv_M_openOnes rfl d_M_count_77 rfl rfl rfl rfl rfl ?_
      refine s_M_openOnes hM ?_
      refine Rj_iret d_M_count_80 rfl ?_
      first | exact ⟨sm_I rfl, hC1, kp0 _, kq0 _⟩ | exact ⟨sm_I (by omega), hC1, kp0 _, kq0 _⟩ | exact ⟨sm_I (by rw [hs3]; first | exact z2.symm | exact z3.symm | exact hSc.2.2.2.1.symm | exact hSc.2.2.2.2.1.symm), hC1, kp0 _, kq0 _⟩
    · refine Rj_tsI (t := 81) d_M_count_3 (by first | assumption | exact ⟨by omega, by omega⟩) (by omega) (by omega) (by rw [hs3]; rfl) (by decide) ?_
      refine Rj_iconst (q := 82) d_M_count_81 rfl ?_
      refine Rj_istore_n (q := 83) (ls' := [vA 0, vI a, vI 0, vI 0]) d_M_count_82 rfl rfl (by decide) rfl ?_
      first | (exfalso; omega; done) | exact s_M_count_83 _ (Nat.lt_succ_self _) hM (show 0 ≤ (0 : Int) ∧ (0 : Int) ≤ ν 11 0 by omega) ⟨by decide, fun k hk => by rw [zbit_0]; exact ⟨fun q => absurd q (by decide), fun q => by omega⟩⟩ (fun s rg bt => ⟨sm_I (zbit_ext (n := 12) rg z7 (fun k k0 k1 => (bt k k0).trans (h.2.2.2.1.2.1.2 k k0).symm)), hC1, kp0 _, kq0 _⟩)
    · refine Rj_tsI (t := 120) d_M_count_3 (by first | assumption | exact ⟨by omega, by omega⟩) (by omega) (by omega) (by rw [hs3]; rfl) (by decide) ?_
      refine Rj_iconst (q := 121) d_M_count_120 rfl ?_
      refine Rj_istore_n (q := 122) (ls' := [vA 0, vI a, vI 0, vI 0]) d_M_count_121 rfl rfl (by decide) rfl ?_
      first | (exfalso; omega; done) | exact s_M_count_122 _ (Nat.lt_succ_self _) hM (show 0 ≤ (0 : Int) ∧ (0 : Int) ≤ ν 11 0 by omega) rfl ⟨sm_I h.2.2.2.1.2.2.1.symm, hC1, kp0 _, kq0 _⟩
    · refine Rj_tsI (t := 158) d_M_count_3 (by first | assumption | exact ⟨by omega, by omega⟩) (by omega) (by omega) (by rw [hs3]; rfl) (by decide) ?_
      refine Rj_aload_n (q := 159) d_M_count_158 rfl rfl rfl ?_
      refine Rj_gr (q := 162) (zd := 11) gM_M_42_0 rfl rfl d_M_count_159 rfl ?_
      refine Rj_iconst (q := 163) d_M_count_162 rfl ?_
      refine Rj_ia (q := 164) (v := ν 11 5) aM_11 rfl (by decide) rfl d_M_count_163 rfl ?_
      refine Rj_iret d_M_count_164 rfl ?_
      first | exact ⟨sm_I rfl, hC1, kp0 _, kq0 _⟩ | exact ⟨sm_I (by omega), hC1, kp0 _, kq0 _⟩ | exact ⟨sm_I (by rw [hs3]; first | exact z2.symm | exact z3.symm | exact hSc.2.2.2.1.symm | exact hSc.2.2.2.2.1.symm), hC1, kp0 _, kq0 _⟩
    · refine Rj_tsI (t := 165) d_M_count_3 (by first | assumption | exact ⟨by omega, by omega⟩) (by omega) (by omega) (by rw [hs3]; rfl) (by decide) ?_
      refine Rj_aload_n (q := 166) d_M_count_165 rfl rfl rfl ?_
      refine Rj_gr (q := 169) (zd := 11) gM_M_42_0 rfl rfl d_M_count_166 rfl ?_
      refine Rj_bipush (q := 171) d_M_count_169 rfl (by decide +kernel) ?_
      refine Rj_ia (q := 172) (v := ν 11 6) aM_11 rfl (by decide) rfl d_M_count_171 rfl ?_
      refine Rj_iret d_M_count_172 rfl ?_
      first | exact ⟨sm_I rfl, hC1, kp0 _, kq0 _⟩ | exact ⟨sm_I (by omega), hC1, kp0 _, kq0 _⟩ | exact ⟨sm_I (by rw [hs3]; first | exact z2.symm | exact z3.symm | exact hSc.2.2.2.1.symm | exact hSc.2.2.2.2.1.symm), hC1, kp0 _, kq0 _⟩
    · refine Rj_tsI (t := 173) d_M_count_3 (by first | assumption | exact ⟨by omega, by omega⟩) (by omega) (by omega) (by rw [hs3]; rfl) (by decide) ?_
      refine Rj_aload_n (q := 174) d_M_count_173 rfl rfl rfl ?_
      refine Rj_gr (q := 177) (zd := 11) gM_M_42_0 rfl rfl d_M_count_174 rfl ?_
      refine Rj_bipush (q := 179) d_M_count_177 rfl (by decide +kernel) ?_
      refine Rj_ia (q := 180) (v := ν 11 8) aM_11 rfl (by decide) rfl d_M_count_179 rfl ?_
      refine Rj_iret d_M_count_180 rfl ?_
      first | exact ⟨sm_I rfl, hC1, kp0 _, kq0 _⟩ | exact ⟨sm_I (by omega), hC1, kp0 _, kq0 _⟩ | exact ⟨sm_I (by rw [hs3]; first | exact z2.symm | exact z3.symm | exact hSc.2.2.2.1.symm | exact hSc.2.2.2.2.1.symm), hC1, kp0 _, kq0 _⟩
    · refine Rj_tsI (t := 181) d_M_count_3 (by first | assumption | exact ⟨by omega, by omega⟩) (by omega) (by omega) (by rw [hs3]; rfl) (by decide) ?_
      refine Rj_aload_n (q := 182) d_M_count_181 rfl rfl rfl ?_
      refine Rj_gi (q := 185) (ki := 1) (v := ν 0 1) gM_M_99_0 rfl rfl rfl d_M_count_182 rfl ?_
      refine Rj_iret d_M_count_185 rfl ?_
      first | exact ⟨sm_I rfl, hC1, kp0 _, kq0 _⟩ | exact ⟨sm_I (by omega), hC1, kp0 _, kq0 _⟩ | exact ⟨sm_I (by rw [hs3]; first | exact z2.symm | exact z3.symm | exact hSc.2.2.2.1.symm | exact hSc.2.2.2.2.1.symm), hC1, kp0 _, kq0 _⟩
    · refine Rj_tsI (t := 186) d_M_count_3 (by first | assumption | exact ⟨by omega, by omega⟩) (by omega) (by omega) (by rw [hs3]; rfl) (by decide) ?_
      refine Rj_aload_n (q := 187) d_M_count_186 rfl rfl rfl ?_
      refine Rj_gr (q := 190) (zd := 11) gM_M_42_0 rfl rfl d_M_count_187 rfl ?_
      refine Rj_iload_n (q := 191) d_M_count_190 rfl rfl rfl ?_
      refine Rj_bipush (q := 193) d_M_count_191 rfl (by decide +kernel) ?_
      refine Rj_isub (q := 194) d_M_count_193 rfl ?_
      refine Rj_ia (q := 195) (v := ν 11 (a - 7)) aM_11 rfl (by omega) rfl d_M_count_194 rfl ?_
      refine Rj_iret d_M_count_195 rfl ?_
      first | exact ⟨sm_I rfl, hC1, kp0 _, kq0 _⟩ | exact ⟨sm_I (by omega), hC1, kp0 _, kq0 _⟩ | exact ⟨sm_I (by rw [hs3]; first | exact z2.symm | exact z3.symm | exact hSc.2.2.2.1.symm | exact hSc.2.2.2.2.1.symm), hC1, kp0 _, kq0 _⟩
    · refine Rj_tsI (t := 186) d_M_count_3 (by first | assumption | exact ⟨by omega, by omega⟩) (by omega) (by omega) (by rw [hs3]; rfl) (by decide) ?_
      refine Rj_aload_n (q := 187) d_M_count_186 rfl rfl rfl ?_
      refine Rj_gr (q := 190) (zd := 11) gM_M_42_0 rfl rfl d_M_count_187 rfl ?_
      refine Rj_iload_n (q := 191) d_M_count_190 rfl rfl rfl ?_
      refine Rj_bipush (q := 193) d_M_count_191 rfl (by decide +kernel) ?_
      refine Rj_isub (q := 194) d_M_count_193 rfl ?_
      refine Rj_ia (q := 195) (v := ν 11 (a - 7)) aM_11 rfl (by omega) rfl d_M_count_194 rfl ?_
      refine Rj_iret d_M_count_195 rfl ?_
      first | exact ⟨sm_I rfl, hC1, kp0 _, kq0 _⟩ | exact ⟨sm_I (by omega), hC1, kp0 _, kq0 _⟩ | exact ⟨sm_I (by rw [hs3]; first | exact z2.symm | exact z3.symm | exact hSc.2.2.2.1.symm | exact hSc.2.2.2.2.1.symm), hC1, kp0 _, kq0 _⟩
    · refine Rj_tsO (t := 196) d_M_count_3 (by first | assumption | exact ⟨by omega, by omega⟩) hs3 (by decide) ?_
      refine Rj_iconst (q := 197) d_M_count_196 rfl ?_
      refine Rj_iret d_M_count_197 rfl ?_
      first | exact ⟨sm_I rfl, hC1, kp0 _, kq0 _⟩ | exact ⟨sm_I (by omega), hC1, kp0 _, kq0 _⟩ | exact ⟨sm_I (by rw [hs3]; first | exact z2.symm | exact z3.symm | exact hSc.2.2.2.1.symm | exact hSc.2.2.2.2.1.symm), hC1, kp0 _, kq0 _⟩
  · refine Rj_tsI (t := 88) d_D_count_1 (by first | assumption | exact ⟨by omega, by omega⟩) (by omega) (by omega) (by rw [hs1]; rfl) (by decide) ?_
    refine Rj_aload_n (q := 89) d_D_count_88 rfl rfl rfl ?_
    refine Rj_gr (q := 92) (zd := 59) gD_D_45_0 rfl rfl d_D_count_89 rfl ?_
    refine Rj_vo (q := 95) (z := y_Ge_openSet) (as := []) (rest := []) (la := [vA 59]) oD_59_Ge_openSet ml_D_297 mw_Ge_openSet mv_Ge_openSet rfl d_D_count_92 rfl rfl rfl rfl rfl ?_
    refine s_openSet h ?_
    refine Rj_iret d_D_count_95 rfl ?_
    refine Rj_iconst (q := 1) d_M_count_0 rfl ?_
    refine Rj_istore_n (q := 2) (ls' := [vA 0, vI a, vI 0]) d_M_count_1 rfl rfl (by decide) rfl ?_
    refine Rj_iload_n (q := 3) d_M_count_2 rfl rfl rfl ?_
    rcases (show a = 0 ∨ a = 1 ∨ a = 2 ∨ a = 3 ∨ a = 4 ∨ a = 5 ∨ a = 6 ∨ a = 7 ∨ a = 8 ∨ a = 9 ∨ a = 10 ∨ a = 11 ∨ (a < 0 ∨ 11 < a) by omega) with hs3 | hs3 | hs3 | hs3 | hs3 | hs3 | hs3 | hs3 | hs3 | hs3 | hs3 | hs3 | hs3
    · refine Rj_tsI (t := 64) d_M_count_3 (by first | assumption | exact ⟨by omega, by omega⟩) (by omega) (by omega) (by rw [hs3]; rfl) (by decide) ?_
      refine Rj_aload_n (q := 65) d_M_count_64 rfl rfl rfl ?_
      refine Rj_gr (q := 68) (zd := 11) gM_M_42_0 rfl rfl d_M_count_65 rfl ?_
      refine Rj_iload_n (q := 69) d_M_count_68 rfl rfl rfl ?_
      refine Rj_ia (q := 70) (v := ν 11 a) aM_11 rfl (by omega) rfl d_M_count_69 rfl ?_
      refine Rj_iret d_M_count_70 rfl ?_
      first | exact ⟨sm_I rfl, hC1, kp0 _, kq0 _⟩ | exact ⟨sm_I (by omega), hC1, kp0 _, kq0 _⟩ | exact ⟨sm_I (by rw [hs3]; first | exact z2.symm | exact z3.symm | exact hSc.2.2.2.1.symm | exact hSc.2.2.2.2.1.symm), hC1, kp0 _, kq0 _⟩
    · refine Rj_tsI (t := 64) d_M_count_3 (by first | assumption | exact ⟨by omega, by omega⟩) (by omega) (by omega) (by rw [hs3]; rfl) (by decide) ?_
      refine Rj_aload_n (q := 65) d_M_count_64 rfl rfl rfl ?_
      refine Rj_gr (q := 68) (zd := 11) gM_M_42_0 rfl rfl d_M_count_65 rfl ?_
      refine Rj_iload_n (q := 69) d_M_count_68 rfl rfl rfl ?_
      refine Rj_ia (q := 70) (v := ν 11 a) aM_11 rfl (by omega) rfl d_M_count_69 rfl ?_
      refine Rj_iret d_M_count_70 rfl ?_
      first | exact ⟨sm_I rfl, hC1, kp0 _, kq0 _⟩ | exact ⟨sm_I (by omega), hC1, kp0 _, kq0 _⟩ | exact ⟨sm_I (by rw [hs3]; first | exact z2.symm | exact z3.symm | exact hSc.2.2.2.1.symm | exact hSc.2.2.2.2.1.symm), hC1, kp0 _, kq0 _⟩
    · refine Rj_tsI (t := 71) d_M_count_3 (by first | assumption | exact ⟨by omega, by omega⟩) (by omega) (by omega) (by rw [hs3]; rfl) (by decide) ?_
      refine Rj_aload_n (q := 72) d_M_count_71 rfl rfl rfl ?_
      refine Rj_gi (q := 75) (ki := 2) (v := ν 0 2) gM_M_273_0 rfl rfl rfl d_M_count_72 rfl ?_
      refine Rj_iret d_M_count_75 rfl ?_
      first | exact ⟨sm_I rfl, hC1, kp0 _, kq0 _⟩ | exact ⟨sm_I (by omega), hC1, kp0 _, kq0 _⟩ | exact ⟨sm_I (by rw [hs3]; first | exact z2.symm | exact z3.symm | exact hSc.2.2.2.1.symm | exact hSc.2.2.2.2.1.symm), hC1, kp0 _, kq0 _⟩
    · refine Rj_tsI (t := 76) d_M_count_3 (by first | assumption | exact ⟨by omega, by omega⟩) (by omega) (by omega) (by rw [hs3]; rfl) (by decide) ?_
      refine Rj_aload_n (q := 77) d_M_count_76 rfl rfl rfl ?_
      refine Rj_vo (q := 80) (z := y_M_openOnes) (as := []) (rest := []) (la := [vA 0]) oM_0_M_openOnes ml_M_452 mw_M_openOnes mv_M_openOnes rfl d_M_count_77 rfl rfl rfl rfl rfl ?_
      refine s_M_openOnes hM ?_
      refine Rj_iret d_M_count_80 rfl ?_
      first | exact ⟨sm_I rfl, hC1, kp0 _, kq0 _⟩ | exact ⟨sm_I (by omega), hC1, kp0 _, kq0 _⟩ | exact ⟨sm_I (by rw [hs3]; first | exact z2.symm | exact z3.symm | exact hSc.2.2.2.1.symm | exact hSc.2.2.2.2.1.symm), hC1, kp0 _, kq0 _⟩
    · refine Rj_tsI (t := 81) d_M_count_3 (by first | assumption | exact ⟨by omega, by omega⟩) (by omega) (by omega) (by rw [hs3]; rfl) (by decide) ?_
      refine Rj_iconst (q := 82) d_M_count_81 rfl ?_
      refine Rj_istore_n (q := 83) (ls' := [vA 0, vI a, vI 0, vI 0]) d_M_count_82 rfl rfl (by decide) rfl ?_
      first | (exfalso; omega; done) | exact s_M_count_83 _ (Nat.lt_succ_self _) hM (show 0 ≤ (0 : Int) ∧ (0 : Int) ≤ ν 11 0 by omega) ⟨by decide, fun k hk => by rw [zbit_0]; exact ⟨fun q => absurd q (by decide), fun q => by omega⟩⟩ (fun s rg bt => ⟨sm_I (zbit_ext (n := 12) rg z7 (fun k k0 k1 => (bt k k0).trans (h.2.2.2.1.2.1.2 k k0).symm)), hC1, kp0 _, kq0 _⟩)
    · refine Rj_tsI (t := 120) d_M_count_3 (by first | assumption | exact ⟨by omega, by omega⟩) (by omega) (by omega) (by rw [hs3]; rfl) (by decide) ?_
      refine Rj_iconst (q := 121) d_M_count_120 rfl ?_
      refine Rj_istore_n (q := 122) (ls' := [vA 0, vI a, vI 0, vI 0]) d_M_count_121 rfl rfl (by decide) rfl ?_
      first | (exfalso; omega; done) | exact s_M_count_122 _ (Nat.lt_succ_self _) hM (show 0 ≤ (0 : Int) ∧ (0 : Int) ≤ ν 11 0 by omega) rfl ⟨sm_I h.2.2.2.1.2.2.1.symm, hC1, kp0 _, kq0 _⟩
    · refine Rj_tsI (t := 158) d_M_count_3 (by first | assumption | exact ⟨by omega, by omega⟩) (by omega) (by omega) (by rw [hs3]; rfl) (by decide) ?_
      refine Rj_aload_n (q := 159) d_M_count_158 rfl rfl rfl ?_
      refine Rj_gr (q := 162) (zd := 11) gM_M_42_0 rfl rfl d_M_count_159 rfl ?_
      refine Rj_iconst (q := 163) d_M_count_162 rfl ?_
      refine Rj_ia (q := 164) (v := ν 11 5) aM_11 rfl (by decide) rfl d_M_count_163 rfl ?_
      refine Rj_iret d_M_count_164 rfl ?_
      first | exact ⟨sm_I rfl, hC1, kp0 _, kq0 _⟩ | exact ⟨sm_I (by omega), hC1, kp0 _, kq0 _⟩ | exact ⟨sm_I (by rw [hs3]; first | exact z2.symm | exact z3.symm | exact hSc.2.2.2.1.symm | exact hSc.2.2.2.2.1.symm), hC1, kp0 _, kq0 _⟩
    · refine Rj_tsI (t := 165) d_M_count_3 (by first | assumption | exact ⟨by omega, by omega⟩) (by omega) (by omega) (by rw [hs3]; rfl) (by decide) ?_
      refine Rj_aload_n (q := 166) d_M_count_165 rfl rfl rfl ?_
      refine Rj_gr (q := 169) (zd := 11) gM_M_42_0 rfl rfl d_M_count_166 rfl ?_
      refine Rj_bipush (q := 171) d_M_count_169 rfl (by decide +kernel) ?_
      refine Rj_ia (q := 172) (v := ν 11 6) aM_11 rfl (by decide) rfl d_M_count_171 rfl ?_
      refine Rj_iret d_M_count_172 rfl ?_
      first | exact ⟨sm_I rfl, hC1, kp0 _, kq0 _⟩ | exact ⟨sm_I (by omega), hC1, kp0 _, kq0 _⟩ | exact ⟨sm_I (by rw [hs3]; first | exact z2.symm | exact z3.symm | exact hSc.2.2.2.1.symm | exact hSc.2.2.2.2.1.symm), hC1, kp0 _, kq0 _⟩
    · refine Rj_tsI (t := 173) d_M_count_3 (by first | assumption | exact ⟨by omega, by omega⟩) (by omega) (by omega) (by rw [hs3]; rfl) (by decide) ?_
      refine Rj_aload_n (q := 174) d_M_count_173 rfl rfl rfl ?_
      refine Rj_gr (q := 177) (zd := 11) gM_M_42_0 rfl rfl d_M_count_174 rfl ?_
      refine Rj_bipush (q := 179) d_M_count_177 rfl (by decide +kernel) ?_
      refine Rj_ia (q := 180) (v := ν 11 8) aM_11 rfl (by decide) rfl d_M_count_179 rfl ?_
      refine Rj_iret d_M_count_180 rfl ?_
      first | exact ⟨sm_I rfl, hC1, kp0 _, kq0 _⟩ | exact ⟨sm_I (by omega), hC1, kp0 _, kq0 _⟩ | exact ⟨sm_I (by rw [hs3]; first | exact z2.symm | exact z3.symm | exact hSc.2.2.2.1.symm | exact hSc.2.2.2.2.1.symm), hC1, kp0 _, kq0 _⟩
    · refine Rj_tsI (t := 181) d_M_count_3 (by first | assumption | exact ⟨by omega, by omega⟩) (by omega) (by omega) (by rw [hs3]; rfl) (by decide) ?_
      refine Rj_aload_n (q := 182) d_M_count_181 rfl rfl rfl ?_
      refine Rj_gi (q := 185) (ki := 1) (v := ν 0 1) gM_M_99_0 rfl rfl rfl d_M_count_182 rfl ?_
      refine Rj_iret d_M_count_185 rfl ?_
      first | exact ⟨sm_I rfl, hC1, kp0 _, kq0 _⟩ | exact ⟨sm_I (by omega), hC1, kp0 _, kq0 _⟩ | exact ⟨sm_I (by rw [hs3]; first | exact z2.symm | exact z3.symm | exact hSc.2.2.2.1.symm | exact hSc.2.2.2.2.1.symm), hC1, kp0 _, kq0 _⟩
    · refine Rj_tsI (t := 186) d_M_count_3 (by first | assumption | exact ⟨by omega, by omega⟩) (by omega) (by omega) (by rw [hs3]; rfl) (by decide) ?_
      refine Rj_aload_n (q := 187) d_M_count_186 rfl rfl rfl ?_
      refine Rj_gr (q := 190) (zd := 11) gM_M_42_0 rfl rfl d_M_count_187 rfl ?_
      refine Rj_iload_n (q := 191) d_M_count_190 rfl rfl rfl ?_
      refine Rj_bipush (q := 193) d_M_count_191 rfl (by decide +kernel) ?_
      refine Rj_isub (q := 194) d_M_count_193 rfl ?_
      refine Rj_ia (q := 195) (v := ν 11 (a - 7)) aM_11 rfl (by omega) rfl d_M_count_194 rfl ?_
      refine Rj_iret d_M_count_195 rfl ?_
      first | exact ⟨sm_I rfl, hC1, kp0 _, kq0 _⟩ | exact ⟨sm_I (by omega), hC1, kp0 _, kq0 _⟩ | exact ⟨sm_I (by rw [hs3]; first | exact z2.symm | exact z3.symm | exact hSc.2.2.2.1.symm | exact hSc.2.2.2.2.1.symm), hC1, kp0 _, kq0 _⟩
    · refine Rj_tsI (t := 186) d_M_count_3 (by first | assumption | exact ⟨by omega, by omega⟩) (by omega) (by omega) (by rw [hs3]; rfl) (by decide) ?_
      refine Rj_aload_n (q := 187) d_M_count_186 rfl rfl rfl ?_
      refine Rj_gr (q := 190) (zd := 11) gM_M_42_0 rfl rfl d_M_count_187 rfl ?_
      refine Rj_iload_n (q := 191) d_M_count_190 rfl rfl rfl ?_
      refine Rj_bipush (q := 193) d_M_count_191 rfl (by decide +kernel) ?_
      refine Rj_isub (q := 194) d_M_count_193 rfl ?_
      refine Rj_ia (q := 195) (v := ν 11 (a - 7)) aM_11 rfl (by omega) rfl d_M_count_194 rfl ?_
      refine Rj_iret d_M_count_195 rfl ?_
      first | exact ⟨sm_I rfl, hC1, kp0 _, kq0 _⟩ | exact ⟨sm_I (by omega), hC1, kp0 _, kq0 _⟩ | exact ⟨sm_I (by rw [hs3]; first | exact z2.symm | exact z3.symm | exact hSc.2.2.2.1.symm | exact hSc.2.2.2.2.1.symm), hC1, kp0 _, kq0 _⟩
    · refine Rj_tsO (t := 196) d_M_count_3 (by first | assumption | exact ⟨by omega, by omega⟩) hs3 (by decide) ?_
      refine Rj_iconst (q := 197) d_M_count_196 rfl ?_
      refine Rj_iret d_M_count_197 rfl ?_
      first | exact ⟨sm_I rfl, hC1, kp0 _, kq0 _⟩ | exact ⟨sm_I (by omega), hC1, kp0 _, kq0 _⟩ | exact ⟨sm_I (by rw [hs3]; first | exact z2.symm | exact z3.symm | exact hSc.2.2.2.1.symm | exact hSc.2.2.2.2.1.symm), hC1, kp0 _, kq0 _⟩
  · refine Rj_tsI (t := 96) d_D_count_1 (by first | assumption | exact ⟨by omega, by omega⟩) (by omega) (by omega) (by rw [hs1]; rfl) (by decide) ?_
    refine Rj_aload_n (q := 97) d_D_count_96 rfl rfl rfl ?_
    refine Rj_gr (q := 100) (zd := 59) gD_D_45_0 rfl rfl d_D_count_97 rfl ?_
    refine Rj_gi (q := 103) (ki := 7) (v := μ 59 7) gD_D_164_59 rfl rfl rfl d_D_count_100 rfl ?_
    refine Rj_iret d_D_count_103 rfl ?_
    refine Rj_iconst (q := 1) d_M_count_0 rfl ?_
    refine Rj_istore_n (q := 2) (ls' := [vA 0, vI a, vI 0]) d_M_count_1 rfl rfl (by decide) rfl ?_
    refine Rj_iload_n (q := 3) d_M_count_2 rfl rfl rfl ?_
    rcases (show a = 0 ∨ a = 1 ∨ a = 2 ∨ a = 3 ∨ a = 4 ∨ a = 5 ∨ a = 6 ∨ a = 7 ∨ a = 8 ∨ a = 9 ∨ a = 10 ∨ a = 11 ∨ (a < 0 ∨ 11 < a) by omega) with hs3 | hs3 | hs3 | hs3 | hs3 | hs3 | hs3 | hs3 | hs3 | hs3 | hs3 | hs3 | hs3
    · refine Rj_tsI (t := 64) d_M_count_3 (by first | assumption | exact ⟨by omega, by omega⟩) (by omega) (by omega) (by rw [hs3]; rfl) (by decide) ?_
      refine Rj_aload_n (q := 65) d_M_count_64 rfl rfl rfl ?_
      refine Rj_gr (q := 68) (zd := 11) gM_M_42_0 rfl rfl d_M_count_65 rfl ?_
      refine Rj_iload_n (q := 69) d_M_count_68 rfl rfl rfl ?_
      refine Rj_ia (q := 70) (v := ν 11 a) aM_11 rfl (by omega) rfl d_M_count_69 rfl ?_
      refine Rj_iret d_M_count_70 rfl ?_
      first | exact ⟨sm_I rfl, hC1, kp0 _, kq0 _⟩ | exact ⟨sm_I (by omega), hC1, kp0 _, kq0 _⟩ | exact ⟨sm_I (by rw [hs3]; first | exact z2.symm | exact z3.symm | exact hSc.2.2.2.1.symm | exact hSc.2.2.2.2.1.symm), hC1, kp0 _, kq0 _⟩
    · refine Rj_tsI (t := 64) d_M_count_3 (by first | assumption | exact ⟨by omega, by omega⟩) (by omega) (by omega) (by rw [hs3]; rfl) (by decide) ?_
      refine Rj_aload_n (q := 65) d_M_count_64 rfl rfl rfl ?_
      refine Rj_gr (q := 68) (zd := 11) gM_M_42_0 rfl rfl d_M_count_65 rfl ?_
      refine Rj_iload_n (q := 69) d_M_count_68 rfl rfl rfl ?_
      refine Rj_ia (q := 70) (v := ν 11 a) aM_11 rfl (by omega) rfl d_M_count_69 rfl ?_
      refine Rj_iret d_M_count_70 rfl ?_
      first | exact ⟨sm_I rfl, hC1, kp0 _, kq0 _⟩ | exact ⟨sm_I (by omega), hC1, kp0 _, kq0 _⟩ | exact ⟨sm_I (by rw [hs3]; first | exact z2.symm | exact z3.symm | exact hSc.2.2.2.1.symm | exact hSc.2.2.2.2.1.symm), hC1, kp0 _, kq0 _⟩
    · refine Rj_tsI (t := 71) d_M_count_3 (by first | assumption | exact ⟨by omega, by omega⟩) (by omega) (by omega) (by rw [hs3]; rfl) (by decide) ?_
      refine Rj_aload_n (q := 72) d_M_count_71 rfl rfl rfl ?_
      refine Rj_gi (q := 75) (ki := 2) (v := ν 0 2) gM_M_273_0 rfl rfl rfl d_M_count_72 rfl ?_
      refine Rj_iret d_M_count_75 rfl ?_
      first | exact ⟨sm_I rfl, hC1, kp0 _, kq0 _⟩ | exact ⟨sm_I (by omega), hC1, kp0 _, kq0 _⟩ | exact ⟨sm_I (by rw [hs3]; first | exact z2.symm | exact z3.symm | exact hSc.2.2.2.1.symm | exact hSc.2.2.2.2.1.symm), hC1, kp0 _, kq0 _⟩
    · refine Rj_tsI (t := 76) d_M_count_3 (by first | assumption | exact ⟨by omega, by omega⟩) (by omega) (by omega) (by rw [hs3]; rfl) (by decide) ?_
      refine Rj_aload_n (q := 77) d_M_count_76 rfl rfl rfl ?_
      refine Rj_vo (q := 80) (z := y_M_openOnes) (as := []) (rest := []) (la := [vA 0]) oM_0_M_openOnes ml_M_452 mw_M_openOnes mv_M_openOnes rfl d_M_count_77 rfl rfl rfl rfl rfl ?_
      refine s_M_openOnes hM ?_
      refine Rj_iret d_M_count_80 rfl ?_
      first | exact ⟨sm_I rfl, hC1, kp0 _, kq0 _⟩ | exact ⟨sm_I (by omega), hC1, kp0 _, kq0 _⟩ | exact ⟨sm_I (by rw [hs3]; first | exact z2.symm | exact z3.symm | exact hSc.2.2.2.1.symm | exact hSc.2.2.2.2.1.symm), hC1, kp0 _, kq0 _⟩
    · refine Rj_tsI (t := 81) d_M_count_3 (by first | assumption | exact ⟨by omega, by omega⟩) (by omega) (by omega) (by rw [hs3]; rfl) (by decide) ?_
      refine Rj_iconst (q := 82) d_M_count_81 rfl ?_
      refine Rj_istore_n (q := 83) (ls' := [vA 0, vI a, vI 0, vI 0]) d_M_count_82 rfl rfl (by decide) rfl ?_
      first | (exfalso; omega; done) | exact s_M_count_83 _ (Nat.lt_succ_self _) hM (show 0 ≤ (0 : Int) ∧ (0 : Int) ≤ ν 11 0 by omega) ⟨by decide, fun k hk => by rw [zbit_0]; exact ⟨fun q => absurd q (by decide), fun q => by omega⟩⟩ (fun s rg bt => ⟨sm_I (zbit_ext (n := 12) rg z7 (fun k k0 k1 => (bt k k0).trans (h.2.2.2.1.2.1.2 k k0).symm)), hC1, kp0 _, kq0 _⟩)
    · refine Rj_tsI (t := 120) d_M_count_3 (by first | assumption | exact ⟨by omega, by omega⟩) (by omega) (by omega) (by rw [hs3]; rfl) (by decide) ?_
      refine Rj_iconst (q := 121) d_M_count_120 rfl ?_
      refine Rj_istore_n (q := 122) (ls' := [vA 0, vI a, vI 0, vI 0]) d_M_count_121 rfl rfl (by decide) rfl ?_
      first | (exfalso; omega; done) | exact s_M_count_122 _ (Nat.lt_succ_self _) hM (show 0 ≤ (0 : Int) ∧ (0 : Int) ≤ ν 11 0 by omega) rfl ⟨sm_I h.2.2.2.1.2.2.1.symm, hC1, kp0 _, kq0 _⟩
    · refine Rj_tsI (t := 158) d_M_count_3 (by first | assumption | exact ⟨by omega, by omega⟩) (by omega) (by omega) (by rw [hs3]; rfl) (by decide) ?_
      refine Rj_aload_n (q := 159) d_M_count_158 rfl rfl rfl ?_
      refine Rj_gr (q := 162) (zd := 11) gM_M_42_0 rfl rfl d_M_count_159 rfl ?_
      refine Rj_iconst (q := 163) d_M_count_162 rfl ?_
      refine Rj_ia (q := 164) (v := ν 11 5) aM_11 rfl (by decide) rfl d_M_count_163 rfl ?_
      refine Rj_iret d_M_count_164 rfl ?_
      first | exact ⟨sm_I rfl, hC1, kp0 _, kq0 _⟩ | exact ⟨sm_I (by omega), hC1, kp0 _, kq0 _⟩ | exact ⟨sm_I (by rw [hs3]; first | exact z2.symm | exact z3.symm | exact hSc.2.2.2.1.symm | exact hSc.2.2.2.2.1.symm), hC1, kp0 _, kq0 _⟩
    · refine Rj_tsI (t := 165) d_M_count_3 (by first | assumption | exact ⟨by omega, by omega⟩) (by omega) (by omega) (by rw [hs3]; rfl) (by decide) ?_
      refine Rj_aload_n (q := 166) d_M_count_165 rfl rfl rfl ?_
      refine Rj_gr (q := 169) (zd := 11) gM_M_42_0 rfl rfl d_M_count_166 rfl ?_
      refine Rj_bipush (q := 171) d_M_count_169 rfl (by decide +kernel) ?_
      refine Rj_ia (q := 172) (v := ν 11 6) aM_11 rfl (by decide) rfl d_M_count_171 rfl ?_
      refine Rj_iret d_M_count_172 rfl ?_
      first | exact ⟨sm_I rfl, hC1, kp0 _, kq0 _⟩ | exact ⟨sm_I (by omega), hC1, kp0 _, kq0 _⟩ | exact ⟨sm_I (by rw [hs3]; first | exact z2.symm | exact z3.symm | exact hSc.2.2.2.1.symm | exact hSc.2.2.2.2.1.symm), hC1, kp0 _, kq0 _⟩
    · refine Rj_tsI (t := 173) d_M_count_3 (by first | assumption | exact ⟨by omega, by omega⟩) (by omega) (by omega) (by rw [hs3]; rfl) (by decide) ?_
      refine Rj_aload_n (q := 174) d_M_count_173 rfl rfl rfl ?_
      refine Rj_gr (q := 177) (zd := 11) gM_M_42_0 rfl rfl d_M_count_174 rfl ?_
      refine Rj_bipush (q := 179) d_M_count_177 rfl (by decide +kernel) ?_
      refine Rj_ia (q := 180) (v := ν 11 8) aM_11 rfl (by decide) rfl d_M_count_179 rfl ?_
      refine Rj_iret d_M_count_180 rfl ?_
      first | exact ⟨sm_I rfl, hC1, kp0 _, kq0 _⟩ | exact ⟨sm_I (by omega), hC1, kp0 _, kq0 _⟩ | exact ⟨sm_I (by rw [hs3]; first | exact z2.symm | exact z3.symm | exact hSc.2.2.2.1.symm | exact hSc.2.2.2.2.1.symm), hC1, kp0 _, kq0 _⟩
    · refine Rj_tsI (t := 181) d_M_count_3 (by first | assumption | exact ⟨by omega, by omega⟩) (by omega) (by omega) (by rw [hs3]; rfl) (by decide) ?_
      refine Rj_aload_n (q := 182) d_M_count_181 rfl rfl rfl ?_
      refine Rj_gi (q := 185) (ki := 1) (v := ν 0 1) gM_M_99_0 rfl rfl rfl d_M_count_182 rfl ?_
      refine Rj_iret d_M_count_185 rfl ?_
      first | exact ⟨sm_I rfl, hC1, kp0 _, kq0 _⟩ | exact ⟨sm_I (by omega), hC1, kp0 _, kq0 _⟩ | exact ⟨sm_I (by rw [hs3]; first | exact z2.symm | exact z3.symm | exact hSc.2.2.2.1.symm | exact hSc.2.2.2.2.1.symm), hC1, kp0 _, kq0 _⟩
    · refine Rj_tsI (t := 186) d_M_count_3 (by first | assumption | exact ⟨by omega, by omega⟩) (by omega) (by omega) (by rw [hs3]; rfl) (by decide) ?_
      refine Rj_aload_n (q := 187) d_M_count_186 rfl rfl rfl ?_
      refine Rj_gr (q := 190) (zd := 11) gM_M_42_0 rfl rfl d_M_count_187 rfl ?_
      refine Rj_iload_n (q := 191) d_M_count_190 rfl rfl rfl ?_
      refine Rj_bipush (q := 193) d_M_count_191 rfl (by decide +kernel) ?_
      refine Rj_isub (q := 194) d_M_count_193 rfl ?_
      refine Rj_ia (q := 195) (v := ν 11 (a - 7)) aM_11 rfl (by omega) rfl d_M_count_194 rfl ?_
      refine Rj_iret d_M_count_195 rfl ?_
      first | exact ⟨sm_I rfl, hC1, kp0 _, kq0 _⟩ | exact ⟨sm_I (by omega), hC1, kp0 _, kq0 _⟩ | exact ⟨sm_I (by rw [hs3]; first | exact z2.symm | exact z3.symm | exact hSc.2.2.2.1.symm | exact hSc.2.2.2.2.1.symm), hC1, kp0 _, kq0 _⟩
    · refine Rj_tsI (t := 186) d_M_count_3 (by first | assumption | exact ⟨by omega, by omega⟩) (by omega) (by omega) (by rw [hs3]; rfl) (by decide) ?_
      refine Rj_aload_n (q := 187) d_M_count_186 rfl rfl rfl ?_
      refine Rj_gr (q := 190) (zd := 11) gM_M_42_0 rfl rfl d_M_count_187 rfl ?_
      refine Rj_iload_n (q := 191) d_M_count_190 rfl rfl rfl ?_
      refine Rj_bipush (q := 193) d_M_count_191 rfl (by decide +kernel) ?_
      refine Rj_isub (q := 194) d_M_count_193 rfl ?_
      refine Rj_ia (q := 195) (v := ν 11 (a - 7)) aM_11 rfl (by omega) rfl d_M_count_194 rfl ?_
      refine Rj_iret d_M_count_195 rfl ?_
      first | exact ⟨sm_I rfl, hC1, kp0 _, kq0 _⟩ | exact ⟨sm_I (by omega), hC1, kp0 _, kq0 _⟩ | exact ⟨sm_I (by rw [hs3]; first | exact z2.symm | exact z3.symm | exact hSc.2.2.2.1.symm | exact hSc.2.2.2.2.1.symm), hC1, kp0 _, kq0 _⟩
    · refine Rj_tsO (t := 196) d_M_count_3 (by first | assumption | exact ⟨by omega, by omega⟩) hs3 (by decide) ?_
      refine Rj_iconst (q := 197) d_M_count_196 rfl ?_
      refine Rj_iret d_M_count_197 rfl ?_
      first | exact ⟨sm_I rfl, hC1, kp0 _, kq0 _⟩ | exact ⟨sm_I (by omega), hC1, kp0 _, kq0 _⟩ | exact ⟨sm_I (by rw [hs3]; first | exact z2.symm | exact z3.symm | exact hSc.2.2.2.1.symm | exact hSc.2.2.2.2.1.symm), hC1, kp0 _, kq0 _⟩
  · refine Rj_tsI (t := 104) d_D_count_1 (by first | assumption | exact ⟨by omega, by omega⟩) (by omega) (by omega) (by rw [hs1]; rfl) (by decide) ?_
    refine Rj_aload_n (q := 105) d_D_count_104 rfl rfl rfl ?_
    refine Rj_gr (q := 108) (zd := 59) gD_D_45_0 rfl rfl d_D_count_105 rfl ?_
    refine Rj_gi (q := 111) (ki := 8) (v := μ 59 8) gD_D_315_59 rfl rfl rfl d_D_count_108 rfl ?_
    refine Rj_iret d_D_count_111 rfl ?_
    refine Rj_iconst (q := 1) d_M_count_0 rfl ?_
    refine Rj_istore_n (q := 2) (ls' := [vA 0, vI a, vI 0]) d_M_count_1 rfl rfl (by decide) rfl ?_
    refine Rj_iload_n (q := 3) d_M_count_2 rfl rfl rfl ?_
    rcases (show a = 0 ∨ a = 1 ∨ a = 2 ∨ a = 3 ∨ a = 4 ∨ a = 5 ∨ a = 6 ∨ a = 7 ∨ a = 8 ∨ a = 9 ∨ a = 10 ∨ a = 11 ∨ (a < 0 ∨ 11 < a) by omega) with hs3 | hs3 | hs3 | hs3 | hs3 | hs3 | hs3 | hs3 | hs3 | hs3 | hs3 | hs3 | hs3
    · refine Rj_tsI (t := 64) d_M_count_3 (by first | assumption | exact ⟨by omega, by omega⟩) (by omega) (by omega) (by rw [hs3]; rfl) (by decide) ?_
      refine Rj_aload_n (q := 65) d_M_count_64 rfl rfl rfl ?_
      refine Rj_gr (q := 68) (zd := 11) gM_M_42_0 rfl rfl d_M_count_65 rfl ?_
      refine Rj_iload_n (q := 69) d_M_count_68 rfl rfl rfl ?_
      refine Rj_ia (q := 70) (v := ν 11 a) aM_11 rfl (by omega) rfl d_M_count_69 rfl ?_
      refine Rj_iret d_M_count_70 rfl ?_
      first | exact ⟨sm_I rfl, hC1, kp0 _, kq0 _⟩ | exact ⟨sm_I (by omega), hC1, kp0 _, kq0 _⟩ | exact ⟨sm_I (by rw [hs3]; first | exact z2.symm | exact z3.symm | exact hSc.2.2.2.1.symm | exact hSc.2.2.2.2.1.symm), hC1, kp0 _, kq0 _⟩
    · refine Rj_tsI (t := 64) d_M_count_3 (by first | assumption | exact ⟨by omega, by omega⟩) (by omega) (by omega) (by rw [hs3]; rfl) (by decide) ?_
      refine Rj_aload_n (q := 65) d_M_count_64 rfl rfl rfl ?_
      refine Rj_gr (q := 68) (zd := 11) gM_M_42_0 rfl rfl d_M_count_65 rfl ?_
      refine Rj_iload_n (q := 69) d_M_count_68 rfl rfl rfl ?_
      refine Rj_ia (q := 70) (v := ν 11 a) aM_11 rfl (by omega) rfl d_M_count_69 rfl ?_
      refine Rj_iret d_M_count_70 rfl ?_
      first | exact ⟨sm_I rfl, hC1, kp0 _, kq0 _⟩ | exact ⟨sm_I (by omega), hC1, kp0 _, kq0 _⟩ | exact ⟨sm_I (by rw [hs3]; first | exact z2.symm | exact z3.symm | exact hSc.2.2.2.1.symm | exact hSc.2.2.2.2.1.symm), hC1, kp0 _, kq0 _⟩
    · refine Rj_tsI (t := 71) d_M_count_3 (by first | assumption | exact ⟨by omega, by omega⟩) (by omega) (by omega) (by rw [hs3]; rfl) (by decide) ?_
      refine Rj_aload_n (q := 72) d_M_count_71 rfl rfl rfl ?_
      refine Rj_gi (q := 75) (ki := 2) (v := ν 0 2) gM_M_273_0 rfl rfl rfl d_M_count_72 rfl ?_
      refine Rj_iret d_M_count_75 rfl ?_
      first | exact ⟨sm_I rfl, hC1, kp0 _, kq0 _⟩ | exact ⟨sm_I (by omega), hC1, kp0 _, kq0 _⟩ | exact ⟨sm_I (by rw [hs3]; first | exact z2.symm | exact z3.symm | exact hSc.2.2.2.1.symm | exact hSc.2.2.2.2.1.symm), hC1, kp0 _, kq0 _⟩
    · refine Rj_tsI (t := 76) d_M_count_3 (by first | assumption | exact ⟨by omega, by omega⟩) (by omega) (by omega) (by rw [hs3]; rfl) (by decide) ?_
      refine Rj_aload_n (q := 77) d_M_count_76 rfl rfl rfl ?_
      refine Rj_vo (q := 80) (z := y_M_openOnes) (as := []) (rest := []) (la := [vA 0]) oM_0_M_openOnes ml_M_452 mw_M_openOnes mv_M_openOnes rfl d_M_count_77 rfl rfl rfl rfl rfl ?_
      refine s_M_openOnes hM ?_
      refine Rj_iret d_M_count_80 rfl ?_
      first | exact ⟨sm_I rfl, hC1, kp0 _, kq0 _⟩ | exact ⟨sm_I (by omega), hC1, kp0 _, kq0 _⟩ | exact ⟨sm_I (by rw [hs3]; first | exact z2.symm | exact z3.symm | exact hSc.2.2.2.1.symm | exact hSc.2.2.2.2.1.symm), hC1, kp0 _, kq0 _⟩
    · refine Rj_tsI (t := 81) d_M_count_3 (by first | assumption | exact ⟨by omega, by omega⟩) (by omega) (by omega) (by rw [hs3]; rfl) (by decide) ?_
      refine Rj_iconst (q := 82) d_M_count_81 rfl ?_
      refine Rj_istore_n (q := 83) (ls' := [vA 0, vI a, vI 0, vI 0]) d_M_count_82 rfl rfl (by decide) rfl ?_
      first | (exfalso; omega; done) | exact s_M_count_83 _ (Nat.lt_succ_self _) hM (show 0 ≤ (0 : Int) ∧ (0 : Int) ≤ ν 11 0 by omega) ⟨by decide, fun k hk => by rw [zbit_0]; exact ⟨fun q => absurd q (by decide), fun q => by omega⟩⟩ (fun s rg bt => ⟨sm_I (zbit_ext (n := 12) rg z7 (fun k k0 k1 => (bt k k0).trans (h.2.2.2.1.2.1.2 k k0).symm)), hC1, kp0 _, kq0 _⟩)
    · refine Rj_tsI (t := 120) d_M_count_3 (by first | assumption | exact ⟨by omega, by omega⟩) (by omega) (by omega) (by rw [hs3]; rfl) (by decide) ?_
      refine Rj_iconst (q := 121) d_M_count_120 rfl ?_
      refine Rj_istore_n (q := 122) (ls' := [vA 0, vI a, vI 0, vI 0]) d_M_count_121 rfl rfl (by decide) rfl ?_
      first | (exfalso; omega; done) | exact s_M_count_122 _ (Nat.lt_succ_self _) hM (show 0 ≤ (0 : Int) ∧ (0 : Int) ≤ ν 11 0 by omega) rfl ⟨sm_I h.2.2.2.1.2.2.1.symm, hC1, kp0 _, kq0 _⟩
    · refine Rj_tsI (t := 158) d_M_count_3 (by first | assumption | exact ⟨by omega, by omega⟩) (by omega) (by omega) (by rw [hs3]; rfl) (by decide) ?_
      refine Rj_aload_n (q := 159) d_M_count_158 rfl rfl rfl ?_
      refine Rj_gr (q := 162) (zd := 11) gM_M_42_0 rfl rfl d_M_count_159 rfl ?_
      refine Rj_iconst (q := 163) d_M_count_162 rfl ?_
      refine Rj_ia (q := 164) (v := ν 11 5) aM_11 rfl (by decide) rfl d_M_count_163 rfl ?_
      refine Rj_iret d_M_count_164 rfl ?_
      first | exact ⟨sm_I rfl, hC1, kp0 _, kq0 _⟩ | exact ⟨sm_I (by omega), hC1, kp0 _, kq0 _⟩ | exact ⟨sm_I (by rw [hs3]; first | exact z2.symm | exact z3.symm | exact hSc.2.2.2.1.symm | exact hSc.2.2.2.2.1.symm), hC1, kp0 _, kq0 _⟩
    · refine Rj_tsI (t := 165) d_M_count_3 (by first | assumption | exact ⟨by omega, by omega⟩) (by omega) (by omega) (by rw [hs3]; rfl) (by decide) ?_
      refine Rj_aload_n (q := 166) d_M_count_165 rfl rfl rfl ?_
      refine Rj_gr (q := 169) (zd := 11) gM_M_42_0 rfl rfl d_M_count_166 rfl ?_
      refine Rj_bipush (q := 171) d_M_count_169 rfl (by decide +kernel) ?_
      refine Rj_ia (q := 172) (v := ν 11 6) aM_11 rfl (by decide) rfl d_M_count_171 rfl ?_
      refine Rj_iret d_M_count_172 rfl ?_
      first | exact ⟨sm_I rfl, hC1, kp0 _, kq0 _⟩ | exact ⟨sm_I (by omega), hC1, kp0 _, kq0 _⟩ | exact ⟨sm_I (by rw [hs3]; first | exact z2.symm | exact z3.symm | exact hSc.2.2.2.1.symm | exact hSc.2.2.2.2.1.symm), hC1, kp0 _, kq0 _⟩
    · refine Rj_tsI (t := 173) d_M_count_3 (by first | assumption | exact ⟨by omega, by omega⟩) (by omega) (by omega) (by rw [hs3]; rfl) (by decide) ?_
      refine Rj_aload_n (q := 174) d_M_count_173 rfl rfl rfl ?_
      refine Rj_gr (q := 177) (zd := 11) gM_M_42_0 rfl rfl d_M_count_174 rfl ?_
      refine Rj_bipush (q := 179) d_M_count_177 rfl (by decide +kernel) ?_
      refine Rj_ia (q := 180) (v := ν 11 8) aM_11 rfl (by decide) rfl d_M_count_179 rfl ?_
      refine Rj_iret d_M_count_180 rfl ?_
      first | exact ⟨sm_I rfl, hC1, kp0 _, kq0 _⟩ | exact ⟨sm_I (by omega), hC1, kp0 _, kq0 _⟩ | exact ⟨sm_I (by rw [hs3]; first | exact z2.symm | exact z3.symm | exact hSc.2.2.2.1.symm | exact hSc.2.2.2.2.1.symm), hC1, kp0 _, kq0 _⟩
    · refine Rj_tsI (t := 181) d_M_count_3 (by first | assumption | exact ⟨by omega, by omega⟩) (by omega) (by omega) (by rw [hs3]; rfl) (by decide) ?_
      refine Rj_aload_n (q := 182) d_M_count_181 rfl rfl rfl ?_
      refine Rj_gi (q := 185) (ki := 1) (v := ν 0 1) gM_M_99_0 rfl rfl rfl d_M_count_182 rfl ?_
      refine Rj_iret d_M_count_185 rfl ?_
      first | exact ⟨sm_I rfl, hC1, kp0 _, kq0 _⟩ | exact ⟨sm_I (by omega), hC1, kp0 _, kq0 _⟩ | exact ⟨sm_I (by rw [hs3]; first | exact z2.symm | exact z3.symm | exact hSc.2.2.2.1.symm | exact hSc.2.2.2.2.1.symm), hC1, kp0 _, kq0 _⟩
    · refine Rj_tsI (t := 186) d_M_count_3 (by first | assumption | exact ⟨by omega, by omega⟩) (by omega) (by omega) (by rw [hs3]; rfl) (by decide) ?_
      refine Rj_aload_n (q := 187) d_M_count_186 rfl rfl rfl ?_
      refine Rj_gr (q := 190) (zd := 11) gM_M_42_0 rfl rfl d_M_count_187 rfl ?_
      refine Rj_iload_n (q := 191) d_M_count_190 rfl rfl rfl ?_
      refine Rj_bipush (q := 193) d_M_count_191 rfl (by decide +kernel) ?_
      refine Rj_isub (q := 194) d_M_count_193 rfl ?_
      refine Rj_ia (q := 195) (v := ν 11 (a - 7)) aM_11 rfl (by omega) rfl d_M_count_194 rfl ?_
      refine Rj_iret d_M_count_195 rfl ?_
      first | exact ⟨sm_I rfl, hC1, kp0 _, kq0 _⟩ | exact ⟨sm_I (by omega), hC1, kp0 _, kq0 _⟩ | exact ⟨sm_I (by rw [hs3]; first | exact z2.symm | exact z3.symm | exact hSc.2.2.2.1.symm | exact hSc.2.2.2.2.1.symm), hC1, kp0 _, kq0 _⟩
    · refine Rj_tsI (t := 186) d_M_count_3 (by first | assumption | exact ⟨by omega, by omega⟩) (by omega) (by omega) (by rw [hs3]; rfl) (by decide) ?_
      refine Rj_aload_n (q := 187) d_M_count_186 rfl rfl rfl ?_
      refine Rj_gr (q := 190) (zd := 11) gM_M_42_0 rfl rfl d_M_count_187 rfl ?_
      refine Rj_iload_n (q := 191) d_M_count_190 rfl rfl rfl ?_
      refine Rj_bipush (q := 193) d_M_count_191 rfl (by decide +kernel) ?_
      refine Rj_isub (q := 194) d_M_count_193 rfl ?_
      refine Rj_ia (q := 195) (v := ν 11 (a - 7)) aM_11 rfl (by omega) rfl d_M_count_194 rfl ?_
      refine Rj_iret d_M_count_195 rfl ?_
      first | exact ⟨sm_I rfl, hC1, kp0 _, kq0 _⟩ | exact ⟨sm_I (by omega), hC1, kp0 _, kq0 _⟩ | exact ⟨sm_I (by rw [hs3]; first | exact z2.symm | exact z3.symm | exact hSc.2.2.2.1.symm | exact hSc.2.2.2.2.1.symm), hC1, kp0 _, kq0 _⟩
    · refine Rj_tsO (t := 196) d_M_count_3 (by first | assumption | exact ⟨by omega, by omega⟩) hs3 (by decide) ?_
      refine Rj_iconst (q := 197) d_M_count_196 rfl ?_
      refine Rj_iret d_M_count_197 rfl ?_
      first | exact ⟨sm_I rfl, hC1, kp0 _, kq0 _⟩ | exact ⟨sm_I (by omega), hC1, kp0 _, kq0 _⟩ | exact ⟨sm_I (by rw [hs3]; first | exact z2.symm | exact z3.symm | exact hSc.2.2.2.1.symm | exact hSc.2.2.2.2.1.symm), hC1, kp0 _, kq0 _⟩
  · refine Rj_tsI (t := 112) d_D_count_1 (by first | assumption | exact ⟨by omega, by omega⟩) (by omega) (by omega) (by rw [hs1]; rfl) (by decide) ?_
    refine Rj_aload_n (q := 113) d_D_count_112 rfl rfl rfl ?_
    refine Rj_gr (q := 116) (zd := 3) gD_D_25_0 rfl rfl d_D_count_113 rfl ?_
    refine Rj_gi (q := 119) (ki := 14) (v := μ 3 14) gD_D_263_3 rfl rfl rfl d_D_count_116 rfl ?_
    refine Rj_iret d_D_count_119 rfl ?_
    refine Rj_iconst (q := 1) d_M_count_0 rfl ?_
    refine Rj_istore_n (q := 2) (ls' := [vA 0, vI a, vI 0]) d_M_count_1 rfl rfl (by decide) rfl ?_
    refine Rj_iload_n (q := 3) d_M_count_2 rfl rfl rfl ?_
    rcases (show a = 0 ∨ a = 1 ∨ a = 2 ∨ a = 3 ∨ a = 4 ∨ a = 5 ∨ a = 6 ∨ a = 7 ∨ a = 8 ∨ a = 9 ∨ a = 10 ∨ a = 11 ∨ (a < 0 ∨ 11 < a) by omega) with hs3 | hs3 | hs3 | hs3 | hs3 | hs3 | hs3 | hs3 | hs3 | hs3 | hs3 | hs3 | hs3
    · refine Rj_tsI (t := 64) d_M_count_3 (by first | assumption | exact ⟨by omega, by omega⟩) (by omega) (by omega) (by rw [hs3]; rfl) (by decide) ?_
      refine Rj_aload_n (q := 65) d_M_count_64 rfl rfl rfl ?_
      refine Rj_gr (q := 68) (zd := 11) gM_M_42_0 rfl rfl d_M_count_65 rfl ?_
      refine Rj_iload_n (q := 69) d_M_count_68 rfl rfl rfl ?_
      refine Rj_ia (q := 70) (v := ν 11 a) aM_11 rfl (by omega) rfl d_M_count_69 rfl ?_
      refine Rj_iret d_M_count_70 rfl ?_
      first | exact ⟨sm_I rfl, hC1, kp0 _, kq0 _⟩ | exact ⟨sm_I (by omega), hC1, kp0 _, kq0 _⟩ | exact ⟨sm_I (by rw [hs3]; first | exact z2.symm | exact z3.symm | exact hSc.2.2.2.1.symm | exact hSc.2.2.2.2.1.symm), hC1, kp0 _, kq0 _⟩
    · refine Rj_tsI (t := 64) d_M_count_3 (by first | assumption | exact ⟨by omega, by omega⟩) (by omega) (by omega) (by rw [hs3]; rfl) (by decide) ?_
      refine Rj_aload_n (q := 65) d_M_count_64 rfl rfl rfl ?_
      refine Rj_gr (q := 68) (zd := 11) gM_M_42_0 rfl rfl d_M_count_65 rfl ?_
      refine Rj_iload_n (q := 69) d_M_count_68 rfl rfl rfl ?_
      refine Rj_ia (q := 70) (v := ν 11 a) aM_11 rfl (by omega) rfl d_M_count_69 rfl ?_
      refine Rj_iret d_M_count_70 rfl ?_
      first | exact ⟨sm_I rfl, hC1, kp0 _, kq0 _⟩ | exact ⟨sm_I (by omega), hC1, kp0 _, kq0 _⟩ | exact ⟨sm_I (by rw [hs3]; first | exact z2.symm | exact z3.symm | exact hSc.2.2.2.1.symm | exact hSc.2.2.2.2.1.symm), hC1, kp0 _, kq0 _⟩
    · refine Rj_tsI (t := 71) d_M_count_3 (by first | assumption | exact ⟨by omega, by omega⟩) (by omega) (by omega) (by rw [hs3]; rfl) (by decide) ?_
      refine Rj_aload_n (q := 72) d_M_count_71 rfl rfl rfl ?_
      refine Rj_gi (q := 75) (ki := 2) (v := ν 0 2) gM_M_273_0 rfl rfl rfl d_M_count_72 rfl ?_
      refine Rj_iret d_M_count_75 rfl ?_
      first | exact ⟨sm_I rfl, hC1, kp0 _, kq0 _⟩ | exact ⟨sm_I (by omega), hC1, kp0 _, kq0 _⟩ | exact ⟨sm_I (by rw [hs3]; first | exact z2.symm | exact z3.symm | exact hSc.2.2.2.1.symm | exact hSc.2.2.2.2.1.symm), hC1, kp0 _, kq0 _⟩
    · refine Rj_tsI (t := 76) d_M_count_3 (by first | assumption | exact ⟨by omega, by omega⟩) (by omega) (by omega) (by rw [hs3]; rfl) (by decide) ?_
      refine Rj_aload_n (q := 77) d_M_count_76 rfl rfl rfl ?_
      refine Rj_vo (q := 80) (z := y_M_openOnes) (as := []) (rest := []) (la := [vA 0]) oM_0_M_openOnes ml_M_452 mw_M_openOnes mv_M_openOnes rfl d_M_count_77 rfl rfl rfl rfl rfl ?_
      refine s_M_openOnes hM ?_
      refine Rj_iret d_M_count_80 rfl ?_
      first | exact ⟨sm_I rfl, hC1, kp0 _, kq0 _⟩ | exact ⟨sm_I (by omega), hC1, kp0 _, kq0 _⟩ | exact ⟨sm_I (by rw [hs3]; first | exact z2.symm | exact z3.symm | exact hSc.2.2.2.1.symm | exact hSc.2.2.2.2.1.symm), hC1, kp0 _, kq0 _⟩
    · refine Rj_tsI (t := 81) d_M_count_3 (by first | assumption | exact ⟨by omega, by omega⟩) (by omega) (by omega) (by rw [hs3]; rfl) (by decide) ?_
      refine Rj_iconst (q := 82) d_M_count_81 rfl ?_
      refine Rj_istore_n (q := 83) (ls' := [vA 0, vI a, vI 0, vI 0]) d_M_count_82 rfl rfl (by decide) rfl ?_
      first | (exfalso; omega; done) | exact s_M_count_83 _ (Nat.lt_succ_self _) hM (show 0 ≤ (0 : Int) ∧ (0 : Int) ≤ ν 11 0 by omega) ⟨by decide, fun k hk => by rw [zbit_0]; exact ⟨fun q => absurd q (by decide), fun q => by omega⟩⟩ (fun s rg bt => ⟨sm_I (zbit_ext (n := 12) rg z7 (fun k k0 k1 => (bt k k0).trans (h.2.2.2.1.2.1.2 k k0).symm)), hC1, kp0 _, kq0 _⟩)
    · refine Rj_tsI (t := 120) d_M_count_3 (by first | assumption | exact ⟨by omega, by omega⟩) (by omega) (by omega) (by rw [hs3]; rfl) (by decide) ?_
      refine Rj_iconst (q := 121) d_M_count_120 rfl ?_
      refine Rj_istore_n (q := 122) (ls' := [vA 0, vI a, vI 0, vI 0]) d_M_count_121 rfl rfl (by decide) rfl ?_
      first | (exfalso; omega; done) | exact s_M_count_122 _ (Nat.lt_succ_self _) hM (show 0 ≤ (0 : Int) ∧ (0 : Int) ≤ ν 11 0 by omega) rfl ⟨sm_I h.2.2.2.1.2.2.1.symm, hC1, kp0 _, kq0 _⟩
    · refine Rj_tsI (t := 158) d_M_count_3 (by first | assumption | exact ⟨by omega, by omega⟩) (by omega) (by omega) (by rw [hs3]; rfl) (by decide) ?_
      refine Rj_aload_n (q := 159) d_M_count_158 rfl rfl rfl ?_
      refine Rj_gr (q := 162) (zd := 11) gM_M_42_0 rfl rfl d_M_count_159 rfl ?_
      refine Rj_iconst (q := 163) d_M_count_162 rfl ?_
      refine Rj_ia (q := 164) (v := ν 11 5) aM_11 rfl (by decide) rfl d_M_count_163 rfl ?_
      refine Rj_iret d_M_count_164 rfl ?_
      first | exact ⟨sm_I rfl, hC1, kp0 _, kq0 _⟩ | exact ⟨sm_I (by omega), hC1, kp0 _, kq0 _⟩ | exact ⟨sm_I (by rw [hs3]; first | exact z2.symm | exact z3.symm | exact hSc.2.2.2.1.symm | exact hSc.2.2.2.2.1.symm), hC1, kp0 _, kq0 _⟩
    · refine Rj_tsI (t := 165) d_M_count_3 (by first | assumption | exact ⟨by omega, by omega⟩) (by omega) (by omega) (by rw [hs3]; rfl) (by decide) ?_
      refine Rj_aload_n (q := 166) d_M_count_165 rfl rfl rfl ?_
      refine Rj_gr (q := 169) (zd := 11) gM_M_42_0 rfl rfl d_M_count_166 rfl ?_
      refine Rj_bipush (q := 171) d_M_count_169 rfl (by decide +kernel) ?_
      refine Rj_ia (q := 172) (v := ν 11 6) aM_11 rfl (by decide) rfl d_M_count_171 rfl ?_
      refine Rj_iret d_M_count_172 rfl ?_
      first | exact ⟨sm_I rfl, hC1, kp0 _, kq0 _⟩ | exact ⟨sm_I (by omega), hC1, kp0 _, kq0 _⟩ | exact ⟨sm_I (by rw [hs3]; first | exact z2.symm | exact z3.symm | exact hSc.2.2.2.1.symm | exact hSc.2.2.2.2.1.symm), hC1, kp0 _, kq0 _⟩
    · refine Rj_tsI (t := 173) d_M_count_3 (by first | assumption | exact ⟨by omega, by omega⟩) (by omega) (by omega) (by rw [hs3]; rfl) (by decide) ?_
      refine Rj_aload_n (q := 174) d_M_count_173 rfl rfl rfl ?_
      refine Rj_gr (q := 177) (zd := 11) gM_M_42_0 rfl rfl d_M_count_174 rfl ?_
      refine Rj_bipush (q := 179) d_M_count_177 rfl (by decide +kernel) ?_
      refine Rj_ia (q := 180) (v := ν 11 8) aM_11 rfl (by decide) rfl d_M_count_179 rfl ?_
      refine Rj_iret d_M_count_180 rfl ?_
      first | exact ⟨sm_I rfl, hC1, kp0 _, kq0 _⟩ | exact ⟨sm_I (by omega), hC1, kp0 _, kq0 _⟩ | exact ⟨sm_I (by rw [hs3]; first | exact z2.symm | exact z3.symm | exact hSc.2.2.2.1.symm | exact hSc.2.2.2.2.1.symm), hC1, kp0 _, kq0 _⟩
    · refine Rj_tsI (t := 181) d_M_count_3 (by first | assumption | exact ⟨by omega, by omega⟩) (by omega) (by omega) (by rw [hs3]; rfl) (by decide) ?_
      refine Rj_aload_n (q := 182) d_M_count_181 rfl rfl rfl ?_
      refine Rj_gi (q := 185) (ki := 1) (v := ν 0 1) gM_M_99_0 rfl rfl rfl d_M_count_182 rfl ?_
      refine Rj_iret d_M_count_185 rfl ?_
      first | exact ⟨sm_I rfl, hC1, kp0 _, kq0 _⟩ | exact ⟨sm_I (by omega), hC1, kp0 _, kq0 _⟩ | exact ⟨sm_I (by rw [hs3]; first | exact z2.symm | exact z3.symm | exact hSc.2.2.2.1.symm | exact hSc.2.2.2.2.1.symm), hC1, kp0 _, kq0 _⟩
    · refine Rj_tsI (t := 186) d_M_count_3 (by first | assumption | exact ⟨by omega, by omega⟩) (by omega) (by omega) (by rw [hs3]; rfl) (by decide) ?_
      refine Rj_aload_n (q := 187) d_M_count_186 rfl rfl rfl ?_
      refine Rj_gr (q := 190) (zd := 11) gM_M_42_0 rfl rfl d_M_count_187 rfl ?_
      refine Rj_iload_n (q := 191) d_M_count_190 rfl rfl rfl ?_
      refine Rj_bipush (q := 193) d_M_count_191 rfl (by decide +kernel) ?_
      refine Rj_isub (q := 194) d_M_count_193 rfl ?_
      refine Rj_ia (q := 195) (v := ν 11 (a - 7)) aM_11 rfl (by omega) rfl d_M_count_194 rfl ?_
      refine Rj_iret d_M_count_195 rfl ?_
      first | exact ⟨sm_I rfl, hC1, kp0 _, kq0 _⟩ | exact ⟨sm_I (by omega), hC1, kp0 _, kq0 _⟩ | exact ⟨sm_I (by rw [hs3]; first | exact z2.symm | exact z3.symm | exact hSc.2.2.2.1.symm | exact hSc.2.2.2.2.1.symm), hC1, kp0 _, kq0 _⟩
    · refine Rj_tsI (t := 186) d_M_count_3 (by first | assumption | exact ⟨by omega, by omega⟩) (by omega) (by omega) (by rw [hs3]; rfl) (by decide) ?_
      refine Rj_aload_n (q := 187) d_M_count_186 rfl rfl rfl ?_
      refine Rj_gr (q := 190) (zd := 11) gM_M_42_0 rfl rfl d_M_count_187 rfl ?_
      refine Rj_iload_n (q := 191) d_M_count_190 rfl rfl rfl ?_
      refine Rj_bipush (q := 193) d_M_count_191 rfl (by decide +kernel) ?_
      refine Rj_isub (q := 194) d_M_count_193 rfl ?_
      refine Rj_ia (q := 195) (v := ν 11 (a - 7)) aM_11 rfl (by omega) rfl d_M_count_194 rfl ?_
      refine Rj_iret d_M_count_195 rfl ?_
      first | exact ⟨sm_I rfl, hC1, kp0 _, kq0 _⟩ | exact ⟨sm_I (by omega), hC1, kp0 _, kq0 _⟩ | exact ⟨sm_I (by rw [hs3]; first | exact z2.symm | exact z3.symm | exact hSc.2.2.2.1.symm | exact hSc.2.2.2.2.1.symm), hC1, kp0 _, kq0 _⟩
    · refine Rj_tsO (t := 196) d_M_count_3 (by first | assumption | exact ⟨by omega, by omega⟩) hs3 (by decide) ?_
      refine Rj_iconst (q := 197) d_M_count_196 rfl ?_
      refine Rj_iret d_M_count_197 rfl ?_
      first | exact ⟨sm_I rfl, hC1, kp0 _, kq0 _⟩ | exact ⟨sm_I (by omega), hC1, kp0 _, kq0 _⟩ | exact ⟨sm_I (by rw [hs3]; first | exact z2.symm | exact z3.symm | exact hSc.2.2.2.1.symm | exact hSc.2.2.2.2.1.symm), hC1, kp0 _, kq0 _⟩
  · refine Rj_tsI (t := 120) d_D_count_1 (by first | assumption | exact ⟨by omega, by omega⟩) (by omega) (by omega) (by rw [hs1]; rfl) (by decide) ?_
    refine Rj_aload_n (q := 121) d_D_count_120 rfl rfl rfl ?_
    refine Rj_gr (q := 124) (zd := 3) gD_D_25_0 rfl rfl d_D_count_121 rfl ?_
    refine Rj_gi (q := 127) (ki := 12) (v := μ 3 12) gD_D_242_3 rfl rfl rfl d_D_count_124 rfl ?_
    refine Rj_iret d_D_count_127 rfl ?_
    refine Rj_iconst (q := 1) d_M_count_0 rfl ?_
    refine Rj_istore_n (q := 2) (ls' := [vA 0, vI a, vI 0]) d_M_count_1 rfl rfl (by decide) rfl ?_
    refine Rj_iload_n (q := 3) d_M_count_2 rfl rfl rfl ?_
    rcases (show a = 0 ∨ a = 1 ∨ a = 2 ∨ a = 3 ∨ a = 4 ∨ a = 5 ∨ a = 6 ∨ a = 7 ∨ a = 8 ∨ a = 9 ∨ a = 10 ∨ a = 11 ∨ (a < 0 ∨ 11 < a) by omega) with hs3 | hs3 | hs3 | hs3 | hs3 | hs3 | hs3 | hs3 | hs3 | hs3 | hs3 | hs3 | hs3
    · refine Rj_tsI (t := 64) d_M_count_3 (by first | assumption | exact ⟨by omega, by omega⟩) (by omega) (by omega) (by rw [hs3]; rfl) (by decide) ?_
      refine Rj_aload_n (q := 65) d_M_count_64 rfl rfl rfl ?_
      refine Rj_gr (q := 68) (zd := 11) gM_M_42_0 rfl rfl d_M_count_65 rfl ?_
      refine Rj_iload_n (q := 69) d_M_count_68 rfl rfl rfl ?_
      refine Rj_ia (q := 70) (v := ν 11 a) aM_11 rfl (by omega) rfl d_M_count_69 rfl ?_
      refine Rj_iret d_M_count_70 rfl ?_
      first | exact ⟨sm_I rfl, hC1, kp0 _, kq0 _⟩ | exact ⟨sm_I (by omega), hC1, kp0 _, kq0 _⟩ | exact ⟨sm_I (by rw [hs3]; first | exact z2.symm | exact z3.symm | exact hSc.2.2.2.1.symm | exact hSc.2.2.2.2.1.symm), hC1, kp0 _, kq0 _⟩
    · refine Rj_tsI (t := 64) d_M_count_3 (by first | assumption | exact ⟨by omega, by omega⟩) (by omega) (by omega) (by rw [hs3]; rfl) (by decide) ?_
      refine Rj_aload_n (q := 65) d_M_count_64 rfl rfl rfl ?_
      refine Rj_gr (q := 68) (zd := 11) gM_M_42_0 rfl rfl d_M_count_65 rfl ?_
      refine Rj_iload_n (q := 69) d_M_count_68 rfl rfl rfl ?_
      refine Rj_ia (q := 70) (v := ν 11 a) aM_11 rfl (by omega) rfl d_M_count_69 rfl ?_
      refine Rj_iret d_M_count_70 rfl ?_
      first | exact ⟨sm_I rfl, hC1, kp0 _, kq0 _⟩ | exact ⟨sm_I (by omega), hC1, kp0 _, kq0 _⟩ | exact ⟨sm_I (by rw [hs3]; first | exact z2.symm | exact z3.symm | exact hSc.2.2.2.1.symm | exact hSc.2.2.2.2.1.symm), hC1, kp0 _, kq0 _⟩
    · refine Rj_tsI (t := 71) d_M_count_3 (by first | assumption | exact ⟨by omega, by omega⟩) (by omega) (by omega) (by rw [hs3]; rfl) (by decide) ?_
      refine Rj_aload_n (q := 72) d_M_count_71 rfl rfl rfl ?_
      refine Rj_gi (q := 75) (ki := 2) (v := ν 0 2) gM_M_273_0 rfl rfl rfl d_M_count_72 rfl ?_
      refine Rj_iret d_M_count_75 rfl ?_
      first | exact ⟨sm_I rfl, hC1, kp0 _, kq0 _⟩ | exact ⟨sm_I (by omega), hC1, kp0 _, kq0 _⟩ | exact ⟨sm_I (by rw [hs3]; first | exact z2.symm | exact z3.symm | exact hSc.2.2.2.1.symm | exact hSc.2.2.2.2.1.symm), hC1, kp0 _, kq0 _⟩
    · refine Rj_tsI (t := 76) d_M_count_3 (by first | assumption | exact ⟨by omega, by omega⟩) (by omega) (by omega) (by rw [hs3]; rfl) (by decide) ?_
      refine Rj_aload_n (q := 77) d_M_count_76 rfl rfl rfl ?_
      refine Rj_vo (q := 80) (z := y_M_openOnes) (as := []) (rest := []) (la := [vA 0]) oM_0_M_openOnes ml_M_452 mw_M_openOnes mv_M_openOnes rfl d_M_count_77 rfl rfl rfl rfl rfl ?_
      refine s_M_openOnes hM ?_
      refine Rj_iret d_M_count_80 rfl ?_
      first | exact ⟨sm_I rfl, hC1, kp0 _, kq0 _⟩ | exact ⟨sm_I (by omega), hC1, kp0 _, kq0 _⟩ | exact ⟨sm_I (by rw [hs3]; first | exact z2.symm | exact z3.symm | exact hSc.2.2.2.1.symm | exact hSc.2.2.2.2.1.symm), hC1, kp0 _, kq0 _⟩
    · refine Rj_tsI (t := 81) d_M_count_3 (by first | assumption | exact ⟨by omega, by omega⟩) (by omega) (by omega) (by rw [hs3]; rfl) (by decide) ?_
      refine Rj_iconst (q := 82) d_M_count_81 rfl ?_
      refine Rj_istore_n (q := 83) (ls' := [vA 0, vI a, vI 0, vI 0]) d_M_count_82 rfl rfl (by decide) rfl ?_
      first | (exfalso; omega; done) | exact s_M_count_83 _ (Nat.lt_succ_self _) hM (show 0 ≤ (0 : Int) ∧ (0 : Int) ≤ ν 11 0 by omega) ⟨by decide, fun k hk => by rw [zbit_0]; exact ⟨fun q => absurd q (by decide), fun q => by omega⟩⟩ (fun s rg bt => ⟨sm_I (zbit_ext (n := 12) rg z7 (fun k k0 k1 => (bt k k0).trans (h.2.2.2.1.2.1.2 k k0).symm)), hC1, kp0 _, kq0 _⟩)
    · refine Rj_tsI (t := 120) d_M_count_3 (by first | assumption | exact ⟨by omega, by omega⟩) (by omega) (by omega) (by rw [hs3]; rfl) (by decide) ?_
      refine Rj_iconst (q := 121) d_M_count_120 rfl ?_
      refine Rj_istore_n (q := 122) (ls' := [vA 0, vI a, vI 0, vI 0]) d_M_count_121 rfl rfl (by decide) rfl ?_
      first | (exfalso; omega; done) | exact s_M_count_122 _ (Nat.lt_succ_self _) hM (show 0 ≤ (0 : Int) ∧ (0 : Int) ≤ ν 11 0 by omega) rfl ⟨sm_I h.2.2.2.1.2.2.1.symm, hC1, kp0 _, kq0 _⟩
    · refine Rj_tsI (t := 158) d_M_count_3 (by first | assumption | exact ⟨by omega, by omega⟩) (by omega) (by omega) (by rw [hs3]; rfl) (by decide) ?_
      refine Rj_aload_n (q := 159) d_M_count_158 rfl rfl rfl ?_
      refine Rj_gr (q := 162) (zd := 11) gM_M_42_0 rfl rfl d_M_count_159 rfl ?_
      refine Rj_iconst (q := 163) d_M_count_162 rfl ?_
      refine Rj_ia (q := 164) (v := ν 11 5) aM_11 rfl (by decide) rfl d_M_count_163 rfl ?_
      refine Rj_iret d_M_count_164 rfl ?_
      first | exact ⟨sm_I rfl, hC1, kp0 _, kq0 _⟩ | exact ⟨sm_I (by omega), hC1, kp0 _, kq0 _⟩ | exact ⟨sm_I (by rw [hs3]; first | exact z2.symm | exact z3.symm | exact hSc.2.2.2.1.symm | exact hSc.2.2.2.2.1.symm), hC1, kp0 _, kq0 _⟩
    · refine Rj_tsI (t := 165) d_M_count_3 (by first | assumption | exact ⟨by omega, by omega⟩) (by omega) (by omega) (by rw [hs3]; rfl) (by decide) ?_
      refine Rj_aload_n (q := 166) d_M_count_165 rfl rfl rfl ?_
      refine Rj_gr (q := 169) (zd := 11) gM_M_42_0 rfl rfl d_M_count_166 rfl ?_
      refine Rj_bipush (q := 171) d_M_count_169 rfl (by decide +kernel) ?_
      refine Rj_ia (q := 172) (v := ν 11 6) aM_11 rfl (by decide) rfl d_M_count_171 rfl ?_
      refine Rj_iret d_M_count_172 rfl ?_
      first | exact ⟨sm_I rfl, hC1, kp0 _, kq0 _⟩ | exact ⟨sm_I (by omega), hC1, kp0 _, kq0 _⟩ | exact ⟨sm_I (by rw [hs3]; first | exact z2.symm | exact z3.symm | exact hSc.2.2.2.1.symm | exact hSc.2.2.2.2.1.symm), hC1, kp0 _, kq0 _⟩
    · refine Rj_tsI (t := 173) d_M_count_3 (by first | assumption | exact ⟨by omega, by omega⟩) (by omega) (by omega) (by rw [hs3]; rfl) (by decide) ?_
      refine Rj_aload_n (q := 174) d_M_count_173 rfl rfl rfl ?_
      refine Rj_gr (q := 177) (zd := 11) gM_M_42_0 rfl rfl d_M_count_174 rfl ?_
      refine Rj_bipush (q := 179) d_M_count_177 rfl (by decide +kernel) ?_
      refine Rj_ia (q := 180) (v := ν 11 8) aM_11 rfl (by decide) rfl d_M_count_179 rfl ?_
      refine Rj_iret d_M_count_180 rfl ?_
      first | exact ⟨sm_I rfl, hC1, kp0 _, kq0 _⟩ | exact ⟨sm_I (by omega), hC1, kp0 _, kq0 _⟩ | exact ⟨sm_I (by rw [hs3]; first | exact z2.symm | exact z3.symm | exact hSc.2.2.2.1.symm | exact hSc.2.2.2.2.1.symm), hC1, kp0 _, kq0 _⟩
    · refine Rj_tsI (t := 181) d_M_count_3 (by first | assumption | exact ⟨by omega, by omega⟩) (by omega) (by omega) (by rw [hs3]; rfl) (by decide) ?_
      refine Rj_aload_n (q := 182) d_M_count_181 rfl rfl rfl ?_
      refine Rj_gi (q := 185) (ki := 1) (v := ν 0 1) gM_M_99_0 rfl rfl rfl d_M_count_182 rfl ?_
      refine Rj_iret d_M_count_185 rfl ?_
      first | exact ⟨sm_I rfl, hC1, kp0 _, kq0 _⟩ | exact ⟨sm_I (by omega), hC1, kp0 _, kq0 _⟩ | exact ⟨sm_I (by rw [hs3]; first | exact z2.symm | exact z3.symm | exact hSc.2.2.2.1.symm | exact hSc.2.2.2.2.1.symm), hC1, kp0 _, kq0 _⟩
    · refine Rj_tsI (t := 186) d_M_count_3 (by first | assumption | exact ⟨by omega, by omega⟩) (by omega) (by omega) (by rw [hs3]; rfl) (by decide) ?_
      refine Rj_aload_n (q := 187) d_M_count_186 rfl rfl rfl ?_
      refine Rj_gr (q := 190) (zd := 11) gM_M_42_0 rfl rfl d_M_count_187 rfl ?_
      refine Rj_iload_n (q := 191) d_M_count_190 rfl rfl rfl ?_
      refine Rj_bipush (q := 193) d_M_count_191 rfl (by decide +kernel) ?_
      refine Rj_isub (q := 194) d_M_count_193 rfl ?_
      refine Rj_ia (q := 195) (v := ν 11 (a - 7)) aM_11 rfl (by omega) rfl d_M_count_194 rfl ?_
      refine Rj_iret d_M_count_195 rfl ?_
      first | exact ⟨sm_I rfl, hC1, kp0 _, kq0 _⟩ | exact ⟨sm_I (by omega), hC1, kp0 _, kq0 _⟩ | exact ⟨sm_I (by rw [hs3]; first | exact z2.symm | exact z3.symm | exact hSc.2.2.2.1.symm | exact hSc.2.2.2.2.1.symm), hC1, kp0 _, kq0 _⟩
    · refine Rj_tsI (t := 186) d_M_count_3 (by first | assumption | exact ⟨by omega, by omega⟩) (by omega) (by omega) (by rw [hs3]; rfl) (by decide) ?_
      refine Rj_aload_n (q := 187) d_M_count_186 rfl rfl rfl ?_
      refine Rj_gr (q := 190) (zd := 11) gM_M_42_0 rfl rfl d_M_count_187 rfl ?_
      refine Rj_iload_n (q := 191) d_M_count_190 rfl rfl rfl ?_
      refine Rj_bipush (q := 193) d_M_count_191 rfl (by decide +kernel) ?_
      refine Rj_isub (q := 194) d_M_count_193 rfl ?_
      refine Rj_ia (q := 195) (v := ν 11 (a - 7)) aM_11 rfl (by omega) rfl d_M_count_194 rfl ?_
      refine Rj_iret d_M_count_195 rfl ?_
      first | exact ⟨sm_I rfl, hC1, kp0 _, kq0 _⟩ | exact ⟨sm_I (by omega), hC1, kp0 _, kq0 _⟩ | exact ⟨sm_I (by rw [hs3]; first | exact z2.symm | exact z3.symm | exact hSc.2.2.2.1.symm | exact hSc.2.2.2.2.1.symm), hC1, kp0 _, kq0 _⟩
    · refine Rj_tsO (t := 196) d_M_count_3 (by first | assumption | exact ⟨by omega, by omega⟩) hs3 (by decide) ?_
      refine Rj_iconst (q := 197) d_M_count_196 rfl ?_
      refine Rj_iret d_M_count_197 rfl ?_
      first | exact ⟨sm_I rfl, hC1, kp0 _, kq0 _⟩ | exact ⟨sm_I (by omega), hC1, kp0 _, kq0 _⟩ | exact ⟨sm_I (by rw [hs3]; first | exact z2.symm | exact z3.symm | exact hSc.2.2.2.1.symm | exact hSc.2.2.2.2.1.symm), hC1, kp0 _, kq0 _⟩
  · refine Rj_tsI (t := 128) d_D_count_1 (by first | assumption | exact ⟨by omega, by omega⟩) (by omega) (by omega) (by rw [hs1]; rfl) (by decide) ?_
    refine Rj_aload_n (q := 129) d_D_count_128 rfl rfl rfl ?_
    refine Rj_gr (q := 132) (zd := 3) gD_D_25_0 rfl rfl d_D_count_129 rfl ?_
    refine Rj_gi (q := 135) (ki := 16) (v := μ 3 16) gD_D_121_3 rfl rfl rfl d_D_count_132 rfl ?_
    refine Rj_iret d_D_count_135 rfl ?_
    refine Rj_iconst (q := 1) d_M_count_0 rfl ?_
    refine Rj_istore_n (q := 2) (ls' := [vA 0, vI a, vI 0]) d_M_count_1 rfl rfl (by decide) rfl ?_
    refine Rj_iload_n (q := 3) d_M_count_2 rfl rfl rfl ?_
    rcases (show a = 0 ∨ a = 1 ∨ a = 2 ∨ a = 3 ∨ a = 4 ∨ a = 5 ∨ a = 6 ∨ a = 7 ∨ a = 8 ∨ a = 9 ∨ a = 10 ∨ a = 11 ∨ (a < 0 ∨ 11 < a) by omega) with hs3 | hs3 | hs3 | hs3 | hs3 | hs3 | hs3 | hs3 | hs3 | hs3 | hs3 | hs3 | hs3
    · refine Rj_tsI (t := 64) d_M_count_3 (by first | assumption | exact ⟨by omega, by omega⟩) (by omega) (by omega) (by rw [hs3]; rfl) (by decide) ?_
      refine Rj_aload_n (q := 65) d_M_count_64 rfl rfl rfl ?_
      refine Rj_gr (q := 68) (zd := 11) gM_M_42_0 rfl rfl d_M_count_65 rfl ?_
      refine Rj_iload_n (q := 69) d_M_count_68 rfl rfl rfl ?_
      refine Rj_ia (q := 70) (v := ν 11 a) aM_11 rfl (by omega) rfl d_M_count_69 rfl ?_
      refine Rj_iret d_M_count_70 rfl ?_
      first | exact ⟨sm_I rfl, hC1, kp0 _, kq0 _⟩ | exact ⟨sm_I (by omega), hC1, kp0 _, kq0 _⟩ | exact ⟨sm_I (by rw [hs3]; first | exact z2.symm | exact z3.symm | exact hSc.2.2.2.1.symm | exact hSc.2.2.2.2.1.symm), hC1, kp0 _, kq0 _⟩
    · refine Rj_tsI (t := 64) d_M_count_3 (by first | assumption | exact ⟨by omega, by omega⟩) (by omega) (by omega) (by rw [hs3]; rfl) (by decide) ?_
      refine Rj_aload_n (q := 65) d_M_count_64 rfl rfl rfl ?_
      refine Rj_gr (q := 68) (zd := 11) gM_M_42_0 rfl rfl d_M_count_65 rfl ?_
      refine Rj_iload_n (q := 69) d_M_count_68 rfl rfl rfl ?_
      refine Rj_ia (q := 70) (v := ν 11 a) aM_11 rfl (by omega) rfl d_M_count_69 rfl ?_
      refine Rj_iret d_M_count_70 rfl ?_
      first | exact ⟨sm_I rfl, hC1, kp0 _, kq0 _⟩ | exact ⟨sm_I (by omega), hC1, kp0 _, kq0 _⟩ | exact ⟨sm_I (by rw [hs3]; first | exact z2.symm | exact z3.symm | exact hSc.2.2.2.1.symm | exact hSc.2.2.2.2.1.symm), hC1, kp0 _, kq0 _⟩
    · refine Rj_tsI (t := 71) d_M_count_3 (by first | assumption | exact ⟨by omega, by omega⟩) (by omega) (by omega) (by rw [hs3]; rfl) (by decide) ?_
      refine Rj_aload_n (q := 72) d_M_count_71 rfl rfl rfl ?_
      refine Rj_gi (q := 75) (ki := 2) (v := ν 0 2) gM_M_273_0 rfl rfl rfl d_M_count_72 rfl ?_
      refine Rj_iret d_M_count_75 rfl ?_
      first | exact ⟨sm_I rfl, hC1, kp0 _, kq0 _⟩ | exact ⟨sm_I (by omega), hC1, kp0 _, kq0 _⟩ | exact ⟨sm_I (by rw [hs3]; first | exact z2.symm | exact z3.symm | exact hSc.2.2.2.1.symm | exact hSc.2.2.2.2.1.symm), hC1, kp0 _, kq0 _⟩
    · refine Rj_tsI (t := 76) d_M_count_3 (by first | assumption | exact ⟨by omega, by omega⟩) (by omega) (by omega) (by rw [hs3]; rfl) (by decide) ?_
      refine Rj_aload_n (q := 77) d_M_count_76 rfl rfl rfl ?_
      refine Rj_vo (q := 80) (z := y_M_openOnes) (as := []) (rest := []) (la := [vA 0]) oM_0_M_openOnes ml_M_452 mw_M_openOnes mv_M_openOnes rfl d_M_count_77 rfl rfl rfl rfl rfl ?_
      refine s_M_openOnes hM ?_
      refine Rj_iret d_M_count_80 rfl ?_
      first | exact ⟨sm_I rfl, hC1, kp0 _, kq0 _⟩ | exact ⟨sm_I (by omega), hC1, kp0 _, kq0 _⟩ | exact ⟨sm_I (by rw [hs3]; first | exact z2.symm | exact z3.symm | exact hSc.2.2.2.1.symm | exact hSc.2.2.2.2.1.symm), hC1, kp0 _, kq0 _⟩
    · refine Rj_tsI (t := 81) d_M_count_3 (by first | assumption | exact ⟨by omega, by omega⟩) (by omega) (by omega) (by rw [hs3]; rfl) (by decide) ?_
      refine Rj_iconst (q := 82) d_M_count_81 rfl ?_
      refine Rj_istore_n (q := 83) (ls' := [vA 0, vI a, vI 0, vI 0]) d_M_count_82 rfl rfl (by decide) rfl ?_
      first | (exfalso; omega; done) | exact s_M_count_83 _ (Nat.lt_succ_self _) hM (show 0 ≤ (0 : Int) ∧ (0 : Int) ≤ ν 11 0 by omega) ⟨by decide, fun k hk => by rw [zbit_0]; exact ⟨fun q => absurd q (by decide), fun q => by omega⟩⟩ (fun s rg bt => ⟨sm_I (zbit_ext (n := 12) rg z7 (fun k k0 k1 => (bt k k0).trans (h.2.2.2.1.2.1.2 k k0).symm)), hC1, kp0 _, kq0 _⟩)
    · refine Rj_tsI (t := 120) d_M_count_3 (by first | assumption | exact ⟨by omega, by omega⟩) (by omega) (by omega) (by rw [hs3]; rfl) (by decide) ?_
      refine Rj_iconst (q := 121) d_M_count_120 rfl ?_
      refine Rj_istore_n (q := 122) (ls' := [vA 0, vI a, vI 0, vI 0]) d_M_count_121 rfl rfl (by decide) rfl ?_
      first | (exfalso; omega; done) | exact s_M_count_122 _ (Nat.lt_succ_self _) hM (show 0 ≤ (0 : Int) ∧ (0 : Int) ≤ ν 11 0 by omega) rfl ⟨sm_I h.2.2.2.1.2.2.1.symm, hC1, kp0 _, kq0 _⟩
    · refine Rj_tsI (t := 158) d_M_count_3 (by first | assumption | exact ⟨by omega, by omega⟩) (by omega) (by omega) (by rw [hs3]; rfl) (by decide) ?_
      refine Rj_aload_n (q := 159) d_M_count_158 rfl rfl rfl ?_
      refine Rj_gr (q := 162) (zd := 11) gM_M_42_0 rfl rfl d_M_count_159 rfl ?_
      refine Rj_iconst (q := 163) d_M_count_162 rfl ?_
      refine Rj_ia (q := 164) (v := ν 11 5) aM_11 rfl (by decide) rfl d_M_count_163 rfl ?_
      refine Rj_iret d_M_count_164 rfl ?_
      first | exact ⟨sm_I rfl, hC1, kp0 _, kq0 _⟩ | exact ⟨sm_I (by omega), hC1, kp0 _, kq0 _⟩ | exact ⟨sm_I (by rw [hs3]; first | exact z2.symm | exact z3.symm | exact hSc.2.2.2.1.symm | exact hSc.2.2.2.2.1.symm), hC1, kp0 _, kq0 _⟩
    · refine Rj_tsI (t := 165) d_M_count_3 (by first | assumption | exact ⟨by omega, by omega⟩) (by omega) (by omega) (by rw [hs3]; rfl) (by decide) ?_
      refine Rj_aload_n (q := 166) d_M_count_165 rfl rfl rfl ?_
      refine Rj_gr (q := 169) (zd := 11) gM_M_42_0 rfl rfl d_M_count_166 rfl ?_
      refine Rj_bipush (q := 171) d_M_count_169 rfl (by decide +kernel) ?_
      refine Rj_ia (q := 172) (v := ν 11 6) aM_11 rfl (by decide) rfl d_M_count_171 rfl ?_
      refine Rj_iret d_M_count_172 rfl ?_
      first | exact ⟨sm_I rfl, hC1, kp0 _, kq0 _⟩ | exact ⟨sm_I (by omega), hC1, kp0 _, kq0 _⟩ | exact ⟨sm_I (by rw [hs3]; first | exact z2.symm | exact z3.symm | exact hSc.2.2.2.1.symm | exact hSc.2.2.2.2.1.symm), hC1, kp0 _, kq0 _⟩
    · refine Rj_tsI (t := 173) d_M_count_3 (by first | assumption | exact ⟨by omega, by omega⟩) (by omega) (by omega) (by rw [hs3]; rfl) (by decide) ?_
      refine Rj_aload_n (q := 174) d_M_count_173 rfl rfl rfl ?_
      refine Rj_gr (q := 177) (zd := 11) gM_M_42_0 rfl rfl d_M_count_174 rfl ?_
      refine Rj_bipush (q := 179) d_M_count_177 rfl (by decide +kernel) ?_
      refine Rj_ia (q := 180) (v := ν 11 8) aM_11 rfl (by decide) rfl d_M_count_179 rfl ?_
      refine Rj_iret d_M_count_180 rfl ?_
      first | exact ⟨sm_I rfl, hC1, kp0 _, kq0 _⟩ | exact ⟨sm_I (by omega), hC1, kp0 _, kq0 _⟩ | exact ⟨sm_I (by rw [hs3]; first | exact z2.symm | exact z3.symm | exact hSc.2.2.2.1.symm | exact hSc.2.2.2.2.1.symm), hC1, kp0 _, kq0 _⟩
    · refine Rj_tsI (t := 181) d_M_count_3 (by first | assumption | exact ⟨by omega, by omega⟩) (by omega) (by omega) (by rw [hs3]; rfl) (by decide) ?_
      refine Rj_aload_n (q := 182) d_M_count_181 rfl rfl rfl ?_
      refine Rj_gi (q := 185) (ki := 1) (v := ν 0 1) gM_M_99_0 rfl rfl rfl d_M_count_182 rfl ?_
      refine Rj_iret d_M_count_185 rfl ?_
      first | exact ⟨sm_I rfl, hC1, kp0 _, kq0 _⟩ | exact ⟨sm_I (by omega), hC1, kp0 _, kq0 _⟩ | exact ⟨sm_I (by rw [hs3]; first | exact z2.symm | exact z3.symm | exact hSc.2.2.2.1.symm | exact hSc.2.2.2.2.1.symm), hC1, kp0 _, kq0 _⟩
    · refine Rj_tsI (t := 186) d_M_count_3 (by first | assumption | exact ⟨by omega, by omega⟩) (by omega) (by omega) (by rw [hs3]; rfl) (by decide) ?_
      refine Rj_aload_n (q := 187) d_M_count_186 rfl rfl rfl ?_
      refine Rj_gr (q := 190) (zd := 11) gM_M_42_0 rfl rfl d_M_count_187 rfl ?_
      refine Rj_iload_n (q := 191) d_M_count_190 rfl rfl rfl ?_
      refine Rj_bipush (q := 193) d_M_count_191 rfl (by decide +kernel) ?_
      refine Rj_isub (q := 194) d_M_count_193 rfl ?_
      refine Rj_ia (q := 195) (v := ν 11 (a - 7)) aM_11 rfl (by omega) rfl d_M_count_194 rfl ?_
      refine Rj_iret d_M_count_195 rfl ?_
      first | exact ⟨sm_I rfl, hC1, kp0 _, kq0 _⟩ | exact ⟨sm_I (by omega), hC1, kp0 _, kq0 _⟩ | exact ⟨sm_I (by rw [hs3]; first | exact z2.symm | exact z3.symm | exact hSc.2.2.2.1.symm | exact hSc.2.2.2.2.1.symm), hC1, kp0 _, kq0 _⟩
    · refine Rj_tsI (t := 186) d_M_count_3 (by first | assumption | exact ⟨by omega, by omega⟩) (by omega) (by omega) (by rw [hs3]; rfl) (by decide) ?_
      refine Rj_aload_n (q := 187) d_M_count_186 rfl rfl rfl ?_
      refine Rj_gr (q := 190) (zd := 11) gM_M_42_0 rfl rfl d_M_count_187 rfl ?_
      refine Rj_iload_n (q := 191) d_M_count_190 rfl rfl rfl ?_
      refine Rj_bipush (q := 193) d_M_count_191 rfl (by decide +kernel) ?_
      refine Rj_isub (q := 194) d_M_count_193 rfl ?_
      refine Rj_ia (q := 195) (v := ν 11 (a - 7)) aM_11 rfl (by omega) rfl d_M_count_194 rfl ?_
      refine Rj_iret d_M_count_195 rfl ?_
      first | exact ⟨sm_I rfl, hC1, kp0 _, kq0 _⟩ | exact ⟨sm_I (by omega), hC1, kp0 _, kq0 _⟩ | exact ⟨sm_I (by rw [hs3]; first | exact z2.symm | exact z3.symm | exact hSc.2.2.2.1.symm | exact hSc.2.2.2.2.1.symm), hC1, kp0 _, kq0 _⟩
    · refine Rj_tsO (t := 196) d_M_count_3 (by first | assumption | exact ⟨by omega, by omega⟩) hs3 (by decide) ?_
      refine Rj_iconst (q := 197) d_M_count_196 rfl ?_
      refine Rj_iret d_M_count_197 rfl ?_
      first | exact ⟨sm_I rfl, hC1, kp0 _, kq0 _⟩ | exact ⟨sm_I (by omega), hC1, kp0 _, kq0 _⟩ | exact ⟨sm_I (by rw [hs3]; first | exact z2.symm | exact z3.symm | exact hSc.2.2.2.1.symm | exact hSc.2.2.2.2.1.symm), hC1, kp0 _, kq0 _⟩
  · refine Rj_tsI (t := 136) d_D_count_1 (by first | assumption | exact ⟨by omega, by omega⟩) (by omega) (by omega) (by rw [hs1]; rfl) (by decide) ?_
    refine Rj_aload_n (q := 137) d_D_count_136 rfl rfl rfl ?_
    refine Rj_gi (q := 140) (ki := 1) (v := μ 0 1) gD_D_104_0 rfl rfl rfl d_D_count_137 rfl ?_
    refine Rj_iret d_D_count_140 rfl ?_
    refine Rj_iconst (q := 1) d_M_count_0 rfl ?_
    refine Rj_istore_n (q := 2) (ls' := [vA 0, vI a, vI 0]) d_M_count_1 rfl rfl (by decide) rfl ?_
    refine Rj_iload_n (q := 3) d_M_count_2 rfl rfl rfl ?_
    rcases (show a = 0 ∨ a = 1 ∨ a = 2 ∨ a = 3 ∨ a = 4 ∨ a = 5 ∨ a = 6 ∨ a = 7 ∨ a = 8 ∨ a = 9 ∨ a = 10 ∨ a = 11 ∨ (a < 0 ∨ 11 < a) by omega) with hs3 | hs3 | hs3 | hs3 | hs3 | hs3 | hs3 | hs3 | hs3 | hs3 | hs3 | hs3 | hs3
    · refine Rj_tsI (t := 64) d_M_count_3 (by first | assumption | exact ⟨by omega, by omega⟩) (by omega) (by omega) (by rw [hs3]; rfl) (by decide) ?_
      refine Rj_aload_n (q := 65) d_M_count_64 rfl rfl rfl ?_
      refine Rj_gr (q := 68) (zd := 11) gM_M_42_0 rfl rfl d_M_count_65 rfl ?_
      refine Rj_iload_n (q := 69) d_M_count_68 rfl rfl rfl ?_
      refine Rj_ia (q := 70) (v := ν 11 a) aM_11 rfl (by omega) rfl d_M_count_69 rfl ?_
      refine Rj_iret d_M_count_70 rfl ?_
      first | exact ⟨sm_I rfl, hC1, kp0 _, kq0 _⟩ | exact ⟨sm_I (by omega), hC1, kp0 _, kq0 _⟩ | exact ⟨sm_I (by rw [hs3]; first | exact z2.symm | exact z3.symm | exact hSc.2.2.2.1.symm | exact hSc.2.2.2.2.1.symm), hC1, kp0 _, kq0 _⟩
    · refine Rj_tsI (t := 64) d_M_count_3 (by first | assumption | exact ⟨by omega, by omega⟩) (by omega) (by omega) (by rw [hs3]; rfl) (by decide) ?_
      refine Rj_aload_n (q := 65) d_M_count_64 rfl rfl rfl ?_
      refine Rj_gr (q := 68) (zd := 11) gM_M_42_0 rfl rfl d_M_count_65 rfl ?_
      refine Rj_iload_n (q := 69) d_M_count_68 rfl rfl rfl ?_
      refine Rj_ia (q := 70) (v := ν 11 a) aM_11 rfl (by omega) rfl d_M_count_69 rfl ?_
      refine Rj_iret d_M_count_70 rfl ?_
      first | exact ⟨sm_I rfl, hC1, kp0 _, kq0 _⟩ | exact ⟨sm_I (by omega), hC1, kp0 _, kq0 _⟩ | exact ⟨sm_I (by rw [hs3]; first | exact z2.symm | exact z3.symm | exact hSc.2.2.2.1.symm | exact hSc.2.2.2.2.1.symm), hC1, kp0 _, kq0 _⟩
    · refine Rj_tsI (t := 71) d_M_count_3 (by first | assumption | exact ⟨by omega, by omega⟩) (by omega) (by omega) (by rw [hs3]; rfl) (by decide) ?_
      refine Rj_aload_n (q := 72) d_M_count_71 rfl rfl rfl ?_
      refine Rj_gi (q := 75) (ki := 2) (v := ν 0 2) gM_M_273_0 rfl rfl rfl d_M_count_72 rfl ?_
      refine Rj_iret d_M_count_75 rfl ?_
      first | exact ⟨sm_I rfl, hC1, kp0 _, kq0 _⟩ | exact ⟨sm_I (by omega), hC1, kp0 _, kq0 _⟩ | exact ⟨sm_I (by rw [hs3]; first | exact z2.symm | exact z3.symm | exact hSc.2.2.2.1.symm | exact hSc.2.2.2.2.1.symm), hC1, kp0 _, kq0 _⟩
    · refine Rj_tsI (t := 76) d_M_count_3 (by first | assumption | exact ⟨by omega, by omega⟩) (by omega) (by omega) (by rw [hs3]; rfl) (by decide) ?_
      refine Rj_aload_n (q := 77) d_M_count_76 rfl rfl rfl ?_
      refine Rj_vo (q := 80) (z := y_M_openOnes) (as := []) (rest := []) (la := [vA 0]) oM_0_M_openOnes ml_M_452 mw_M_openOnes mv_M_openOnes rfl d_M_count_77 rfl rfl rfl rfl rfl ?_
      refine s_M_openOnes hM ?_
      refine Rj_iret d_M_count_80 rfl ?_
      first | exact ⟨sm_I rfl, hC1, kp0 _, kq0 _⟩ | exact ⟨sm_I (by omega), hC1, kp0 _, kq0 _⟩ | exact ⟨sm_I (by rw [hs3]; first | exact z2.symm | exact z3.symm | exact hSc.2.2.2.1.symm | exact hSc.2.2.2.2.1.symm), hC1, kp0 _, kq0 _⟩
    · refine Rj_tsI (t := 81) d_M_count_3 (by first | assumption | exact ⟨by omega, by omega⟩) (by omega) (by omega) (by rw [hs3]; rfl) (by decide) ?_
      refine Rj_iconst (q := 82) d_M_count_81 rfl ?_
      refine Rj_istore_n (q := 83) (ls' := [vA 0, vI a, vI 0, vI 0]) d_M_count_82 rfl rfl (by decide) rfl ?_
      first | (exfalso; omega; done) | exact s_M_count_83 _ (Nat.lt_succ_self _) hM (show 0 ≤ (0 : Int) ∧ (0 : Int) ≤ ν 11 0 by omega) ⟨by decide, fun k hk => by rw [zbit_0]; exact ⟨fun q => absurd q (by decide), fun q => by omega⟩⟩ (fun s rg bt => ⟨sm_I (zbit_ext (n := 12) rg z7 (fun k k0 k1 => (bt k k0).trans (h.2.2.2.1.2.1.2 k k0).symm)), hC1, kp0 _, kq0 _⟩)
    · refine Rj_tsI (t := 120) d_M_count_3 (by first | assumption | exact ⟨by omega, by omega⟩) (by omega) (by omega) (by rw [hs3]; rfl) (by decide) ?_
      refine Rj_iconst (q := 121) d_M_count_120 rfl ?_
      refine Rj_istore_n (q := 122) (ls' := [vA 0, vI a, vI 0, vI 0]) d_M_count_121 rfl rfl (by decide) rfl ?_
      first | (exfalso; omega; done) | exact s_M_count_122 _ (Nat.lt_succ_self _) hM (show 0 ≤ (0 : Int) ∧ (0 : Int) ≤ ν 11 0 by omega) rfl ⟨sm_I h.2.2.2.1.2.2.1.symm, hC1, kp0 _, kq0 _⟩
    · refine Rj_tsI (t := 158) d_M_count_3 (by first | assumption | exact ⟨by omega, by omega⟩) (by omega) (by omega) (by rw [hs3]; rfl) (by decide) ?_
      refine Rj_aload_n (q := 159) d_M_count_158 rfl rfl rfl ?_
      refine Rj_gr (q := 162) (zd := 11) gM_M_42_0 rfl rfl d_M_count_159 rfl ?_
      refine Rj_iconst (q := 163) d_M_count_162 rfl ?_
      refine Rj_ia (q := 164) (v := ν 11 5) aM_11 rfl (by decide) rfl d_M_count_163 rfl ?_
      refine Rj_iret d_M_count_164 rfl ?_
      first | exact ⟨sm_I rfl, hC1, kp0 _, kq0 _⟩ | exact ⟨sm_I (by omega), hC1, kp0 _, kq0 _⟩ | exact ⟨sm_I (by rw [hs3]; first | exact z2.symm | exact z3.symm | exact hSc.2.2.2.1.symm | exact hSc.2.2.2.2.1.symm), hC1, kp0 _, kq0 _⟩
    · refine Rj_tsI (t := 165) d_M_count_3 (by first | assumption | exact ⟨by omega, by omega⟩) (by omega) (by omega) (by rw [hs3]; rfl) (by decide) ?_
      refine Rj_aload_n (q := 166) d_M_count_165 rfl rfl rfl ?_
      refine Rj_gr (q := 169) (zd := 11) gM_M_42_0 rfl rfl d_M_count_166 rfl ?_
      refine Rj_bipush (q := 171) d_M_count_169 rfl (by decide +kernel) ?_
      refine Rj_ia (q := 172) (v := ν 11 6) aM_11 rfl (by decide) rfl d_M_count_171 rfl ?_
      refine Rj_iret d_M_count_172 rfl ?_
      first | exact ⟨sm_I rfl, hC1, kp0 _, kq0 _⟩ | exact ⟨sm_I (by omega), hC1, kp0 _, kq0 _⟩ | exact ⟨sm_I (by rw [hs3]; first | exact z2.symm | exact z3.symm | exact hSc.2.2.2.1.symm | exact hSc.2.2.2.2.1.symm), hC1, kp0 _, kq0 _⟩
    · refine Rj_tsI (t := 173) d_M_count_3 (by first | assumption | exact ⟨by omega, by omega⟩) (by omega) (by omega) (by rw [hs3]; rfl) (by decide) ?_
      refine Rj_aload_n (q := 174) d_M_count_173 rfl rfl rfl ?_
      refine Rj_gr (q := 177) (zd := 11) gM_M_42_0 rfl rfl d_M_count_174 rfl ?_
      refine Rj_bipush (q := 179) d_M_count_177 rfl (by decide +kernel) ?_
      refine Rj_ia (q := 180) (v := ν 11 8) aM_11 rfl (by decide) rfl d_M_count_179 rfl ?_
      refine Rj_iret d_M_count_180 rfl ?_
      first | exact ⟨sm_I rfl, hC1, kp0 _, kq0 _⟩ | exact ⟨sm_I (by omega), hC1, kp0 _, kq0 _⟩ | exact ⟨sm_I (by rw [hs3]; first | exact z2.symm | exact z3.symm | exact hSc.2.2.2.1.symm | exact hSc.2.2.2.2.1.symm), hC1, kp0 _, kq0 _⟩
    · refine Rj_tsI (t := 181) d_M_count_3 (by first | assumption | exact ⟨by omega, by omega⟩) (by omega) (by omega) (by rw [hs3]; rfl) (by decide) ?_
      refine Rj_aload_n (q := 182) d_M_count_181 rfl rfl rfl ?_
      refine Rj_gi (q := 185) (ki := 1) (v := ν 0 1) gM_M_99_0 rfl rfl rfl d_M_count_182 rfl ?_
      refine Rj_iret d_M_count_185 rfl ?_
      first | exact ⟨sm_I rfl, hC1, kp0 _, kq0 _⟩ | exact ⟨sm_I (by omega), hC1, kp0 _, kq0 _⟩ | exact ⟨sm_I (by rw [hs3]; first | exact z2.symm | exact z3.symm | exact hSc.2.2.2.1.symm | exact hSc.2.2.2.2.1.symm), hC1, kp0 _, kq0 _⟩
    · refine Rj_tsI (t := 186) d_M_count_3 (by first | assumption | exact ⟨by omega, by omega⟩) (by omega) (by omega) (by rw [hs3]; rfl) (by decide) ?_
      refine Rj_aload_n (q := 187) d_M_count_186 rfl rfl rfl ?_
      refine Rj_gr (q := 190) (zd := 11) gM_M_42_0 rfl rfl d_M_count_187 rfl ?_
      refine Rj_iload_n (q := 191) d_M_count_190 rfl rfl rfl ?_
      refine Rj_bipush (q := 193) d_M_count_191 rfl (by decide +kernel) ?_
      refine Rj_isub (q := 194) d_M_count_193 rfl ?_
      refine Rj_ia (q := 195) (v := ν 11 (a - 7)) aM_11 rfl (by omega) rfl d_M_count_194 rfl ?_
      refine Rj_iret d_M_count_195 rfl ?_
      first | exact ⟨sm_I rfl, hC1, kp0 _, kq0 _⟩ | exact ⟨sm_I (by omega), hC1, kp0 _, kq0 _⟩ | exact ⟨sm_I (by rw [hs3]; first | exact z2.symm | exact z3.symm | exact hSc.2.2.2.1.symm | exact hSc.2.2.2.2.1.symm), hC1, kp0 _, kq0 _⟩
    · refine Rj_tsI (t := 186) d_M_count_3 (by first | assumption | exact ⟨by omega, by omega⟩) (by omega) (by omega) (by rw [hs3]; rfl) (by decide) ?_
      refine Rj_aload_n (q := 187) d_M_count_186 rfl rfl rfl ?_
      refine Rj_gr (q := 190) (zd := 11) gM_M_42_0 rfl rfl d_M_count_187 rfl ?_
      refine Rj_iload_n (q := 191) d_M_count_190 rfl rfl rfl ?_
      refine Rj_bipush (q := 193) d_M_count_191 rfl (by decide +kernel) ?_
      refine Rj_isub (q := 194) d_M_count_193 rfl ?_
      refine Rj_ia (q := 195) (v := ν 11 (a - 7)) aM_11 rfl (by omega) rfl d_M_count_194 rfl ?_
      refine Rj_iret d_M_count_195 rfl ?_
      first | exact ⟨sm_I rfl, hC1, kp0 _, kq0 _⟩ | exact ⟨sm_I (by omega), hC1, kp0 _, kq0 _⟩ | exact ⟨sm_I (by rw [hs3]; first | exact z2.symm | exact z3.symm | exact hSc.2.2.2.1.symm | exact hSc.2.2.2.2.1.symm), hC1, kp0 _, kq0 _⟩
    · refine Rj_tsO (t := 196) d_M_count_3 (by first | assumption | exact ⟨by omega, by omega⟩) hs3 (by decide) ?_
      refine Rj_iconst (q := 197) d_M_count_196 rfl ?_
      refine Rj_iret d_M_count_197 rfl ?_
      first | exact ⟨sm_I rfl, hC1, kp0 _, kq0 _⟩ | exact ⟨sm_I (by omega), hC1, kp0 _, kq0 _⟩ | exact ⟨sm_I (by rw [hs3]; first | exact z2.symm | exact z3.symm | exact hSc.2.2.2.1.symm | exact hSc.2.2.2.2.1.symm), hC1, kp0 _, kq0 _⟩
  · refine Rj_tsI (t := 141) d_D_count_1 (by first | assumption | exact ⟨by omega, by omega⟩) (by omega) (by omega) (by rw [hs1]; rfl) (by decide) ?_
    refine Rj_aload_n (q := 142) d_D_count_141 rfl rfl rfl ?_
    refine Rj_gr (q := 145) (zd := 3) gD_D_25_0 rfl rfl d_D_count_142 rfl ?_
    refine Rj_gi (q := 148) (ki := 10) (v := μ 3 10) gD_D_223_3 rfl rfl rfl d_D_count_145 rfl ?_
    refine Rj_iret d_D_count_148 rfl ?_
    refine Rj_iconst (q := 1) d_M_count_0 rfl ?_
    refine Rj_istore_n (q := 2) (ls' := [vA 0, vI a, vI 0]) d_M_count_1 rfl rfl (by decide) rfl ?_
    refine Rj_iload_n (q := 3) d_M_count_2 rfl rfl rfl ?_
    rcases (show a = 0 ∨ a = 1 ∨ a = 2 ∨ a = 3 ∨ a = 4 ∨ a = 5 ∨ a = 6 ∨ a = 7 ∨ a = 8 ∨ a = 9 ∨ a = 10 ∨ a = 11 ∨ (a < 0 ∨ 11 < a) by omega) with hs3 | hs3 | hs3 | hs3 | hs3 | hs3 | hs3 | hs3 | hs3 | hs3 | hs3 | hs3 | hs3
    · refine Rj_tsI (t := 64) d_M_count_3 (by first | assumption | exact ⟨by omega, by omega⟩) (by omega) (by omega) (by rw [hs3]; rfl) (by decide) ?_
      refine Rj_aload_n (q := 65) d_M_count_64 rfl rfl rfl ?_
      refine Rj_gr (q := 68) (zd := 11) gM_M_42_0 rfl rfl d_M_count_65 rfl ?_
      refine Rj_iload_n (q := 69) d_M_count_68 rfl rfl rfl ?_
      refine Rj_ia (q := 70) (v := ν 11 a) aM_11 rfl (by omega) rfl d_M_count_69 rfl ?_
      refine Rj_iret d_M_count_70 rfl ?_
      first | exact ⟨sm_I rfl, hC1, kp0 _, kq0 _⟩ | exact ⟨sm_I (by omega), hC1, kp0 _, kq0 _⟩ | exact ⟨sm_I (by rw [hs3]; first | exact z2.symm | exact z3.symm | exact hSc.2.2.2.1.symm | exact hSc.2.2.2.2.1.symm), hC1, kp0 _, kq0 _⟩
    · refine Rj_tsI (t := 64) d_M_count_3 (by first | assumption | exact ⟨by omega, by omega⟩) (by omega) (by omega) (by rw [hs3]; rfl) (by decide) ?_
      refine Rj_aload_n (q := 65) d_M_count_64 rfl rfl rfl ?_
      refine Rj_gr (q := 68) (zd := 11) gM_M_42_0 rfl rfl d_M_count_65 rfl ?_
      refine Rj_iload_n (q := 69) d_M_count_68 rfl rfl rfl ?_
      refine Rj_ia (q := 70) (v := ν 11 a) aM_11 rfl (by omega) rfl d_M_count_69 rfl ?_
      refine Rj_iret d_M_count_70 rfl ?_
      first | exact ⟨sm_I rfl, hC1, kp0 _, kq0 _⟩ | exact ⟨sm_I (by omega), hC1, kp0 _, kq0 _⟩ | exact ⟨sm_I (by rw [hs3]; first | exact z2.symm | exact z3.symm | exact hSc.2.2.2.1.symm | exact hSc.2.2.2.2.1.symm), hC1, kp0 _, kq0 _⟩
    · refine Rj_tsI (t := 71) d_M_count_3 (by first | assumption | exact ⟨by omega, by omega⟩) (by omega) (by omega) (by rw [hs3]; rfl) (by decide) ?_
      refine Rj_aload_n (q := 72) d_M_count_71 rfl rfl rfl ?_
      refine Rj_gi (q := 75) (ki := 2) (v := ν 0 2) gM_M_273_0 rfl rfl rfl d_M_count_72 rfl ?_
      refine Rj_iret d_M_count_75 rfl ?_
      first | exact ⟨sm_I rfl, hC1, kp0 _, kq0 _⟩ | exact ⟨sm_I (by omega), hC1, kp0 _, kq0 _⟩ | exact ⟨sm_I (by rw [hs3]; first | exact z2.symm | exact z3.symm | exact hSc.2.2.2.1.symm | exact hSc.2.2.2.2.1.symm), hC1, kp0 _, kq0 _⟩
    · refine Rj_tsI (t := 76) d_M_count_3 (by first | assumption | exact ⟨by omega, by omega⟩) (by omega) (by omega) (by rw [hs3]; rfl) (by decide) ?_
      refine Rj_aload_n (q := 77) d_M_count_76 rfl rfl rfl ?_
      refine Rj_vo (q := 80) (z := y_M_openOnes) (as := []) (rest := []) (la := [vA 0]) oM_0_M_openOnes ml_M_452 mw_M_openOnes mv_M_openOnes rfl d_M_count_77 rfl rfl rfl rfl rfl ?_
      refine s_M_openOnes hM ?_
      refine Rj_iret d_M_count_80 rfl ?_
      first | exact ⟨sm_I rfl, hC1, kp0 _, kq0 _⟩ | exact ⟨sm_I (by omega), hC1, kp0 _, kq0 _⟩ | exact ⟨sm_I (by rw [hs3]; first | exact z2.symm | exact z3.symm | exact hSc.2.2.2.1.symm | exact hSc.2.2.2.2.1.symm), hC1, kp0 _, kq0 _⟩
    · refine Rj_tsI (t := 81) d_M_count_3 (by first | assumption | exact ⟨by omega, by omega⟩) (by omega) (by omega) (by rw [hs3]; rfl) (by decide) ?_
      refine Rj_iconst (q := 82) d_M_count_81 rfl ?_
      refine Rj_istore_n (q := 83) (ls' := [vA 0, vI a, vI 0, vI 0]) d_M_count_82 rfl rfl (by decide) rfl ?_
      first | (exfalso; omega; done) | exact s_M_count_83 _ (Nat.lt_succ_self _) hM (show 0 ≤ (0 : Int) ∧ (0 : Int) ≤ ν 11 0 by omega) ⟨by decide, fun k hk => by rw [zbit_0]; exact ⟨fun q => absurd q (by decide), fun q => by omega⟩⟩ (fun s rg bt => ⟨sm_I (zbit_ext (n := 12) rg z7 (fun k k0 k1 => (bt k k0).trans (h.2.2.2.1.2.1.2 k k0).symm)), hC1, kp0 _, kq0 _⟩)
    · refine Rj_tsI (t := 120) d_M_count_3 (by first | assumption | exact ⟨by omega, by omega⟩) (by omega) (by omega) (by rw [hs3]; rfl) (by decide) ?_
      refine Rj_iconst (q := 121) d_M_count_120 rfl ?_
      refine Rj_istore_n (q := 122) (ls' := [vA 0, vI a, vI 0, vI 0]) d_M_count_121 rfl rfl (by decide) rfl ?_
      first | (exfalso; omega; done) | exact s_M_count_122 _ (Nat.lt_succ_self _) hM (show 0 ≤ (0 : Int) ∧ (0 : Int) ≤ ν 11 0 by omega) rfl ⟨sm_I h.2.2.2.1.2.2.1.symm, hC1, kp0 _, kq0 _⟩
    · refine Rj_tsI (t := 158) d_M_count_3 (by first | assumption | exact ⟨by omega, by omega⟩) (by omega) (by omega) (by rw [hs3]; rfl) (by decide) ?_
      refine Rj_aload_n (q := 159) d_M_count_158 rfl rfl rfl ?_
      refine Rj_gr (q := 162) (zd := 11) gM_M_42_0 rfl rfl d_M_count_159 rfl ?_
      refine Rj_iconst (q := 163) d_M_count_162 rfl ?_
      refine Rj_ia (q := 164) (v := ν 11 5) aM_11 rfl (by decide) rfl d_M_count_163 rfl ?_
      refine Rj_iret d_M_count_164 rfl ?_
      first | exact ⟨sm_I rfl, hC1, kp0 _, kq0 _⟩ | exact ⟨sm_I (by omega), hC1, kp0 _, kq0 _⟩ | exact ⟨sm_I (by rw [hs3]; first | exact z2.symm | exact z3.symm | exact hSc.2.2.2.1.symm | exact hSc.2.2.2.2.1.symm), hC1, kp0 _, kq0 _⟩
    · refine Rj_tsI (t := 165) d_M_count_3 (by first | assumption | exact ⟨by omega, by omega⟩) (by omega) (by omega) (by rw [hs3]; rfl) (by decide) ?_
      refine Rj_aload_n (q := 166) d_M_count_165 rfl rfl rfl ?_
      refine Rj_gr (q := 169) (zd := 11) gM_M_42_0 rfl rfl d_M_count_166 rfl ?_
      refine Rj_bipush (q := 171) d_M_count_169 rfl (by decide +kernel) ?_
      refine Rj_ia (q := 172) (v := ν 11 6) aM_11 rfl (by decide) rfl d_M_count_171 rfl ?_
      refine Rj_iret d_M_count_172 rfl ?_
      first | exact ⟨sm_I rfl, hC1, kp0 _, kq0 _⟩ | exact ⟨sm_I (by omega), hC1, kp0 _, kq0 _⟩ | exact ⟨sm_I (by rw [hs3]; first | exact z2.symm | exact z3.symm | exact hSc.2.2.2.1.symm | exact hSc.2.2.2.2.1.symm), hC1, kp0 _, kq0 _⟩
    · refine Rj_tsI (t := 173) d_M_count_3 (by first | assumption | exact ⟨by omega, by omega⟩) (by omega) (by omega) (by rw [hs3]; rfl) (by decide) ?_
      refine Rj_aload_n (q := 174) d_M_count_173 rfl rfl rfl ?_
      refine Rj_gr (q := 177) (zd := 11) gM_M_42_0 rfl rfl d_M_count_174 rfl ?_
      refine Rj_bipush (q := 179) d_M_count_177 rfl (by decide +kernel) ?_
      refine Rj_ia (q := 180) (v := ν 11 8) aM_11 rfl (by decide) rfl d_M_count_179 rfl ?_
      refine Rj_iret d_M_count_180 rfl ?_
      first | exact ⟨sm_I rfl, hC1, kp0 _, kq0 _⟩ | exact ⟨sm_I (by omega), hC1, kp0 _, kq0 _⟩ | exact ⟨sm_I (by rw [hs3]; first | exact z2.symm | exact z3.symm | exact hSc.2.2.2.1.symm | exact hSc.2.2.2.2.1.symm), hC1, kp0 _, kq0 _⟩
    · refine Rj_tsI (t := 181) d_M_count_3 (by first | assumption | exact ⟨by omega, by omega⟩) (by omega) (by omega) (by rw [hs3]; rfl) (by decide) ?_
      refine Rj_aload_n (q := 182) d_M_count_181 rfl rfl rfl ?_
      refine Rj_gi (q := 185) (ki := 1) (v := ν 0 1) gM_M_99_0 rfl rfl rfl d_M_count_182 rfl ?_
      refine Rj_iret d_M_count_185 rfl ?_
      first | exact ⟨sm_I rfl, hC1, kp0 _, kq0 _⟩ | exact ⟨sm_I (by omega), hC1, kp0 _, kq0 _⟩ | exact ⟨sm_I (by rw [hs3]; first | exact z2.symm | exact z3.symm | exact hSc.2.2.2.1.symm | exact hSc.2.2.2.2.1.symm), hC1, kp0 _, kq0 _⟩
    · refine Rj_tsI (t := 186) d_M_count_3 (by first | assumption | exact ⟨by omega, by omega⟩) (by omega) (by omega) (by rw [hs3]; rfl) (by decide) ?_
      refine Rj_aload_n (q := 187) d_M_count_186 rfl rfl rfl ?_
      refine Rj_gr (q := 190) (zd := 11) gM_M_42_0 rfl rfl d_M_count_187 rfl ?_
      refine Rj_iload_n (q := 191) d_M_count_190 rfl rfl rfl ?_
      refine Rj_bipush (q := 193) d_M_count_191 rfl (by decide +kernel) ?_
      refine Rj_isub (q := 194) d_M_count_193 rfl ?_
      refine Rj_ia (q := 195) (v := ν 11 (a - 7)) aM_11 rfl (by omega) rfl d_M_count_194 rfl ?_
      refine Rj_iret d_M_count_195 rfl ?_
      first | exact ⟨sm_I rfl, hC1, kp0 _, kq0 _⟩ | exact ⟨sm_I (by omega), hC1, kp0 _, kq0 _⟩ | exact ⟨sm_I (by rw [hs3]; first | exact z2.symm | exact z3.symm | exact hSc.2.2.2.1.symm | exact hSc.2.2.2.2.1.symm), hC1, kp0 _, kq0 _⟩
    · refine Rj_tsI (t := 186) d_M_count_3 (by first | assumption | exact ⟨by omega, by omega⟩) (by omega) (by omega) (by rw [hs3]; rfl) (by decide) ?_
      refine Rj_aload_n (q := 187) d_M_count_186 rfl rfl rfl ?_
      refine Rj_gr (q := 190) (zd := 11) gM_M_42_0 rfl rfl d_M_count_187 rfl ?_
      refine Rj_iload_n (q := 191) d_M_count_190 rfl rfl rfl ?_
      refine Rj_bipush (q := 193) d_M_count_191 rfl (by decide +kernel) ?_
      refine Rj_isub (q := 194) d_M_count_193 rfl ?_
      refine Rj_ia (q := 195) (v := ν 11 (a - 7)) aM_11 rfl (by omega) rfl d_M_count_194 rfl ?_
      refine Rj_iret d_M_count_195 rfl ?_
      first | exact ⟨sm_I rfl, hC1, kp0 _, kq0 _⟩ | exact ⟨sm_I (by omega), hC1, kp0 _, kq0 _⟩ | exact ⟨sm_I (by rw [hs3]; first | exact z2.symm | exact z3.symm | exact hSc.2.2.2.1.symm | exact hSc.2.2.2.2.1.symm), hC1, kp0 _, kq0 _⟩
    · refine Rj_tsO (t := 196) d_M_count_3 (by first | assumption | exact ⟨by omega, by omega⟩) hs3 (by decide) ?_
      refine Rj_iconst (q := 197) d_M_count_196 rfl ?_
      refine Rj_iret d_M_count_197 rfl ?_
      first | exact ⟨sm_I rfl, hC1, kp0 _, kq0 _⟩ | exact ⟨sm_I (by omega), hC1, kp0 _, kq0 _⟩ | exact ⟨sm_I (by rw [hs3]; first | exact z2.symm | exact z3.symm | exact hSc.2.2.2.1.symm | exact hSc.2.2.2.2.1.symm), hC1, kp0 _, kq0 _⟩
  · refine Rj_tsI (t := 149) d_D_count_1 (by first | assumption | exact ⟨by omega, by omega⟩) (by omega) (by omega) (by rw [hs1]; rfl) (by decide) ?_
    refine Rj_aload_n (q := 150) d_D_count_149 rfl rfl rfl ?_
    refine Rj_gr (q := 153) (zd := 3) gD_D_25_0 rfl rfl d_D_count_150 rfl ?_
    refine Rj_gi (q := 156) (ki := 11) (v := μ 3 11) gD_D_226_3 rfl rfl rfl d_D_count_153 rfl ?_
    refine Rj_iret d_D_count_156 rfl ?_
    refine Rj_iconst (q := 1) d_M_count_0 rfl ?_
    refine Rj_istore_n (q := 2) (ls' := [vA 0, vI a, vI 0]) d_M_count_1 rfl rfl (by decide) rfl ?_
    refine Rj_iload_n (q := 3) d_M_count_2 rfl rfl rfl ?_
    rcases (show a = 0 ∨ a = 1 ∨ a = 2 ∨ a = 3 ∨ a = 4 ∨ a = 5 ∨ a = 6 ∨ a = 7 ∨ a = 8 ∨ a = 9 ∨ a = 10 ∨ a = 11 ∨ (a < 0 ∨ 11 < a) by omega) with hs3 | hs3 | hs3 | hs3 | hs3 | hs3 | hs3 | hs3 | hs3 | hs3 | hs3 | hs3 | hs3
    · refine Rj_tsI (t := 64) d_M_count_3 (by first | assumption | exact ⟨by omega, by omega⟩) (by omega) (by omega) (by rw [hs3]; rfl) (by decide) ?_
      refine Rj_aload_n (q := 65) d_M_count_64 rfl rfl rfl ?_
      refine Rj_gr (q := 68) (zd := 11) gM_M_42_0 rfl rfl d_M_count_65 rfl ?_
      refine Rj_iload_n (q := 69) d_M_count_68 rfl rfl rfl ?_
      refine Rj_ia (q := 70) (v := ν 11 a) aM_11 rfl (by omega) rfl d_M_count_69 rfl ?_
      refine Rj_iret d_M_count_70 rfl ?_
      first | exact ⟨sm_I rfl, hC1, kp0 _, kq0 _⟩ | exact ⟨sm_I (by omega), hC1, kp0 _, kq0 _⟩ | exact ⟨sm_I (by rw [hs3]; first | exact z2.symm | exact z3.symm | exact hSc.2.2.2.1.symm | exact hSc.2.2.2.2.1.symm), hC1, kp0 _, kq0 _⟩
    · refine Rj_tsI (t := 64) d_M_count_3 (by first | assumption | exact ⟨by omega, by omega⟩) (by omega) (by omega) (by rw [hs3]; rfl) (by decide) ?_
      refine Rj_aload_n (q := 65) d_M_count_64 rfl rfl rfl ?_
      refine Rj_gr (q := 68) (zd := 11) gM_M_42_0 rfl rfl d_M_count_65 rfl ?_
      refine Rj_iload_n (q := 69) d_M_count_68 rfl rfl rfl ?_
      refine Rj_ia (q := 70) (v := ν 11 a) aM_11 rfl (by omega) rfl d_M_count_69 rfl ?_
      refine Rj_iret d_M_count_70 rfl ?_
      first | exact ⟨sm_I rfl, hC1, kp0 _, kq0 _⟩ | exact ⟨sm_I (by omega), hC1, kp0 _, kq0 _⟩ | exact ⟨sm_I (by rw [hs3]; first | exact z2.symm | exact z3.symm | exact hSc.2.2.2.1.symm | exact hSc.2.2.2.2.1.symm), hC1, kp0 _, kq0 _⟩
    · refine Rj_tsI (t := 71) d_M_count_3 (by first | assumption | exact ⟨by omega, by omega⟩) (by omega) (by omega) (by rw [hs3]; rfl) (by decide) ?_
      refine Rj_aload_n (q := 72) d_M_count_71 rfl rfl rfl ?_
      refine Rj_gi (q := 75) (ki := 2) (v := ν 0 2) gM_M_273_0 rfl rfl rfl d_M_count_72 rfl ?_
      refine Rj_iret d_M_count_75 rfl ?_
      first | exact ⟨sm_I rfl, hC1, kp0 _, kq0 _⟩ | exact ⟨sm_I (by omega), hC1, kp0 _, kq0 _⟩ | exact ⟨sm_I (by rw [hs3]; first | exact z2.symm | exact z3.symm | exact hSc.2.2.2.1.symm | exact hSc.2.2.2.2.1.symm), hC1, kp0 _, kq0 _⟩
    · refine Rj_tsI (t := 76) d_M_count_3 (by first | assumption | exact ⟨by omega, by omega⟩) (by omega) (by omega) (by rw [hs3]; rfl) (by decide) ?_
      refine Rj_aload_n (q := 77) d_M_count_76 rfl rfl rfl ?_
      refine Rj_vo (q := 80) (z := y_M_openOnes) (as := []) (rest := []) (la := [vA 0]) oM_0_M_openOnes ml_M_452 mw_M_openOnes mv_M_openOnes rfl d_M_count_77 rfl rfl rfl rfl rfl ?_
      refine s_M_openOnes hM ?_
      refine Rj_iret d_M_count_80 rfl ?_
      first | exact ⟨sm_I rfl, hC1, kp0 _, kq0 _⟩ | exact ⟨sm_I (by omega), hC1, kp0 _, kq0 _⟩ | exact ⟨sm_I (by rw [hs3]; first | exact z2.symm | exact z3.symm | exact hSc.2.2.2.1.symm | exact hSc.2.2.2.2.1.symm), hC1, kp0 _, kq0 _⟩
    · refine Rj_tsI (t := 81) d_M_count_3 (by first | assumption | exact ⟨by omega, by omega⟩) (by omega) (by omega) (by rw [hs3]; rfl) (by decide) ?_
      refine Rj_iconst (q := 82) d_M_count_81 rfl ?_
      refine Rj_istore_n (q := 83) (ls' := [vA 0, vI a, vI 0, vI 0]) d_M_count_82 rfl rfl (by decide) rfl ?_
      first | (exfalso; omega; done) | exact s_M_count_83 _ (Nat.lt_succ_self _) hM (show 0 ≤ (0 : Int) ∧ (0 : Int) ≤ ν 11 0 by omega) ⟨by decide, fun k hk => by rw [zbit_0]; exact ⟨fun q => absurd q (by decide), fun q => by omega⟩⟩ (fun s rg bt => ⟨sm_I (zbit_ext (n := 12) rg z7 (fun k k0 k1 => (bt k k0).trans (h.2.2.2.1.2.1.2 k k0).symm)), hC1, kp0 _, kq0 _⟩)
    · refine Rj_tsI (t := 120) d_M_count_3 (by first | assumption | exact ⟨by omega, by omega⟩) (by omega) (by omega) (by rw [hs3]; rfl) (by decide) ?_
      refine Rj_iconst (q := 121) d_M_count_120 rfl ?_
      refine Rj_istore_n (q := 122) (ls' := [vA 0, vI a, vI 0, vI 0]) d_M_count_121 rfl rfl (by decide) rfl ?_
      first | (exfalso; omega; done) | exact s_M_count_122 _ (Nat.lt_succ_self _) hM (show 0 ≤ (0 : Int) ∧ (0 : Int) ≤ ν 11 0 by omega) rfl ⟨sm_I h.2.2.2.1.2.2.1.symm, hC1, kp0 _, kq0 _⟩
    · refine Rj_tsI (t := 158) d_M_count_3 (by first | assumption | exact ⟨by omega, by omega⟩) (by omega) (by omega) (by rw [hs3]; rfl) (by decide) ?_
      refine Rj_aload_n (q := 159) d_M_count_158 rfl rfl rfl ?_
      refine Rj_gr (q := 162) (zd := 11) gM_M_42_0 rfl rfl d_M_count_159 rfl ?_
      refine Rj_iconst (q := 163) d_M_count_162 rfl ?_
      refine Rj_ia (q := 164) (v := ν 11 5) aM_11 rfl (by decide) rfl d_M_count_163 rfl ?_
      refine Rj_iret d_M_count_164 rfl ?_
      first | exact ⟨sm_I rfl, hC1, kp0 _, kq0 _⟩ | exact ⟨sm_I (by omega), hC1, kp0 _, kq0 _⟩ | exact ⟨sm_I (by rw [hs3]; first | exact z2.symm | exact z3.symm | exact hSc.2.2.2.1.symm | exact hSc.2.2.2.2.1.symm), hC1, kp0 _, kq0 _⟩
    · refine Rj_tsI (t := 165) d_M_count_3 (by first | assumption | exact ⟨by omega, by omega⟩) (by omega) (by omega) (by rw [hs3]; rfl) (by decide) ?_
      refine Rj_aload_n (q := 166) d_M_count_165 rfl rfl rfl ?_
      refine Rj_gr (q := 169) (zd := 11) gM_M_42_0 rfl rfl d_M_count_166 rfl ?_
      refine Rj_bipush (q := 171) d_M_count_169 rfl (by decide +kernel) ?_
      refine Rj_ia (q := 172) (v := ν 11 6) aM_11 rfl (by decide) rfl d_M_count_171 rfl ?_
      refine Rj_iret d_M_count_172 rfl ?_
      first | exact ⟨sm_I rfl, hC1, kp0 _, kq0 _⟩ | exact ⟨sm_I (by omega), hC1, kp0 _, kq0 _⟩ | exact ⟨sm_I (by rw [hs3]; first | exact z2.symm | exact z3.symm | exact hSc.2.2.2.1.symm | exact hSc.2.2.2.2.1.symm), hC1, kp0 _, kq0 _⟩
    · refine Rj_tsI (t := 173) d_M_count_3 (by first | assumption | exact ⟨by omega, by omega⟩) (by omega) (by omega) (by rw [hs3]; rfl) (by decide) ?_
      refine Rj_aload_n (q := 174) d_M_count_173 rfl rfl rfl ?_
      refine Rj_gr (q := 177) (zd := 11) gM_M_42_0 rfl rfl d_M_count_174 rfl ?_
      refine Rj_bipush (q := 179) d_M_count_177 rfl (by decide +kernel) ?_
      refine Rj_ia (q := 180) (v := ν 11 8) aM_11 rfl (by decide) rfl d_M_count_179 rfl ?_
      refine Rj_iret d_M_count_180 rfl ?_
      first | exact ⟨sm_I rfl, hC1, kp0 _, kq0 _⟩ | exact ⟨sm_I (by omega), hC1, kp0 _, kq0 _⟩ | exact ⟨sm_I (by rw [hs3]; first | exact z2.symm | exact z3.symm | exact hSc.2.2.2.1.symm | exact hSc.2.2.2.2.1.symm), hC1, kp0 _, kq0 _⟩
    · refine Rj_tsI (t := 181) d_M_count_3 (by first | assumption | exact ⟨by omega, by omega⟩) (by omega) (by omega) (by rw [hs3]; rfl) (by decide) ?_
      refine Rj_aload_n (q := 182) d_M_count_181 rfl rfl rfl ?_
      refine Rj_gi (q := 185) (ki := 1) (v := ν 0 1) gM_M_99_0 rfl rfl rfl d_M_count_182 rfl ?_
      refine Rj_iret d_M_count_185 rfl ?_
      first | exact ⟨sm_I rfl, hC1, kp0 _, kq0 _⟩ | exact ⟨sm_I (by omega), hC1, kp0 _, kq0 _⟩ | exact ⟨sm_I (by rw [hs3]; first | exact z2.symm | exact z3.symm | exact hSc.2.2.2.1.symm | exact hSc.2.2.2.2.1.symm), hC1, kp0 _, kq0 _⟩
    · refine Rj_tsI (t := 186) d_M_count_3 (by first | assumption | exact ⟨by omega, by omega⟩) (by omega) (by omega) (by rw [hs3]; rfl) (by decide) ?_
      refine Rj_aload_n (q := 187) d_M_count_186 rfl rfl rfl ?_
      refine Rj_gr (q := 190) (zd := 11) gM_M_42_0 rfl rfl d_M_count_187 rfl ?_
      refine Rj_iload_n (q := 191) d_M_count_190 rfl rfl rfl ?_
      refine Rj_bipush (q := 193) d_M_count_191 rfl (by decide +kernel) ?_
      refine Rj_isub (q := 194) d_M_count_193 rfl ?_
      refine Rj_ia (q := 195) (v := ν 11 (a - 7)) aM_11 rfl (by omega) rfl d_M_count_194 rfl ?_
      refine Rj_iret d_M_count_195 rfl ?_
      first | exact ⟨sm_I rfl, hC1, kp0 _, kq0 _⟩ | exact ⟨sm_I (by omega), hC1, kp0 _, kq0 _⟩ | exact ⟨sm_I (by rw [hs3]; first | exact z2.symm | exact z3.symm | exact hSc.2.2.2.1.symm | exact hSc.2.2.2.2.1.symm), hC1, kp0 _, kq0 _⟩
    · refine Rj_tsI (t := 186) d_M_count_3 (by first | assumption | exact ⟨by omega, by omega⟩) (by omega) (by omega) (by rw [hs3]; rfl) (by decide) ?_
      refine Rj_aload_n (q := 187) d_M_count_186 rfl rfl rfl ?_
      refine Rj_gr (q := 190) (zd := 11) gM_M_42_0 rfl rfl d_M_count_187 rfl ?_
      refine Rj_iload_n (q := 191) d_M_count_190 rfl rfl rfl ?_
      refine Rj_bipush (q := 193) d_M_count_191 rfl (by decide +kernel) ?_
      refine Rj_isub (q := 194) d_M_count_193 rfl ?_
      refine Rj_ia (q := 195) (v := ν 11 (a - 7)) aM_11 rfl (by omega) rfl d_M_count_194 rfl ?_
      refine Rj_iret d_M_count_195 rfl ?_
      first | exact ⟨sm_I rfl, hC1, kp0 _, kq0 _⟩ | exact ⟨sm_I (by omega), hC1, kp0 _, kq0 _⟩ | exact ⟨sm_I (by rw [hs3]; first | exact z2.symm | exact z3.symm | exact hSc.2.2.2.1.symm | exact hSc.2.2.2.2.1.symm), hC1, kp0 _, kq0 _⟩
    · refine Rj_tsO (t := 196) d_M_count_3 (by first | assumption | exact ⟨by omega, by omega⟩) hs3 (by decide) ?_
      refine Rj_iconst (q := 197) d_M_count_196 rfl ?_
      refine Rj_iret d_M_count_197 rfl ?_
      first | exact ⟨sm_I rfl, hC1, kp0 _, kq0 _⟩ | exact ⟨sm_I (by omega), hC1, kp0 _, kq0 _⟩ | exact ⟨sm_I (by rw [hs3]; first | exact z2.symm | exact z3.symm | exact hSc.2.2.2.1.symm | exact hSc.2.2.2.2.1.symm), hC1, kp0 _, kq0 _⟩
  · refine Rj_tsO (t := 157) d_D_count_1 (by first | assumption | exact ⟨by omega, by omega⟩) hs1 (by decide) ?_
    refine Rj_iconst (q := 158) d_D_count_157 rfl ?_
    refine Rj_iret d_D_count_158 rfl ?_
    refine Rj_iconst (q := 1) d_M_count_0 rfl ?_
    refine Rj_istore_n (q := 2) (ls' := [vA 0, vI a, vI 0]) d_M_count_1 rfl rfl (by decide) rfl ?_
    refine Rj_iload_n (q := 3) d_M_count_2 rfl rfl rfl ?_
    rcases (show a = 0 ∨ a = 1 ∨ a = 2 ∨ a = 3 ∨ a = 4 ∨ a = 5 ∨ a = 6 ∨ a = 7 ∨ a = 8 ∨ a = 9 ∨ a = 10 ∨ a = 11 ∨ (a < 0 ∨ 11 < a) by omega) with hs3 | hs3 | hs3 | hs3 | hs3 | hs3 | hs3 | hs3 | hs3 | hs3 | hs3 | hs3 | hs3
    · refine Rj_tsI (t := 64) d_M_count_3 (by first | assumption | exact ⟨by omega, by omega⟩) (by omega) (by omega) (by rw [hs3]; rfl) (by decide) ?_
      refine Rj_aload_n (q := 65) d_M_count_64 rfl rfl rfl ?_
      refine Rj_gr (q := 68) (zd := 11) gM_M_42_0 rfl rfl d_M_count_65 rfl ?_
      refine Rj_iload_n (q := 69) d_M_count_68 rfl rfl rfl ?_
      refine Rj_ia (q := 70) (v := ν 11 a) aM_11 rfl (by omega) rfl d_M_count_69 rfl ?_
      refine Rj_iret d_M_count_70 rfl ?_
      first | exact ⟨sm_I rfl, hC1, kp0 _, kq0 _⟩ | exact ⟨sm_I (by omega), hC1, kp0 _, kq0 _⟩ | exact ⟨sm_I (by rw [hs3]; first | exact z2.symm | exact z3.symm | exact hSc.2.2.2.1.symm | exact hSc.2.2.2.2.1.symm), hC1, kp0 _, kq0 _⟩
    · refine Rj_tsI (t := 64) d_M_count_3 (by first | assumption | exact ⟨by omega, by omega⟩) (by omega) (by omega) (by rw [hs3]; rfl) (by decide) ?_
      refine Rj_aload_n (q := 65) d_M_count_64 rfl rfl rfl ?_
      refine Rj_gr (q := 68) (zd := 11) gM_M_42_0 rfl rfl d_M_count_65 rfl ?_
      refine Rj_iload_n (q := 69) d_M_count_68 rfl rfl rfl ?_
      refine Rj_ia (q := 70) (v := ν 11 a) aM_11 rfl (by omega) rfl d_M_count_69 rfl ?_
      refine Rj_iret d_M_count_70 rfl ?_
      first | exact ⟨sm_I rfl, hC1, kp0 _, kq0 _⟩ | exact ⟨sm_I (by omega), hC1, kp0 _, kq0 _⟩ | exact ⟨sm_I (by rw [hs3]; first | exact z2.symm | exact z3.symm | exact hSc.2.2.2.1.symm | exact hSc.2.2.2.2.1.symm), hC1, kp0 _, kq0 _⟩
    · refine Rj_tsI (t := 71) d_M_count_3 (by first | assumption | exact ⟨by omega, by omega⟩) (by omega) (by omega) (by rw [hs3]; rfl) (by decide) ?_
      refine Rj_aload_n (q := 72) d_M_count_71 rfl rfl rfl ?_
      refine Rj_gi (q := 75) (ki := 2) (v := ν 0 2) gM_M_273_0 rfl rfl rfl d_M_count_72 rfl ?_
      refine Rj_iret d_M_count_75 rfl ?_
      first | exact ⟨sm_I rfl, hC1, kp0 _, kq0 _⟩ | exact ⟨sm_I (by omega), hC1, kp0 _, kq0 _⟩ | exact ⟨sm_I (by rw [hs3]; first | exact z2.symm | exact z3.symm | exact hSc.2.2.2.1.symm | exact hSc.2.2.2.2.1.symm), hC1, kp0 _, kq0 _⟩
    · refine Rj_tsI (t := 76) d_M_count_3 (by first | assumption | exact ⟨by omega, by omega⟩) (by omega) (by omega) (by rw [hs3]; rfl) (by decide) ?_
      refine Rj_aload_n (q := 77) d_M_count_76 rfl rfl rfl ?_
      refine Rj_vo (q := 80) (z := y_M_openOnes) (as := []) (rest := []) (la := [vA 0]) oM_0_M_openOnes ml_M_452 mw_M_openOnes mv_M_openOnes rfl d_M_count_77 rfl rfl rfl rfl rfl ?_
      refine s_M_openOnes hM ?_
      refine Rj_iret d_M_count_80 rfl ?_
      first | exact ⟨sm_I rfl, hC1, kp0 _, kq0 _⟩ | exact ⟨sm_I (by omega), hC1, kp0 _, kq0 _⟩ | exact ⟨sm_I (by rw [hs3]; first | exact z2.symm | exact z3.symm | exact hSc.2.2.2.1.symm | exact hSc.2.2.2.2.1.symm), hC1, kp0 _, kq0 _⟩
    · refine Rj_tsI (t := 81) d_M_count_3 (by first | assumption | exact ⟨by omega, by omega⟩) (by omega) (by omega) (by rw [hs3]; rfl) (by decide) ?_
      refine Rj_iconst (q := 82) d_M_count_81 rfl ?_
      refine Rj_istore_n (q := 83) (ls' := [vA 0, vI a, vI 0, vI 0]) d_M_count_82 rfl rfl (by decide) rfl ?_
      first | (exfalso; omega; done) | exact s_M_count_83 _ (Nat.lt_succ_self _) hM (show 0 ≤ (0 : Int) ∧ (0 : Int) ≤ ν 11 0 by omega) ⟨by decide, fun k hk => by rw [zbit_0]; exact ⟨fun q => absurd q (by decide), fun q => by omega⟩⟩ (fun s rg bt => ⟨sm_I (zbit_ext (n := 12) rg z7 (fun k k0 k1 => (bt k k0).trans (h.2.2.2.1.2.1.2 k k0).symm)), hC1, kp0 _, kq0 _⟩)
    · refine Rj_tsI (t := 120) d_M_count_3 (by first | assumption | exact ⟨by omega, by omega⟩) (by omega) (by omega) (by rw [hs3]; rfl) (by decide) ?_
      refine Rj_iconst (q := 121) d_M_count_120 rfl ?_
      refine Rj_istore_n (q := 122) (ls' := [vA 0, vI a, vI 0, vI 0]) d_M_count_121 rfl rfl (by decide) rfl ?_
      first | (exfalso; omega; done) | exact s_M_count_122 _ (Nat.lt_succ_self _) hM (show 0 ≤ (0 : Int) ∧ (0 : Int) ≤ ν 11 0 by omega) rfl ⟨sm_I h.2.2.2.1.2.2.1.symm, hC1, kp0 _, kq0 _⟩
    · refine Rj_tsI (t := 158) d_M_count_3 (by first | assumption | exact ⟨by omega, by omega⟩) (by omega) (by omega) (by rw [hs3]; rfl) (by decide) ?_
      refine Rj_aload_n (q := 159) d_M_count_158 rfl rfl rfl ?_
      refine Rj_gr (q := 162) (zd := 11) gM_M_42_0 rfl rfl d_M_count_159 rfl ?_
      refine Rj_iconst (q := 163) d_M_count_162 rfl ?_
      refine Rj_ia (q := 164) (v := ν 11 5) aM_11 rfl (by decide) rfl d_M_count_163 rfl ?_
      refine Rj_iret d_M_count_164 rfl ?_
      first | exact ⟨sm_I rfl, hC1, kp0 _, kq0 _⟩ | exact ⟨sm_I (by omega), hC1, kp0 _, kq0 _⟩ | exact ⟨sm_I (by rw [hs3]; first | exact z2.symm | exact z3.symm | exact hSc.2.2.2.1.symm | exact hSc.2.2.2.2.1.symm), hC1, kp0 _, kq0 _⟩
    · refine Rj_tsI (t := 165) d_M_count_3 (by first | assumption | exact ⟨by omega, by omega⟩) (by omega) (by omega) (by rw [hs3]; rfl) (by decide) ?_
      refine Rj_aload_n (q := 166) d_M_count_165 rfl rfl rfl ?_
      refine Rj_gr (q := 169) (zd := 11) gM_M_42_0 rfl rfl d_M_count_166 rfl ?_
      refine Rj_bipush (q := 171) d_M_count_169 rfl (by decide +kernel) ?_
      refine Rj_ia (q := 172) (v := ν 11 6) aM_11 rfl (by decide) rfl d_M_count_171 rfl ?_
      refine Rj_iret d_M_count_172 rfl ?_
      first | exact ⟨sm_I rfl, hC1, kp0 _, kq0 _⟩ | exact ⟨sm_I (by omega), hC1, kp0 _, kq0 _⟩ | exact ⟨sm_I (by rw [hs3]; first | exact z2.symm | exact z3.symm | exact hSc.2.2.2.1.symm | exact hSc.2.2.2.2.1.symm), hC1, kp0 _, kq0 _⟩
    · refine Rj_tsI (t := 173) d_M_count_3 (by first | assumption | exact ⟨by omega, by omega⟩) (by omega) (by omega) (by rw [hs3]; rfl) (by decide) ?_
      refine Rj_aload_n (q := 174) d_M_count_173 rfl rfl rfl ?_
      refine Rj_gr (q := 177) (zd := 11) gM_M_42_0 rfl rfl d_M_count_174 rfl ?_
      refine Rj_bipush (q := 179) d_M_count_177 rfl (by decide +kernel) ?_
      refine Rj_ia (q := 180) (v := ν 11 8) aM_11 rfl (by decide) rfl d_M_count_179 rfl ?_
      refine Rj_iret d_M_count_180 rfl ?_
      first | exact ⟨sm_I rfl, hC1, kp0 _, kq0 _⟩ | exact ⟨sm_I (by omega), hC1, kp0 _, kq0 _⟩ | exact ⟨sm_I (by rw [hs3]; first | exact z2.symm | exact z3.symm | exact hSc.2.2.2.1.symm | exact hSc.2.2.2.2.1.symm), hC1, kp0 _, kq0 _⟩
    · refine Rj_tsI (t := 181) d_M_count_3 (by first | assumption | exact ⟨by omega, by omega⟩) (by omega) (by omega) (by rw [hs3]; rfl) (by decide) ?_
      refine Rj_aload_n (q := 182) d_M_count_181 rfl rfl rfl ?_
      refine Rj_gi (q := 185) (ki := 1) (v := ν 0 1) gM_M_99_0 rfl rfl rfl d_M_count_182 rfl ?_
      refine Rj_iret d_M_count_185 rfl ?_
      first | exact ⟨sm_I rfl, hC1, kp0 _, kq0 _⟩ | exact ⟨sm_I (by omega), hC1, kp0 _, kq0 _⟩ | exact ⟨sm_I (by rw [hs3]; first | exact z2.symm | exact z3.symm | exact hSc.2.2.2.1.symm | exact hSc.2.2.2.2.1.symm), hC1, kp0 _, kq0 _⟩
    · refine Rj_tsI (t := 186) d_M_count_3 (by first | assumption | exact ⟨by omega, by omega⟩) (by omega) (by omega) (by rw [hs3]; rfl) (by decide) ?_
      refine Rj_aload_n (q := 187) d_M_count_186 rfl rfl rfl ?_
      refine Rj_gr (q := 190) (zd := 11) gM_M_42_0 rfl rfl d_M_count_187 rfl ?_
      refine Rj_iload_n (q := 191) d_M_count_190 rfl rfl rfl ?_
      refine Rj_bipush (q := 193) d_M_count_191 rfl (by decide +kernel) ?_
      refine Rj_isub (q := 194) d_M_count_193 rfl ?_
      refine Rj_ia (q := 195) (v := ν 11 (a - 7)) aM_11 rfl (by omega) rfl d_M_count_194 rfl ?_
      refine Rj_iret d_M_count_195 rfl ?_
      first | exact ⟨sm_I rfl, hC1, kp0 _, kq0 _⟩ | exact ⟨sm_I (by omega), hC1, kp0 _, kq0 _⟩ | exact ⟨sm_I (by rw [hs3]; first | exact z2.symm | exact z3.symm | exact hSc.2.2.2.1.symm | exact hSc.2.2.2.2.1.symm), hC1, kp0 _, kq0 _⟩
    · refine Rj_tsI (t := 186) d_M_count_3 (by first | assumption | exact ⟨by omega, by omega⟩) (by omega) (by omega) (by rw [hs3]; rfl) (by decide) ?_
      refine Rj_aload_n (q := 187) d_M_count_186 rfl rfl rfl ?_
      refine Rj_gr (q := 190) (zd := 11) gM_M_42_0 rfl rfl d_M_count_187 rfl ?_
      refine Rj_iload_n (q := 191) d_M_count_190 rfl rfl rfl ?_
      refine Rj_bipush (q := 193) d_M_count_191 rfl (by decide +kernel) ?_
      refine Rj_isub (q := 194) d_M_count_193 rfl ?_
      refine Rj_ia (q := 195) (v := ν 11 (a - 7)) aM_11 rfl (by omega) rfl d_M_count_194 rfl ?_
      refine Rj_iret d_M_count_195 rfl ?_
      first | exact ⟨sm_I rfl, hC1, kp0 _, kq0 _⟩ | exact ⟨sm_I (by omega), hC1, kp0 _, kq0 _⟩ | exact ⟨sm_I (by rw [hs3]; first | exact z2.symm | exact z3.symm | exact hSc.2.2.2.1.symm | exact hSc.2.2.2.2.1.symm), hC1, kp0 _, kq0 _⟩
    · refine Rj_tsO (t := 196) d_M_count_3 (by first | assumption | exact ⟨by omega, by omega⟩) hs3 (by decide) ?_
      refine Rj_iconst (q := 197) d_M_count_196 rfl ?_
      refine Rj_iret d_M_count_197 rfl ?_
      first | exact ⟨sm_I rfl, hC1, kp0 _, kq0 _⟩ | exact ⟨sm_I (by omega), hC1, kp0 _, kq0 _⟩ | exact ⟨sm_I (by rw [hs3]; first | exact z2.symm | exact z3.symm | exact hSc.2.2.2.1.symm | exact hSc.2.2.2.2.1.symm), hC1, kp0 _, kq0 _⟩
