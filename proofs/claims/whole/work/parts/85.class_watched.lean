theorem gD_Pl_37_3 : GI YD "DoorsOnCogs$Planner" 37 3 0 none := ⟨by decide, _, _, _, fl_Pl_37, cD_3, by decide, rfl⟩
theorem gD_Pl_78_74 : GI YD "DoorsOnCogs$Planner" 78 74 13 none := ⟨by decide, _, _, _, fl_Pl_78, cD_74, by decide, rfl⟩
theorem oD_74_Pl_isOpenBehind : OI YD 74 y_Pl_isOpenBehind := ⟨by decide, _, _, _, cD_74, rfl⟩
/-! the class: is a watched door open behind a turn -/
def WO (S pl V : Int → Int) (wa : Int) : Prop := ∃ x, 0 ≤ x ∧ x < S 0 ∧ zbit wa x = 1 ∧ opn S (pts S) x (pl x + V x) = true
/-- the turn t of the set of l changes each door's place by V -/
def BHD (μ : Mem) (S lo : Int → Int) (l t : Int) (V : Int → Int) : Prop := ∀ x, 0 ≤ x → x < S 0 → lo x = l → ∃ w : Int, t * μ 64 (l * 12 + x) = w * μ 63 l ∧ (-30000000000 ≤ w ∧ w ≤ 30000000000) ∧ w * pts S = V x * μ 63 x
set_option maxHeartbeats 4000000 in
theorem s_isWatchedOpen_5 : ∀ (f : Nat) {μ : Mem} {Q : PV → Mem → Prop} {S lo up dn lk pl V : Int → Int} {l t wa d : Int}, ((S 0 - d).toNat < f) → (GX μ S lo up dn lk pl) → (0 ≤ l ∧ l < S 0) → (μ 74 9 = l) → (μ 74 13 = wa) → (0 ≤ wa ∧ wa < 4096) → (∀ x, 0 ≤ x → x < S 0 → zbit wa x = 1 → lo x = l ∧ l ≤ x) → (BHD μ S lo l t V) → (0 ≤ d ∧ d ≤ S 0) → (∀ x, 0 ≤ x → x < d → zbit wa x = 1 → opn S (pts S) x (pl x + V x) = false) → ((WO S pl V wa) → Q (vI 1) μ) → (¬ (WO S pl V wa) → Q (vI 0) μ) → Rj YD y_Pl_isWatchedOpen 5 [vA 74, vL t, vU, vI d] [] μ Q := by
  intro f
  induction f with
  | zero => intro μ Q S lo up dn lk pl V l t wa d hfu h hl hf ha hw hwa hB hd hp h1 h0; exact absurd hf (by omega)
  | succ f ih =>
    intro μ Q S lo up dn lk pl V l t wa d hfu h hl hf ha hw hwa hB hd hp h1 h0
    obtain ⟨z0, z1, z2, z3, z4, z5, z6, z7⟩ := h.z
    have zb := zbit_01 wa d
    refine Rj_iload_n (q := 6) d_Pl_isWatchedOpen_5 rfl rfl rfl ?_
    refine Rj_aload_n (q := 7) d_Pl_isWatchedOpen_6 rfl rfl rfl ?_
    refine Rj_gr (q := 10) (zd := 3) gD_Pl_25_74 rfl rfl d_Pl_isWatchedOpen_7 rfl ?_
    refine Rj_gi (q := 13) (ki := 0) (v := μ 3 0) gD_Pl_37_3 rfl rfl rfl d_Pl_isWatchedOpen_10 rfl ?_
    refine Rj_icmp_ge (q := 16) (t := 45) d_Pl_isWatchedOpen_13 rfl (by decide) ⟨by omega, by omega⟩ ⟨by omega, by omega⟩ (fun c13 => ?_) (fun c13 => ?_)
    · refine Rj_iconst (q := 46) d_Pl_isWatchedOpen_45 rfl ?_
      refine Rj_bret0 d_Pl_isWatchedOpen_46 rfl ?_
      exact h0 (fun ⟨x, x0, x1, x2, x3⟩ => by rw [hp x x0 (by omega) x2] at x3; exact absurd x3 (by decide))
    · refine Rj_aload_n (q := 17) d_Pl_isWatchedOpen_16 rfl rfl rfl ?_
      refine Rj_gi (q := 20) (ki := 13) (v := wa) gD_Pl_78_74 rfl rfl ha d_Pl_isWatchedOpen_17 rfl ?_
      refine Rj_iload_n (q := 21) d_Pl_isWatchedOpen_20 rfl rfl rfl ?_
      refine Rj_cs (q := 24) (z := y_D_bitOf) (as := [vI wa, vI d]) (rest := []) (la := [vI wa, vI d]) ml_Pl_84 mw_D_bitOf ms_D_bitOf d_Pl_isWatchedOpen_21 rfl rfl rfl rfl rfl ?_
      refine s_D_bitOf (by omega) (by omega) ?_
      refine Rj_iconst (q := 25) d_Pl_isWatchedOpen_24 rfl ?_
      refine Rj_icmp_ne (q := 28) (t := 39) d_Pl_isWatchedOpen_25 rfl (by decide) ⟨by omega, by omega⟩ (by decide) (fun c25 => ?_) (fun c25 => ?_)
      · refine Rj_iinc (q := 42) (ls' := [vA 74, vL t, vU, vI (d + 1)]) d_Pl_isWatchedOpen_39 rfl rfl (by decide) rfl ?_
        refine Rj_goto (t := 5) d_Pl_isWatchedOpen_42 (by decide) ?_
        refine ih (by omega) h hl hf ha hw hwa hB (by omega) (fun x x0 x1 x2 => ?_) h1 h0
        by_cases e : x = d
        · subst e
          first
            | exact absurd x2 c25
            | exact c34
        · exact hp x x0 (by omega) x2
      · refine Rj_aload_n (q := 29) d_Pl_isWatchedOpen_28 rfl rfl rfl ?_
        refine Rj_iload_n (q := 30) d_Pl_isWatchedOpen_29 rfl rfl rfl ?_
        refine Rj_lload_n (q := 31) d_Pl_isWatchedOpen_30 rfl rfl rfl ?_
        refine Rj_vo (q := 34) (z := y_Pl_isOpenBehind) (as := [vI d, vL t]) (rest := []) (la := [vA 74, vI d, vL t, vU]) oD_74_Pl_isOpenBehind ml_Pl_165 mw_Pl_isOpenBehind mv_Pl_isOpenBehind rfl d_Pl_isWatchedOpen_31 rfl rfl rfl rfl rfl ?_
        obtain ⟨w, w1, w2, w3⟩ := hB d (by omega) (by omega) (hwa d (by omega) (by omega) c25).1
        refine s_isOpenBehind h hl hf (by omega) w1 w2 w3 ?_
        refine Rj_b_eq (q := 37) (t := 39) d_Pl_isWatchedOpen_34 rfl (by decide) (fun c34 => ?_) (fun c34 => ?_)
        · refine Rj_iinc (q := 42) (ls' := [vA 74, vL t, vU, vI (d + 1)]) d_Pl_isWatchedOpen_39 rfl rfl (by decide) rfl ?_
          refine Rj_goto (t := 5) d_Pl_isWatchedOpen_42 (by decide) ?_
          refine ih (by omega) h hl hf ha hw hwa hB (by omega) (fun x x0 x1 x2 => ?_) h1 h0
          by_cases e : x = d
          · subst e
            first
              | exact absurd x2 c25
              | exact c34
          · exact hp x x0 (by omega) x2
        · refine Rj_iconst (q := 38) d_Pl_isWatchedOpen_37 rfl ?_
          refine Rj_bret1 d_Pl_isWatchedOpen_38 rfl ?_
          exact h1 ⟨d, by omega, by omega, c25, c34⟩
