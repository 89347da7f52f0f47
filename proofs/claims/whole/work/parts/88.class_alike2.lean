/-! the class: is a door as quick as an earlier pusher -/
set_option maxHeartbeats 4000000 in
theorem s_isPushedAlike {μ : Mem} {Q : PV → Mem → Prop} {l pu e : Int} (hl : 0 ≤ l ∧ l < 12) (hf : μ 74 9 = l) (hpu : μ 74 12 = pu) (hpr : 0 ≤ pu ∧ pu < 4096) (hst : ∀ p, 0 ≤ p → p ≤ e → -216000 ≤ μ 64 (p * 12 + l) ∧ μ 64 (p * 12 + l) ≤ 216000) (he : 0 ≤ e ∧ e < 12) (h1 : PAL μ l pu e → Q (vI 1) μ) (h0 : ¬ PAL μ l pu e → Q (vI 0) μ) : Rj YD y_Pl_isPushedAlike 0 [vA 74, vI e] [] μ Q := by
  have s1 := hst e he.1 (by omega)
  refine Rj_aload_n (q := 1) d_Pl_isPushedAlike_0 rfl rfl rfl ?_
  refine Rj_gr (q := 4) (zd := 59) gD_Pl_29_74 rfl rfl d_Pl_isPushedAlike_1 rfl ?_
  refine Rj_iload_n (q := 5) d_Pl_isPushedAlike_4 rfl rfl rfl ?_
  refine Rj_aload_n (q := 6) d_Pl_isPushedAlike_5 rfl rfl rfl ?_
  refine Rj_gi (q := 9) (ki := 9) (v := l) gD_Pl_67_74 rfl rfl hf d_Pl_isPushedAlike_6 rfl ?_
  refine Rj_vo (q := 12) (z := y_Ge_stepOf) (as := [vI e, vI l]) (rest := []) (la := [vA 59, vI e, vI l]) oD_59_Ge_stepOf ml_Pl_101 mw_Ge_stepOf mv_Ge_stepOf rfl d_Pl_isPushedAlike_9 rfl rfl rfl rfl rfl ?_
  refine Rj_aload_n (q := 1) d_Ge_stepOf_0 rfl rfl rfl ?_
  refine Rj_gr (q := 4) (zd := 64) gD_Ge_25_59 rfl rfl d_Ge_stepOf_1 rfl ?_
  refine Rj_iload_n (q := 5) d_Ge_stepOf_4 rfl rfl rfl ?_
  refine Rj_bipush (q := 7) d_Ge_stepOf_5 rfl (by decide +kernel) ?_
  refine Rj_imul (q := 8) d_Ge_stepOf_7 rfl ?_
  refine Rj_iload_n (q := 9) d_Ge_stepOf_8 rfl rfl rfl ?_
  refine Rj_iadd (q := 10) d_Ge_stepOf_9 rfl ?_
  refine Rj_la (q := 11) (v := μ 64 ((e * 12) + l)) aD_64 rfl (by omega) rfl d_Ge_stepOf_10 rfl ?_
  refine Rj_lret d_Ge_stepOf_11 rfl ?_
  refine Rj_cs (q := 15) (z := y_Jmath_abs) (as := [vL (μ 64 ((e * 12) + l))]) (rest := []) (la := [vL (μ 64 ((e * 12) + l)), vU]) ml_Pl_105 mw_Jmath_abs ms_Jmath_abs d_Pl_isPushedAlike_12 rfl rfl rfl rfl rfl ?_
  refine s_J_abs (by omega) ?_
  refine Rj_lstore_n (q := 16) (ls' := [vA 74, vI e, vL (((μ 64 ((e * 12) + l)).natAbs : Int)), vU]) d_Pl_isPushedAlike_15 rfl rfl (by decide) rfl ?_
  refine Rj_iconst (q := 17) d_Pl_isPushedAlike_16 rfl ?_
  refine Rj_istore (q := 19) (ls' := [vA 74, vI e, vL (((μ 64 ((e * 12) + l)).natAbs : Int)), vU, vI 0]) d_Pl_isPushedAlike_17 rfl (by decide) rfl ?_
  exact s_isPushedAlike_19 _ (Nat.lt_succ_self _) hl hf hpu hpr hst he (by omega) (fun x x0 x1 => by omega) h1 h0
