/-! plans from the start -/
theorem pln_pnd {D : Int} {ac : Int → Bool} {res dp : Int → Int} (hr : ∀ d, res d = -2 ∨ res d = -3 ∨ 0 ≤ res d) : ∀ (f : Nat) (d b u : Int), 0 ≤ pln D ac res dp f d b u → pln D ac res dp f d b u = pnd D ac res dp f d b
  | 0, d, b, u, h => by
    unfold pln at h ⊢
    by_cases c : u = 1
    · rw [if_pos c] at h; omega
    · rw [if_neg c]; rfl
  | f + 1, d, b, u, h => by
    by_cases c1 : d < D
    · have e : pln D ac res dp (f + 1) d b u = (if ac d = true then (if res d = -2 then -2 else if res d = -3 then pln D ac res dp f (d + 1) b 1 else pln D ac res dp f (d + 1) (b + dp d) u) else pln D ac res dp f (d + 1) b u) := by
        show (if _ then _ else _) = _
        rw [if_pos c1]
      by_cases c2 : ac d = true
      · rw [if_pos c2] at e
        by_cases c3 : res d = -2
        · rw [if_pos c3] at e; omega
        · rw [if_neg c3] at e
          by_cases c4 : res d = -3
          · rw [if_pos c4] at e
            rw [e] at h ⊢
            rw [pnd_skip c1 (fun q => by have := q.2; omega)]
            exact pln_pnd hr f (d + 1) b 1 h
          · rw [if_neg c4] at e
            rw [e] at h ⊢
            have r := hr d
            rw [pnd_go c1 ⟨c2, by omega⟩]
            exact pln_pnd hr f (d + 1) (b + dp d) u h
      · rw [if_neg c2] at e
        rw [e] at h ⊢
        rw [pnd_skip c1 (fun q => c2 q.1)]
        exact pln_pnd hr f (d + 1) b u h
    · rw [pln_out c1] at h ⊢
      rw [pnd_out c1]
      by_cases c : u = 1
      · rw [if_pos c] at h; omega
      · rw [if_neg c]
set_option maxHeartbeats 4000000 in
theorem s_M_plans {μ : Mem} {Q : PV → Mem → Prop} {S lo up dn pl lk : Int → Int} {tc wt : Int} (h : MX μ) (E : EQM μ S lo up dn pl) (ek : μ 17 = lk) (hw : 0 ≤ wt ∧ wt ≤ 2147483647) (hw3 : 0 ≤ S 3 ∧ S 3 ≤ 2147483647) (hw4 : 0 ≤ S 4 ∧ S 4 ≤ 2147483647) (htc : 0 ≤ tc ∧ tc ≤ 2147483647) (hQ : ∀ μ', Fr Wpl μ μ' → (∀ i, 0 ≤ i → i < pln (S 0) (acP S lo up dn pl) (resP S lo up dn pl lk tc wt) (dpP S lo up dn pl tc wt) 13 0 0 0 → μ' 22 i = prw (S 0) (acP S lo up dn pl) (resP S lo up dn pl lk tc wt) (dpP S lo up dn pl tc wt) (ktP S lo up dn pl tc wt) 13 0 0 i) → Q (vI (pln (S 0) (acP S lo up dn pl) (resP S lo up dn pl lk tc wt) (dpP S lo up dn pl tc wt) 13 0 0 0)) μ') : Rj YM y_M_plans 0 [vA 0, vI tc, vI wt] [] μ Q := by
  obtain ⟨e11, e14, e15, e16, e12⟩ := id E
  obtain ⟨z0, z1, z6, z5⟩ := h.z
  rw [e11] at z0
  refine Rj_aload_n (q := 1) d_M_plans_0 rfl rfl rfl ?_
  refine Rj_iconst (q := 2) d_M_plans_1 rfl ?_
  refine Rj_pi (q := 5) (ki := 39) pM_M_420_0 rfl rfl d_M_plans_2 rfl ?_
  refine Rj_iconst (q := 6) d_M_plans_5 rfl ?_
  refine Rj_istore_n (q := 7) (ls' := [vA 0, vI tc, vI wt, vI 0]) d_M_plans_6 rfl rfl (by decide) rfl ?_
  refine Rj_iconst (q := 8) d_M_plans_7 rfl ?_
  refine Rj_istore (q := 10) (ls' := [vA 0, vI tc, vI wt, vI 0, vI 0]) d_M_plans_8 rfl (by decide) rfl ?_
  refine Rj_iconst (q := 11) d_M_plans_10 rfl ?_
  refine Rj_istore (q := 13) (ls' := [vA 0, vI tc, vI wt, vI 0, vI 0, vI 0]) d_M_plans_11 rfl (by decide) rfl ?_
  have fp : Fr Wpl μ (mset μ 0 39 0) := Fr.put (Fr.refl _ _) (by unfold Wpl; omega)
  refine s_M_pl_13 (μ := mset μ 0 39 0) 13 (by omega) (h.pl9 fp) (E.pl9 fp) ((fp.row (c := 17) (fun i q => by unfold Wpl at q; omega)).trans ek) hw hw3 hw4 htc (Or.inl rfl) (Or.inl rfl) (by omega) (mset_same _ _ _ _) (by decide) (fun m a1 a2 a3 => ?_)
  have e : plV (S 0) (acP S lo up dn pl) (resP S lo up dn pl lk tc wt) (dpP S lo up dn pl tc wt) 0 13 0 0 0 = pln (S 0) (acP S lo up dn pl) (resP S lo up dn pl lk tc wt) (dpP S lo up dn pl tc wt) 13 0 0 0 := by unfold plV; rw [if_neg (by decide)]
  rw [e]
  refine hQ m (fp.trans a1) (fun i i0 i1 => a3 i i0 ?_)
  have r := pln_pnd (D := S 0) (ac := (acP S lo up dn pl)) (res := (resP S lo up dn pl lk tc wt)) (dp := (dpP S lo up dn pl tc wt)) (fun d => by have := resP_c (S := S) (lo := lo) (up := up) (dn := dn) (pl := pl) (lk := lk) (tc := tc) (wt := wt) (l := d); omega) 13 0 0 0 (by omega)
  rw [← r]; exact i1
