/-! the class follows back -/
set_option maxHeartbeats 4000000 in
theorem s_follow_82 {μ : Mem} {Q : PV → Mem → Prop} {t k n : Int} (hQ : Q (vI n) μ) : Rj YD y_Pl_followBack 82 [vA 74, vI t, vI k, vI n] [] μ Q := by
  refine Rj_iload_n (q := 83) d_Pl_followBack_82 rfl rfl rfl ?_
  refine Rj_iret d_Pl_followBack_83 rfl ?_
  exact hQ
set_option maxHeartbeats 4000000 in
theorem s_follow_32 {μ : Mem} {Q : PV → Mem → Prop} {F C : Int → Int} {t k m : Int} (hF : μ 76 = F) (hC : μ 77 = C) (hD : DOWN F m) (hm : m ≤ 2000) (ht : 0 ≤ t ∧ t < m) (hk : -2147483648 ≤ k ∧ k ≤ 2147483647) (hQ : ∀ μ', Fr (fun c i => c = 74 ∧ i = 8) μ μ' → (0 ≤ k ∧ k < dpt F 2001 t → μ' 74 8 = kth F C 2001 t k) → (¬ (0 ≤ k ∧ k < dpt F 2001 t) → μ' 74 8 = μ 74 8) → Q (vI (dpt F 2001 t)) μ') : Rj YD y_Pl_followBack 32 [vA 74, vI t, vI k, vI (dpt F 2001 t)] [] μ Q := by
  refine Rj_iload_n (q := 33) d_Pl_followBack_32 rfl rfl rfl ?_
  refine Rj_istore (q := 35) (ls' := [vA 74, vI t, vI k, vI (dpt F 2001 t), vI t]) d_Pl_followBack_33 rfl (by decide) rfl ?_
  refine Rj_iload_n (q := 36) d_Pl_followBack_35 rfl rfl rfl ?_
  refine Rj_iconst (q := 37) d_Pl_followBack_36 rfl ?_
  refine Rj_isub (q := 38) d_Pl_followBack_37 rfl ?_
  refine Rj_istore (q := 40) (ls' := [vA 74, vI t, vI k, vI (dpt F 2001 t), vI t, vI ((dpt F 2001 t) - 1)]) d_Pl_followBack_38 rfl (by decide) rfl ?_
  exact s_follow_40 2001 (by omega) hF hC hD hm ht hk (by omega) (fun m2 a1 a2 a3 => s_follow_82 (hQ m2 a1 a2 a3))
set_option maxHeartbeats 4000000 in
theorem s_followBack {μ : Mem} {Q : PV → Mem → Prop} {F C : Int → Int} {t k m : Int} (hF : μ 76 = F) (hC : μ 77 = C) (hD : DOWN F m) (hm : m ≤ 2000) (ht : 0 ≤ t ∧ t < m) (hk : -2147483648 ≤ k ∧ k ≤ 2147483647) (hQ : ∀ μ', Fr (fun c i => c = 74 ∧ i = 8) μ μ' → (0 ≤ k ∧ k < dpt F 2001 t → μ' 74 8 = kth F C 2001 t k) → (¬ (0 ≤ k ∧ k < dpt F 2001 t) → μ' 74 8 = μ 74 8) → Q (vI (dpt F 2001 t)) μ') : Rj YD y_Pl_followBack 0 [vA 74, vI t, vI k] [] μ Q := by
  refine Rj_iconst (q := 1) d_Pl_followBack_0 rfl ?_
  refine Rj_istore_n (q := 2) (ls' := [vA 74, vI t, vI k, vI 0]) d_Pl_followBack_1 rfl rfl (by decide) rfl ?_
  refine Rj_iload_n (q := 3) d_Pl_followBack_2 rfl rfl rfl ?_
  refine Rj_istore (q := 5) (ls' := [vA 74, vI t, vI k, vI 0, vI t]) d_Pl_followBack_3 rfl (by decide) rfl ?_
  refine s_follow_5 2001 (by omega) hF hD hm ht (by omega) ?_
  rw [Int.zero_add]
  exact s_follow_32 hF hC hD hm ht hk hQ
