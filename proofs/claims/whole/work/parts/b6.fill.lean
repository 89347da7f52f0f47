/-! Arrays.fill over a row that stands alone (a constructor calls it before the world is whole) -/
def layF : Nat → (FieldType × Nat) ⊕ (Nat × Nat × (Nat → Option (Option Nat))) := fun _ => .inl (.long, 12)
abbrev YF : Ly := (1, layF, fun _ _ => 0)
theorem cF_0 : YF.2.1 0 = .inl (.long, 12) := rfl
theorem aF_0 : AI YF 0 (.long) 12 := ⟨by decide, cF_0, by decide⟩
set_option maxHeartbeats 4000000 in
theorem s_fillF_6 : ∀ (f : Nat) {μ : Mem} {Q : PV → Mem → Prop} {x i : Int}, ((12 - i).toNat < f) → (0 ≤ i ∧ i ≤ 12) → (∀ j, 0 ≤ j → j < i → μ 0 j = x) → (∀ μ', (∀ j, 0 ≤ j → j < 12 → μ' 0 j = x) → Q vU μ') → Rj YF y_Jarr_fill_aJJ 6 [vA 0, vL x, vU, vI i, vI 12] [] μ Q := by
  intro f
  induction f with
  | zero => intro μ Q x i hf hi hb hQ; exact absurd hf (by omega)
  | succ f ih =>
    intro μ Q x i hf hi hb hQ
    refine Rj_iload_n (q := 7) d_Jarr_fill_aJJ_6 rfl rfl rfl ?_
    refine Rj_iload (q := 9) d_Jarr_fill_aJJ_7 rfl rfl ?_
    refine Rj_icmp_ge (q := 12) (t := 22) d_Jarr_fill_aJJ_9 rfl (by decide) ⟨by omega, by omega⟩ (by decide) (fun c9 => ?_) (fun c9 => ?_)
    · refine Rj_vret d_Jarr_fill_aJJ_22 rfl ?_
      exact hQ μ (fun j j0 j1 => hb j j0 (by omega))
    · refine Rj_aload_n (q := 13) d_Jarr_fill_aJJ_12 rfl rfl rfl ?_
      refine Rj_iload_n (q := 14) d_Jarr_fill_aJJ_13 rfl rfl rfl ?_
      refine Rj_lload_n (q := 15) d_Jarr_fill_aJJ_14 rfl rfl rfl ?_
      refine Rj_lst (q := 16) aF_0 rfl (by omega) d_Jarr_fill_aJJ_15 rfl ?_
      refine Rj_iinc (q := 19) (ls' := [vA 0, vL x, vU, vI (i + 1), vI 12]) d_Jarr_fill_aJJ_16 rfl rfl (by decide) rfl ?_
      refine Rj_goto (t := 6) d_Jarr_fill_aJJ_19 (by decide) ?_
      refine ih (μ := mset μ 0 i x) (by omega) (by omega) (fun j j0 j1 => ?_) hQ
      by_cases e : j = i
      · rw [e, mset_same]
      · rw [mset_ne _ _ _ _ _ e]; exact hb j j0 (by omega)
set_option maxHeartbeats 4000000 in
theorem s_fillF {μ : Mem} {Q : PV → Mem → Prop} {x : Int} (hQ : ∀ μ', (∀ j, 0 ≤ j → j < 12 → μ' 0 j = x) → Q vU μ') : Rj YF y_Jarr_fill_aJJ 0 [vA 0, vL x] [] μ Q := by
  refine Rj_iconst (q := 1) d_Jarr_fill_aJJ_0 rfl ?_
  refine Rj_istore_n (q := 2) (ls' := [vA 0, vL x, vU, vI 0]) d_Jarr_fill_aJJ_1 rfl rfl (by decide) rfl ?_
  refine Rj_aload_n (q := 3) d_Jarr_fill_aJJ_2 rfl rfl rfl ?_
  refine Rj_al (q := 4) (zn := 12) aF_0 rfl rfl d_Jarr_fill_aJJ_3 rfl ?_
  refine Rj_istore (q := 6) (ls' := [vA 0, vL x, vU, vI 0, vI 12]) d_Jarr_fill_aJJ_4 rfl (by decide) rfl ?_
  exact s_fillF_6 _ (Nat.lt_succ_self _) (by decide) (fun j j0 j1 => absurd j1 (by omega)) hQ
