theorem gD_Bo_26_79 : GI YD "DoorsOnCogs$RuleBook" 26 79 1 none := ⟨by decide, _, _, _, fl_Bo_26, cD_79, by decide, rfl⟩
theorem gD_Bo_15_79 : GI YD "DoorsOnCogs$RuleBook" 15 79 3 (some (some 81)) := ⟨by decide, _, _, _, fl_Bo_15, cD_79, by decide, rfl⟩
theorem aD_81 : AI YD 81 (.int) 6 := ⟨by decide, cD_81, by decide⟩
theorem gD_Bo_11_79 : GI YD "DoorsOnCogs$RuleBook" 11 79 2 (some (some 80)) := ⟨by decide, _, _, _, fl_Bo_11, cD_79, by decide, rfl⟩
theorem aD_80 : AI YD 80 (.int) 2406 := ⟨by decide, cD_80, by decide⟩
theorem gD_Rr_9_84 : GI YD "DoorsOnCogs$RuleReader" 9 84 2 (some (some 85)) := ⟨by decide, _, _, _, fl_Rr_9, cD_84, by decide, rfl⟩
theorem aD_85 : AI YD 85 (.int) 400 := ⟨by decide, cD_85, by decide⟩
theorem gD_Rr_19_84 : GI YD "DoorsOnCogs$RuleReader" 19 84 1 (some (some 79)) := ⟨by decide, _, _, _, fl_Rr_19, cD_84, by decide, rfl⟩
theorem oD_79_Bo_emit : OI YD 79 y_Bo_emit := ⟨by decide, _, _, _, cD_79, rfl⟩
theorem gD_Rr_27_84 : GI YD "DoorsOnCogs$RuleReader" 27 84 4 none := ⟨by decide, _, _, _, fl_Rr_27, cD_84, by decide, rfl⟩
theorem pD_Rr_27_84 : PI YD "DoorsOnCogs$RuleReader" 27 84 4 none .int := ⟨by decide, _, _, _, fl_Rr_27, fp_5_4, cD_84, by decide, rfl⟩
theorem pD_Rr_23_84 : PI YD "DoorsOnCogs$RuleReader" 23 84 3 none .int := ⟨by decide, _, _, _, fl_Rr_23, fp_5_3, cD_84, by decide, rfl⟩
theorem gD_Rr_23_84 : GI YD "DoorsOnCogs$RuleReader" 23 84 3 none := ⟨by decide, _, _, _, fl_Rr_23, cD_84, by decide, rfl⟩
/-! the class reads a rule: signs wait, and are put down -/
/-- the class's reader stands so -/
def RC (μ : Mem) (A : Int → Int) (n r k : Int) (w : List Int) (cl vl nx : Int) (D : List CLS) (c : CLS) : Prop :=
  TD μ A n ∧ μ 2 2 = k ∧ μ 2 3 = 0 ∧ μ 84 3 = (w.length : Int) ∧ μ 84 4 = dpn w ∧ μ 84 5 = brn w ∧ μ 84 6 = cl ∧ μ 84 7 = vl ∧ μ 84 8 = nx ∧ WST (μ 85) w ∧ (μ 79 1 = r ∧ 0 ≤ r ∧ r < 6) ∧ LST (μ 80) (401 * r) (flC D ++ cuC c) ∧ μ 81 r = nC D c
theorem nC_len (D : List CLS) (c : CLS) : nC D c = ((flC D ++ cuC c).length : Int) := by unfold nC; simp
abbrev Wem (r : Int) (c : Nat) (i : Int) : Prop := (c = 80 ∧ 401 * r ≤ i ∧ i < 401 * r + 401) ∨ (c = 81 ∧ i = r)
abbrev Wru (r : Int) (c : Nat) (i : Int) : Prop := (c = 2 ∧ (i = 2 ∨ i = 3)) ∨ (c = 84 ∧ 3 ≤ i) ∨ c = 85 ∨ (c = 80 ∧ 401 * r ≤ i ∧ i < 401 * r + 401) ∨ (c = 81 ∧ i = r)
theorem top_of {w : List Int} (h : 0 < (w.length : Int)) : ∃ o t, w = o :: t := by
  cases w with
  | nil => exact absurd h (by simp)
  | cons o t => exact ⟨o, t, rfl⟩
theorem nil_of {w : List Int} (h : (w.length : Int) ≤ 0) : w = [] := List.eq_nil_of_length_eq_zero (by omega)
theorem dpn_bd : ∀ w : List Int, 0 ≤ dpn w ∧ dpn w ≤ (w.length : Int)
  | [] => ⟨Int.le_refl _, Int.le_refl _⟩
  | op :: t => by
    have := dpn_bd t
    have l : (((op :: t).length : Nat) : Int) = (t.length : Int) + 1 := by simp
    show 0 ≤ dpn t + (if op = 19 ∨ op = 22 then 1 else 0) ∧ dpn t + (if op = 19 ∨ op = 22 then 1 else 0) ≤ _
    split <;> omega
theorem brn_bd : ∀ w : List Int, 0 ≤ brn w ∧ brn w ≤ (w.length : Int)
  | [] => ⟨Int.le_refl _, Int.le_refl _⟩
  | op :: t => by
    have := brn_bd t
    have l : (((op :: t).length : Nat) : Int) = (t.length : Int) + 1 := by simp
    show 0 ≤ brn t + (if op = 22 then 1 else 0) ∧ brn t + (if op = 22 then 1 else 0) ≤ _
    split <;> omega
theorem dpn_cons {o : Int} {t : List Int} : dpn (o :: t) = dpn t + (if o = 19 ∨ o = 22 then 1 else 0) := rfl
set_option maxHeartbeats 4000000 in
theorem s_emit {μ : Mem} {Q : PV → Mem → Prop} {r op : Int} {L : List Int} (hr : μ 79 1 = r ∧ 0 ≤ r ∧ r < 6) (hL : LST (μ 80) (401 * r) L) (hl : μ 81 r = (L.length : Int)) (hlen : (L.length : Int) ≤ 400) (hQ : ∀ μ', Fr (Wem r) μ μ' → LST (μ' 80) (401 * r) (L ++ [op]) → μ' 81 r = (L.length : Int) + 1 → Q vU μ') : Rj YD y_Bo_emit 0 [vA 79, vI op] [] μ Q := by
  refine Rj_aload_n (q := 1) d_Bo_emit_0 rfl rfl rfl ?_
  refine Rj_gi (q := 4) (ki := 1) (v := r) gD_Bo_26_79 rfl rfl hr.1 d_Bo_emit_1 rfl ?_
  refine Rj_bipush (q := 6) d_Bo_emit_4 rfl (by decide +kernel) ?_
  refine Rj_icmp_ge (q := 9) (t := 61) d_Bo_emit_6 rfl (by decide) ⟨by omega, by omega⟩ (by decide) (fun c6 => ?_) (fun c6 => ?_)
  · refine Rj_vret d_Bo_emit_61 rfl ?_
    exfalso
    omega
  · refine Rj_aload_n (q := 10) d_Bo_emit_9 rfl rfl rfl ?_
    refine Rj_gr (q := 13) (zd := 81) gD_Bo_15_79 rfl rfl d_Bo_emit_10 rfl ?_
    refine Rj_aload_n (q := 14) d_Bo_emit_13 rfl rfl rfl ?_
    refine Rj_gi (q := 17) (ki := 1) (v := r) gD_Bo_26_79 rfl rfl hr.1 d_Bo_emit_14 rfl ?_
    refine Rj_ia (q := 18) (v := (L.length : Int)) aD_81 rfl (by omega) hl d_Bo_emit_17 rfl ?_
    refine Rj_sipush (q := 21) d_Bo_emit_18 rfl (by decide +kernel) ?_
    refine Rj_icmp_ge (q := 24) (t := 61) d_Bo_emit_21 rfl (by decide) ⟨by omega, by omega⟩ (by decide) (fun c21 => ?_) (fun c21 => ?_)
    · refine Rj_vret d_Bo_emit_61 rfl ?_
      exfalso
      omega
    · refine Rj_aload_n (q := 25) d_Bo_emit_24 rfl rfl rfl ?_
      refine Rj_gr (q := 28) (zd := 80) gD_Bo_11_79 rfl rfl d_Bo_emit_25 rfl ?_
      refine Rj_aload_n (q := 29) d_Bo_emit_28 rfl rfl rfl ?_
      refine Rj_gi (q := 32) (ki := 1) (v := r) gD_Bo_26_79 rfl rfl hr.1 d_Bo_emit_29 rfl ?_
      refine Rj_sipush (q := 35) d_Bo_emit_32 rfl (by decide +kernel) ?_
      refine Rj_imul (q := 36) d_Bo_emit_35 rfl ?_
      refine Rj_aload_n (q := 37) d_Bo_emit_36 rfl rfl rfl ?_
      refine Rj_gr (q := 40) (zd := 81) gD_Bo_15_79 rfl rfl d_Bo_emit_37 rfl ?_
      refine Rj_aload_n (q := 41) d_Bo_emit_40 rfl rfl rfl ?_
      refine Rj_gi (q := 44) (ki := 1) (v := r) gD_Bo_26_79 rfl rfl hr.1 d_Bo_emit_41 rfl ?_
      refine Rj_ia (q := 45) (v := (L.length : Int)) aD_81 rfl (by omega) hl d_Bo_emit_44 rfl ?_
      refine Rj_iadd (q := 46) d_Bo_emit_45 rfl ?_
      refine Rj_iload_n (q := 47) d_Bo_emit_46 rfl rfl rfl ?_
      refine Rj_is (q := 48) aD_80 rfl (by omega) d_Bo_emit_47 rfl ?_
      refine Rj_aload_n (q := 49) d_Bo_emit_48 rfl rfl rfl ?_
      refine Rj_gr (q := 52) (zd := 81) gD_Bo_15_79 rfl rfl d_Bo_emit_49 rfl ?_
      refine Rj_aload_n (q := 53) d_Bo_emit_52 rfl rfl rfl ?_
      refine Rj_gi (q := 56) (ki := 1) (v := r) gD_Bo_26_79 rfl rfl hr.1 d_Bo_emit_53 rfl ?_
      refine Rj_dup2 (q := 57) d_Bo_emit_56 rfl (by intro h; cases h) (by intro h; cases h) ?_
      refine Rj_ia (q := 58) (v := (L.length : Int)) aD_81 rfl (by omega) ((mset_o (by omega)).trans hl) d_Bo_emit_57 rfl ?_
      refine Rj_iconst (q := 59) d_Bo_emit_58 rfl ?_
      refine Rj_iadd (q := 60) d_Bo_emit_59 rfl ?_
      refine Rj_is (q := 61) aD_81 rfl (by omega) d_Bo_emit_60 rfl ?_
      refine Rj_vret d_Bo_emit_61 rfl ?_
      refine hQ _ (Fr.put (Fr.put (Fr.refl _ _) (Or.inl ⟨rfl, by omega, by omega⟩)) (Or.inr ⟨rfl, rfl⟩)) (LST_snoc.mpr ⟨LST_keep hL (fun i i0 i1 => (mset_o (by omega)).trans (mset_o (by omega))), (mset_o (by omega)).trans ?_⟩) (mset_same _ _ _ _)
      rw [show 401 * r + (L.length : Int) = (r * 401) + (L.length : Int) by omega]
      exact mset_same _ _ _ _
set_option maxHeartbeats 4000000 in
theorem s_bondOf {μ : Mem} {Q : PV → Mem → Prop} {op : Int} (ho : 0 ≤ op ∧ op ≤ 100) (hQ : Q (vI (bnd op)) μ) : Rj YD y_Bo_bondOf 0 [vI op] [] μ Q := by
  refine Rj_iload_n (q := 1) d_Bo_bondOf_0 rfl rfl rfl ?_
  refine Rj_bipush (q := 3) d_Bo_bondOf_1 rfl (by decide +kernel) ?_
  refine Rj_icmp_eq (q := 6) (t := 12) d_Bo_bondOf_3 rfl (by decide) ⟨by omega, by omega⟩ (by decide) (fun c3 => ?_) (fun c3 => ?_)
  · refine Rj_bipush (q := 14) d_Bo_bondOf_12 rfl (by decide +kernel) ?_
    refine Rj_iret d_Bo_bondOf_14 rfl ?_
    exact fin_I hQ (by unfold bnd; (repeat' split) <;> omega)
  · refine Rj_iload_n (q := 7) d_Bo_bondOf_6 rfl rfl rfl ?_
    refine Rj_bipush (q := 9) d_Bo_bondOf_7 rfl (by decide +kernel) ?_
    refine Rj_icmp_ne (q := 12) (t := 15) d_Bo_bondOf_9 rfl (by decide) ⟨by omega, by omega⟩ (by decide) (fun c9 => ?_) (fun c9 => ?_)
    · refine Rj_iload_n (q := 16) d_Bo_bondOf_15 rfl rfl rfl ?_
      refine Rj_bipush (q := 18) d_Bo_bondOf_16 rfl (by decide +kernel) ?_
      refine Rj_icmp_eq (q := 21) (t := 27) d_Bo_bondOf_18 rfl (by decide) ⟨by omega, by omega⟩ (by decide) (fun c18 => ?_) (fun c18 => ?_)
      · refine Rj_iconst (q := 28) d_Bo_bondOf_27 rfl ?_
        refine Rj_iret d_Bo_bondOf_28 rfl ?_
        exact fin_I hQ (by unfold bnd; (repeat' split) <;> omega)
      · refine Rj_iload_n (q := 22) d_Bo_bondOf_21 rfl rfl rfl ?_
        refine Rj_bipush (q := 24) d_Bo_bondOf_22 rfl (by decide +kernel) ?_
        refine Rj_icmp_ne (q := 27) (t := 29) d_Bo_bondOf_24 rfl (by decide) ⟨by omega, by omega⟩ (by decide) (fun c24 => ?_) (fun c24 => ?_)
        · refine Rj_iload_n (q := 30) d_Bo_bondOf_29 rfl rfl rfl ?_
          refine Rj_bipush (q := 32) d_Bo_bondOf_30 rfl (by decide +kernel) ?_
          refine Rj_icmp_lt (q := 35) (t := 43) d_Bo_bondOf_32 rfl (by decide) ⟨by omega, by omega⟩ (by decide) (fun c32 => ?_) (fun c32 => ?_)
          · refine Rj_iload_n (q := 44) d_Bo_bondOf_43 rfl rfl rfl ?_
            refine Rj_bipush (q := 46) d_Bo_bondOf_44 rfl (by decide +kernel) ?_
            refine Rj_icmp_ne (q := 49) (t := 51) d_Bo_bondOf_46 rfl (by decide) ⟨by omega, by omega⟩ (by decide) (fun c46 => ?_) (fun c46 => ?_)
            · refine Rj_iload_n (q := 52) d_Bo_bondOf_51 rfl rfl rfl ?_
              refine Rj_bipush (q := 54) d_Bo_bondOf_52 rfl (by decide +kernel) ?_
              refine Rj_icmp_ne (q := 57) (t := 59) d_Bo_bondOf_54 rfl (by decide) ⟨by omega, by omega⟩ (by decide) (fun c54 => ?_) (fun c54 => ?_)
              · refine Rj_iload_n (q := 60) d_Bo_bondOf_59 rfl rfl rfl ?_
                refine Rj_bipush (q := 62) d_Bo_bondOf_60 rfl (by decide +kernel) ?_
                refine Rj_icmp_ne (q := 65) (t := 69) d_Bo_bondOf_62 rfl (by decide) ⟨by omega, by omega⟩ (by decide) (fun c62 => ?_) (fun c62 => ?_)
                · refine Rj_iconst (q := 70) d_Bo_bondOf_69 rfl ?_
                  refine Rj_iret d_Bo_bondOf_70 rfl ?_
                  exact fin_I hQ (by unfold bnd; (repeat' split) <;> omega)
                · refine Rj_iconst (q := 66) d_Bo_bondOf_65 rfl ?_
                  refine Rj_goto (t := 70) d_Bo_bondOf_66 (by decide) ?_
                  refine Rj_iret d_Bo_bondOf_70 rfl ?_
                  exact fin_I hQ (by unfold bnd; (repeat' split) <;> omega)
              · refine Rj_iconst (q := 58) d_Bo_bondOf_57 rfl ?_
                refine Rj_iret d_Bo_bondOf_58 rfl ?_
                exact fin_I hQ (by unfold bnd; (repeat' split) <;> omega)
            · refine Rj_iconst (q := 50) d_Bo_bondOf_49 rfl ?_
              refine Rj_iret d_Bo_bondOf_50 rfl ?_
              exact fin_I hQ (by unfold bnd; (repeat' split) <;> omega)
          · refine Rj_iload_n (q := 36) d_Bo_bondOf_35 rfl rfl rfl ?_
            refine Rj_bipush (q := 38) d_Bo_bondOf_36 rfl (by decide +kernel) ?_
            refine Rj_icmp_gt (q := 41) (t := 43) d_Bo_bondOf_38 rfl (by decide) ⟨by omega, by omega⟩ (by decide) (fun c38 => ?_) (fun c38 => ?_)
            · refine Rj_iload_n (q := 44) d_Bo_bondOf_43 rfl rfl rfl ?_
              refine Rj_bipush (q := 46) d_Bo_bondOf_44 rfl (by decide +kernel) ?_
              refine Rj_icmp_ne (q := 49) (t := 51) d_Bo_bondOf_46 rfl (by decide) ⟨by omega, by omega⟩ (by decide) (fun c46 => ?_) (fun c46 => ?_)
              · refine Rj_iload_n (q := 52) d_Bo_bondOf_51 rfl rfl rfl ?_
                refine Rj_bipush (q := 54) d_Bo_bondOf_52 rfl (by decide +kernel) ?_
                refine Rj_icmp_ne (q := 57) (t := 59) d_Bo_bondOf_54 rfl (by decide) ⟨by omega, by omega⟩ (by decide) (fun c54 => ?_) (fun c54 => ?_)
                · refine Rj_iload_n (q := 60) d_Bo_bondOf_59 rfl rfl rfl ?_
                  refine Rj_bipush (q := 62) d_Bo_bondOf_60 rfl (by decide +kernel) ?_
                  refine Rj_icmp_ne (q := 65) (t := 69) d_Bo_bondOf_62 rfl (by decide) ⟨by omega, by omega⟩ (by decide) (fun c62 => ?_) (fun c62 => ?_)
                  · refine Rj_iconst (q := 70) d_Bo_bondOf_69 rfl ?_
                    refine Rj_iret d_Bo_bondOf_70 rfl ?_
                    exact fin_I hQ (by unfold bnd; (repeat' split) <;> omega)
                  · refine Rj_iconst (q := 66) d_Bo_bondOf_65 rfl ?_
                    refine Rj_goto (t := 70) d_Bo_bondOf_66 (by decide) ?_
                    refine Rj_iret d_Bo_bondOf_70 rfl ?_
                    exact fin_I hQ (by unfold bnd; (repeat' split) <;> omega)
                · refine Rj_iconst (q := 58) d_Bo_bondOf_57 rfl ?_
                  refine Rj_iret d_Bo_bondOf_58 rfl ?_
                  exact fin_I hQ (by unfold bnd; (repeat' split) <;> omega)
              · refine Rj_iconst (q := 50) d_Bo_bondOf_49 rfl ?_
                refine Rj_iret d_Bo_bondOf_50 rfl ?_
                exact fin_I hQ (by unfold bnd; (repeat' split) <;> omega)
            · refine Rj_iconst (q := 42) d_Bo_bondOf_41 rfl ?_
              refine Rj_iret d_Bo_bondOf_42 rfl ?_
              exact fin_I hQ (by unfold bnd; (repeat' split) <;> omega)
        · refine Rj_iconst (q := 28) d_Bo_bondOf_27 rfl ?_
          refine Rj_iret d_Bo_bondOf_28 rfl ?_
          exact fin_I hQ (by unfold bnd; (repeat' split) <;> omega)
    · refine Rj_bipush (q := 14) d_Bo_bondOf_12 rfl (by decide +kernel) ?_
      refine Rj_iret d_Bo_bondOf_14 rfl ?_
      exact fin_I hQ (by unfold bnd; (repeat' split) <;> omega)
set_option maxHeartbeats 4000000 in
theorem s_settle_12 : ∀ (f : Nat) {μ : Mem} {Q : PV → Mem → Prop} {A : Int → Int} {n r k cl vl nx : Int} {w : List Int} {D : List CLS} {c : CLS} {b op i : Int}, (w.length < f) → (RC μ A n r k w cl vl nx D c) → (IV n k w cl vl nx D c) → (1 ≤ b ∧ b ≤ 6) → (i = (w.length : Int) - 1) → (∀ μ', Fr (Wru r) μ μ' → RC μ' A n r k (stl b w c).1 cl vl nx D (stl b w c).2 → Q vU μ') → Rj YD y_Rr_settle 12 [vA 84, vI op, vI b, vI i] [] μ Q := by
  intro f
  induction f with
  | zero => intro μ Q A n r k cl vl nx w D c b op i hf hC hI hb hi hQ; exact absurd hf (by omega)
  | succ f ih =>
    intro μ Q A n r k cl vl nx w D c b op i hf hC hI hb hi hQ
    obtain ⟨hT, hk, hf0, h3, h4, h5, h6, h7, h8, hW, hr, hL, hl⟩ := id hC
    obtain ⟨i1, i2, i3, i4, i5, i6, i7, i8⟩ := id hI
    have hn := hT.2.1
    have hX := hT.1.1
    have dw := dpn_bd w
    have bw := brn_bd w
    have nn := nC_nn D c
    refine Rj_iload_n (q := 13) d_Rr_settle_12 rfl rfl rfl ?_
    refine Rj_if_lt (q := 16) (t := 78) d_Rr_settle_13 rfl (by decide) ⟨by omega, by omega⟩ (fun c13 => ?_) (fun c13 => ?_)
    · have e := nil_of (w := w) (by omega)
      subst e
      refine Rj_vret d_Rr_settle_78 rfl ?_
      exact hQ μ (Fr.refl _ _) hC
    · obtain ⟨o, t, ew⟩ := top_of (w := w) (by omega)
      have wl : (w.length : Int) = (t.length : Int) + 1 := by rw [ew]; simp
      have hi2 : i = (t.length : Int) := by omega
      have h85 : μ 85 i = o := by rw [hi2]; rw [ew] at hW; exact hW.1
      have oo : okw o := i5 o (by rw [ew]; simp)
      have ob : 0 ≤ bnd o ∧ bnd o ≤ 6 := by unfold bnd; (repeat' split) <;> omega
      refine Rj_aload_n (q := 17) d_Rr_settle_16 rfl rfl rfl ?_
      refine Rj_gr (q := 20) (zd := 85) gD_Rr_9_84 rfl rfl d_Rr_settle_17 rfl ?_
      refine Rj_iload_n (q := 21) d_Rr_settle_20 rfl rfl rfl ?_
      refine Rj_ia (q := 22) (v := o) aD_85 rfl (by omega) h85 d_Rr_settle_21 rfl ?_
      refine Rj_cs (q := 25) (z := y_Bo_bondOf) (as := [vI o]) (rest := []) (la := [vI o]) ml_Rr_150 mw_Bo_bondOf ms_Bo_bondOf d_Rr_settle_22 rfl rfl rfl rfl rfl ?_
      refine s_bondOf (by omega) ?_
      refine Rj_iload_n (q := 26) d_Rr_settle_25 rfl rfl rfl ?_
      refine Rj_icmp_lt (q := 29) (t := 78) d_Rr_settle_26 rfl (by decide) ⟨by omega, by omega⟩ ⟨by omega, by omega⟩ (fun c26 => ?_) (fun c26 => ?_)
      · rw [ew, stl_stop (by omega), ← ew] at hQ
        refine Rj_vret d_Rr_settle_78 rfl ?_
        exact hQ μ (Fr.refl _ _) hC
      · refine Rj_aload_n (q := 30) d_Rr_settle_29 rfl rfl rfl ?_
        refine Rj_gr (q := 33) (zd := 79) gD_Rr_19_84 rfl rfl d_Rr_settle_30 rfl ?_
        refine Rj_aload_n (q := 34) d_Rr_settle_33 rfl rfl rfl ?_
        refine Rj_gr (q := 37) (zd := 85) gD_Rr_9_84 rfl rfl d_Rr_settle_34 rfl ?_
        refine Rj_iload_n (q := 38) d_Rr_settle_37 rfl rfl rfl ?_
        refine Rj_ia (q := 39) (v := o) aD_85 rfl (by omega) h85 d_Rr_settle_38 rfl ?_
        refine Rj_vov (q := 42) (z := y_Bo_emit) (as := [vI o]) (rest := []) (la := [vA 79, vI o]) oD_79_Bo_emit ml_Rr_108 mw_Bo_emit mv_Bo_emit rfl d_Rr_settle_39 rfl rfl rfl rfl rfl ?_
        refine s_emit hr hL (hl.trans (nC_len D c)) (by rw [← nC_len]; omega) (fun m fm lm lm2 => ?_)
        refine Rj_aload_n (q := 43) d_Rr_settle_42 rfl rfl rfl ?_
        refine Rj_dup (q := 44) d_Rr_settle_43 rfl (by intro h; cases h) ?_
        refine Rj_gi (q := 47) (ki := 4) (v := dpn w) gD_Rr_27_84 rfl rfl ((fm 84 4 (by unfold Wem; omega)).trans h4) d_Rr_settle_44 rfl ?_
        refine Rj_aload_n (q := 48) d_Rr_settle_47 rfl rfl rfl ?_
        refine Rj_gr (q := 51) (zd := 85) gD_Rr_9_84 rfl rfl d_Rr_settle_48 rfl ?_
        refine Rj_iload_n (q := 52) d_Rr_settle_51 rfl rfl rfl ?_
        refine Rj_ia (q := 53) (v := o) aD_85 rfl (by omega) ((fm 85 i (by unfold Wem; omega)).trans h85) d_Rr_settle_52 rfl ?_
        refine Rj_bipush (q := 55) d_Rr_settle_53 rfl (by decide +kernel) ?_
        refine Rj_icmp_ne (q := 58) (t := 62) d_Rr_settle_55 rfl (by decide) ⟨by omega, by omega⟩ (by decide) (fun c55 => ?_) (fun c55 => ?_)
        · refine Rj_iconst (q := 63) d_Rr_settle_62 rfl ?_
          refine Rj_isub (q := 64) d_Rr_settle_63 rfl ?_
          refine Rj_pi (q := 67) (ki := 4) pD_Rr_27_84 rfl rfl d_Rr_settle_64 rfl ?_
          refine Rj_aload_n (q := 68) d_Rr_settle_67 rfl rfl rfl ?_
          refine Rj_iload_n (q := 69) d_Rr_settle_68 rfl rfl rfl ?_
          refine Rj_pi (q := 72) (ki := 3) pD_Rr_23_84 rfl rfl d_Rr_settle_69 rfl ?_
          refine Rj_iinc (q := 75) (ls' := [vA 84, vI op, vI b, vI (i + (-1))]) d_Rr_settle_72 rfl rfl (by decide) rfl ?_
          refine Rj_goto (t := 12) d_Rr_settle_75 (by decide) ?_
          have fr : Fr (Wru r) μ ((mset (mset m 84 4 ((dpn w) - 0)) 84 3 i)) := Fr.put (Fr.put (Fr.wide fm (fun c i q => by unfold Wem at q; unfold Wru; omega)) (by unfold Wru; omega)) (by unfold Wru; omega)
          rw [ew, stl_cons (by omega)] at hQ
          have o22 : o ≠ 22 := fun q => by rw [q] at c26; exact absurd c26 (by rw [show bnd 22 = 0 from rfl]; omega)
          have hI2 : IV n k (o :: t) cl vl nx D c := by rw [← ew]; exact hI
          have lm3 : LST (m 80) (401 * r) (flC D ++ cuC (emt o c)) := by rw [cuC_emt, ← List.append_assoc]; exact lm
          refine ih (μ := (mset (mset m 84 4 ((dpn w) - 0)) 84 3 i)) (w := t) (c := emt o c) (by rw [ew] at hf; simp at hf; omega) ⟨hT.keep (fm 2 1 (by unfold Wem; omega)) (fm.row (fun i q => by unfold Wem at q; omega)), (fm 2 2 (by unfold Wem; omega)).trans hk, (fm 2 3 (by unfold Wem; omega)).trans hf0, hi2, ?_, ?_, (fm 84 6 (by unfold Wem; omega)).trans h6, (fm 84 7 (by unfold Wem; omega)).trans h7, (fm 84 8 (by unfold Wem; omega)).trans h8, ?_, ⟨(fm 79 1 (by unfold Wem; omega)).trans hr.1, hr.2⟩, lm3, ?_⟩ hI2.down hb (by omega) (fun m2 a1 a2 => hQ m2 (fr.trans a1) a2)
          · show dpn w - _ = dpn t
            rw [ew, dpn_cons]
            first
              | rw [if_pos (Or.inl c55)]; omega
              | rw [if_neg (by omega)]; omega
          · refine ((fm 84 5 (by unfold Wem; omega)).trans h5).trans ?_
            rw [ew, brn_cons o22]
          · rw [ew] at hW
            exact WST_keep hW.2 (fun i i0 i1 => fm 85 i (by unfold Wem; omega))
          · rw [nC_emt, nC_len]; exact lm2
        · refine Rj_iconst (q := 59) d_Rr_settle_58 rfl ?_
          refine Rj_goto (t := 63) d_Rr_settle_59 (by decide) ?_
          refine Rj_isub (q := 64) d_Rr_settle_63 rfl ?_
          refine Rj_pi (q := 67) (ki := 4) pD_Rr_27_84 rfl rfl d_Rr_settle_64 rfl ?_
          refine Rj_aload_n (q := 68) d_Rr_settle_67 rfl rfl rfl ?_
          refine Rj_iload_n (q := 69) d_Rr_settle_68 rfl rfl rfl ?_
          refine Rj_pi (q := 72) (ki := 3) pD_Rr_23_84 rfl rfl d_Rr_settle_69 rfl ?_
          refine Rj_iinc (q := 75) (ls' := [vA 84, vI op, vI b, vI (i + (-1))]) d_Rr_settle_72 rfl rfl (by decide) rfl ?_
          refine Rj_goto (t := 12) d_Rr_settle_75 (by decide) ?_
          have fr : Fr (Wru r) μ ((mset (mset m 84 4 ((dpn w) - 1)) 84 3 i)) := Fr.put (Fr.put (Fr.wide fm (fun c i q => by unfold Wem at q; unfold Wru; omega)) (by unfold Wru; omega)) (by unfold Wru; omega)
          rw [ew, stl_cons (by omega)] at hQ
          have o22 : o ≠ 22 := fun q => by rw [q] at c26; exact absurd c26 (by rw [show bnd 22 = 0 from rfl]; omega)
          have hI2 : IV n k (o :: t) cl vl nx D c := by rw [← ew]; exact hI
          have lm3 : LST (m 80) (401 * r) (flC D ++ cuC (emt o c)) := by rw [cuC_emt, ← List.append_assoc]; exact lm
          refine ih (μ := (mset (mset m 84 4 ((dpn w) - 1)) 84 3 i)) (w := t) (c := emt o c) (by rw [ew] at hf; simp at hf; omega) ⟨hT.keep (fm 2 1 (by unfold Wem; omega)) (fm.row (fun i q => by unfold Wem at q; omega)), (fm 2 2 (by unfold Wem; omega)).trans hk, (fm 2 3 (by unfold Wem; omega)).trans hf0, hi2, ?_, ?_, (fm 84 6 (by unfold Wem; omega)).trans h6, (fm 84 7 (by unfold Wem; omega)).trans h7, (fm 84 8 (by unfold Wem; omega)).trans h8, ?_, ⟨(fm 79 1 (by unfold Wem; omega)).trans hr.1, hr.2⟩, lm3, ?_⟩ hI2.down hb (by omega) (fun m2 a1 a2 => hQ m2 (fr.trans a1) a2)
          · show dpn w - _ = dpn t
            rw [ew, dpn_cons]
            first
              | rw [if_pos (Or.inl c55)]; omega
              | rw [if_neg (by omega)]; omega
          · refine ((fm 84 5 (by unfold Wem; omega)).trans h5).trans ?_
            rw [ew, brn_cons o22]
          · rw [ew] at hW
            exact WST_keep hW.2 (fun i i0 i1 => fm 85 i (by unfold Wem; omega))
          · rw [nC_emt, nC_len]; exact lm2
set_option maxHeartbeats 4000000 in
theorem s_settle {μ : Mem} {Q : PV → Mem → Prop} {A : Int → Int} {n r k cl vl nx : Int} {w : List Int} {D : List CLS} {c : CLS} {b op : Int} (hC : RC μ A n r k w cl vl nx D c) (hI : IV n k w cl vl nx D c) (hop : 0 ≤ op ∧ op ≤ 100) (hbb : bnd op = b) (hb : 1 ≤ b ∧ b ≤ 6) (hQ : ∀ μ', Fr (Wru r) μ μ' → RC μ' A n r k (stl b w c).1 cl vl nx D (stl b w c).2 → Q vU μ') : Rj YD y_Rr_settle 0 [vA 84, vI op] [] μ Q := by
  obtain ⟨hT, hk, hf0, h3, h4, h5, h6, h7, h8, hW, hr, hL, hl⟩ := id hC
  obtain ⟨i1, i2, i3, i4, i5, i6, i7, i8⟩ := id hI
  have hn := hT.2.1
  have hX := hT.1.1
  have dw := dpn_bd w
  have bw := brn_bd w
  have nn := nC_nn D c
  refine Rj_iload_n (q := 1) d_Rr_settle_0 rfl rfl rfl ?_
  refine Rj_cs (q := 4) (z := y_Bo_bondOf) (as := [vI op]) (rest := []) (la := [vI op]) ml_Rr_150 mw_Bo_bondOf ms_Bo_bondOf d_Rr_settle_1 rfl rfl rfl rfl rfl ?_
  refine s_bondOf (by omega) ?_
  refine Rj_istore_n (q := 5) (ls' := [vA 84, vI op, vI (bnd op)]) d_Rr_settle_4 rfl rfl (by decide) rfl ?_
  refine Rj_aload_n (q := 6) d_Rr_settle_5 rfl rfl rfl ?_
  refine Rj_gi (q := 9) (ki := 3) (v := (w.length : Int)) gD_Rr_23_84 rfl rfl h3 d_Rr_settle_6 rfl ?_
  refine Rj_iconst (q := 10) d_Rr_settle_9 rfl ?_
  refine Rj_isub (q := 11) d_Rr_settle_10 rfl ?_
  refine Rj_istore_n (q := 12) (ls' := [vA 84, vI op, vI (bnd op), vI ((w.length : Int) - 1)]) d_Rr_settle_11 rfl rfl (by decide) rfl ?_
  refine Rj_eql (ls' := [vA 84, vI op, vI b, vI ((w.length : Int) - 1)]) (by rw [hbb]) ?_
  exact s_settle_12 _ (Nat.lt_succ_self _) hC hI hb rfl hQ
