theorem gD_Pl_144_74 : GI YD "DoorsOnCogs$Planner" 144 74 6 none := ⟨by decide, _, _, _, fl_Pl_144, cD_74, by decide, rfl⟩
theorem gD_Pl_15_74 : GI YD "DoorsOnCogs$Planner" 15 74 3 (some (some 76)) := ⟨by decide, _, _, _, fl_Pl_15, cD_74, by decide, rfl⟩
theorem aD_76 : AI YD 76 (.int) 2000 := ⟨by decide, cD_76, by decide⟩
theorem gD_Pl_19_74 : GI YD "DoorsOnCogs$Planner" 19 74 4 (some (some 77)) := ⟨by decide, _, _, _, fl_Pl_19, cD_74, by decide, rfl⟩
theorem aD_77 : AI YD 77 (.int) 2000 := ⟨by decide, cD_77, by decide⟩
theorem pD_Pl_144_74 : PI YD "DoorsOnCogs$Planner" 144 74 6 none .int := ⟨by decide, _, _, _, fl_Pl_144, fp_3_6, cD_74, by decide, rfl⟩
theorem gD_Pl_162_74 : GI YD "DoorsOnCogs$Planner" 162 74 7 none := ⟨by decide, _, _, _, fl_Pl_162, cD_74, by decide, rfl⟩
theorem pD_Pl_33_74 : PI YD "DoorsOnCogs$Planner" 33 74 8 none .int := ⟨by decide, _, _, _, fl_Pl_33, fp_3_8, cD_74, by decide, rfl⟩
/-! the class adds a state; follows back -/
set_option maxHeartbeats 4000000 in
theorem s_addState {μ : Mem} {Q : PV → Mem → Prop} {t m b c p : Int} (H : HTB 4096 (μ 78) (μ 75) hD m) (hm : μ 74 6 = m) (hp : μ 74 7 = p) (F : FRE 4096 (μ 78) hD t p) (h20 : m < 2000) (hQ : ∀ μ', Fr (fun c i => c = 78 ∨ (c = 75 ∧ i = m) ∨ (c = 76 ∧ i = m) ∨ (c = 77 ∧ i = m) ∨ (c = 74 ∧ i = 6)) μ μ' → HTB 4096 (μ' 78) (μ' 75) hD (m + 1) → μ' 75 m = t → μ' 76 m = b → μ' 77 m = c → μ' 74 6 = m + 1 → Q vU μ') : Rj YD y_Pl_addState 0 [vA 74, vL t, vU, vI b, vI c] [] μ Q := by
  have m0 := H.1.1
  have pr := F.1
  refine Rj_aload_n (q := 1) d_Pl_addState_0 rfl rfl rfl ?_
  refine Rj_gr (q := 4) (zd := 75) gD_Pl_11_74 rfl rfl d_Pl_addState_1 rfl ?_
  refine Rj_aload_n (q := 5) d_Pl_addState_4 rfl rfl rfl ?_
  refine Rj_gi (q := 8) (ki := 6) (v := m) gD_Pl_144_74 rfl rfl hm d_Pl_addState_5 rfl ?_
  refine Rj_lload_n (q := 9) d_Pl_addState_8 rfl rfl rfl ?_
  refine Rj_lst (q := 10) aD_75 rfl (by omega) d_Pl_addState_9 rfl ?_
  refine Rj_aload_n (q := 11) d_Pl_addState_10 rfl rfl rfl ?_
  refine Rj_gr (q := 14) (zd := 76) gD_Pl_15_74 rfl rfl d_Pl_addState_11 rfl ?_
  refine Rj_aload_n (q := 15) d_Pl_addState_14 rfl rfl rfl ?_
  refine Rj_gi (q := 18) (ki := 6) (v := m) gD_Pl_144_74 rfl rfl hm d_Pl_addState_15 rfl ?_
  refine Rj_iload_n (q := 19) d_Pl_addState_18 rfl rfl rfl ?_
  refine Rj_is (q := 20) aD_76 rfl (by omega) d_Pl_addState_19 rfl ?_
  refine Rj_aload_n (q := 21) d_Pl_addState_20 rfl rfl rfl ?_
  refine Rj_gr (q := 24) (zd := 77) gD_Pl_19_74 rfl rfl d_Pl_addState_21 rfl ?_
  refine Rj_aload_n (q := 25) d_Pl_addState_24 rfl rfl rfl ?_
  refine Rj_gi (q := 28) (ki := 6) (v := m) gD_Pl_144_74 rfl rfl hm d_Pl_addState_25 rfl ?_
  refine Rj_iload (q := 30) d_Pl_addState_28 rfl rfl ?_
  refine Rj_is (q := 31) aD_77 rfl (by omega) d_Pl_addState_30 rfl ?_
  refine Rj_aload_n (q := 32) d_Pl_addState_31 rfl rfl rfl ?_
  refine Rj_dup (q := 33) d_Pl_addState_32 rfl (by intro h; cases h) ?_
  refine Rj_gi (q := 36) (ki := 6) (v := m) gD_Pl_144_74 rfl rfl hm d_Pl_addState_33 rfl ?_
  refine Rj_iconst (q := 37) d_Pl_addState_36 rfl ?_
  refine Rj_iadd (q := 38) d_Pl_addState_37 rfl ?_
  refine Rj_pi (q := 41) (ki := 6) pD_Pl_144_74 rfl rfl d_Pl_addState_38 rfl ?_
  refine Rj_aload_n (q := 42) d_Pl_addState_41 rfl rfl rfl ?_
  refine Rj_gr (q := 45) (zd := 78) gD_Pl_22_74 rfl rfl d_Pl_addState_42 rfl ?_
  refine Rj_aload_n (q := 46) d_Pl_addState_45 rfl rfl rfl ?_
  refine Rj_gi (q := 49) (ki := 7) (v := p) gD_Pl_162_74 rfl rfl hp d_Pl_addState_46 rfl ?_
  refine Rj_aload_n (q := 50) d_Pl_addState_49 rfl rfl rfl ?_
  refine Rj_gi (q := 53) (ki := 6) (v := m + 1) gD_Pl_144_74 rfl rfl rfl d_Pl_addState_50 rfl ?_
  refine Rj_is (q := 54) aD_78 rfl (by omega) d_Pl_addState_53 rfl ?_
  refine Rj_vret d_Pl_addState_54 rfl ?_
  refine hQ _ (Fr.put (Fr.put (Fr.put (Fr.put (Fr.put (Fr.refl _ _) (Or.inr (Or.inl ⟨rfl, rfl⟩))) (Or.inr (Or.inr (Or.inl ⟨rfl, rfl⟩)))) (Or.inr (Or.inr (Or.inr (Or.inl ⟨rfl, rfl⟩))))) (Or.inr (Or.inr (Or.inr (Or.inr ⟨rfl, rfl⟩))))) (Or.inl rfl)) ?_ ?_ ?_ ?_ rfl
  · have := H.put (by have : m + 1 < 4096 := by omega
                      exact this) F
    simpa [mset_fs, mset_nc] using this
  · simp [mset]
  · simp [mset]
  · simp [mset]
set_option maxHeartbeats 4000000 in
theorem s_follow_5 : ∀ (f : Nat) {μ : Mem} {Q : PV → Mem → Prop} {F : Int → Int} {t k n s m : Int}, (s.toNat < f) → (μ 76 = F) → (DOWN F m) → (m ≤ 2000) → (0 ≤ s ∧ s < m) → (0 ≤ n ∧ n + s ≤ 1999) → (Rj YD y_Pl_followBack 32 [vA 74, vI t, vI k, vI (n + dpt F f s)] [] μ Q) → Rj YD y_Pl_followBack 5 [vA 74, vI t, vI k, vI n, vI s] [] μ Q := by
  intro f
  induction f with
  | zero => intro μ Q F t k n s m hf hF hD hm hs hn hQ; exact absurd hf (by omega)
  | succ f ih =>
    intro μ Q F t k n s m hf hF hD hm hs hn hQ
    have da := hD.all hs.1 hs.2
    refine Rj_iload (q := 7) d_Pl_followBack_5 rfl rfl ?_
    refine Rj_if_le (q := 10) (t := 32) d_Pl_followBack_7 rfl (by decide) ⟨by omega, by omega⟩ (fun c7 => ?_) (fun c7 => ?_)
    · refine Rj_pre (ls' := [vA 74, vI t, vI k, vI n]) (t := [vI s]) rfl ?_
      first
        | (exfalso; omega)
        | (rw [dpt_out (by have e : s = 0 := by omega
                           rw [e, hD.1]; decide), Int.add_zero] at hQ; exact hQ)
    · have db := hD.2 s (by omega) hs.2
      refine Rj_iload_n (q := 11) d_Pl_followBack_10 rfl rfl rfl ?_
      refine Rj_sipush (q := 14) d_Pl_followBack_11 rfl (by decide +kernel) ?_
      refine Rj_icmp_ge (q := 17) (t := 32) d_Pl_followBack_14 rfl (by decide) ⟨by omega, by omega⟩ (by decide) (fun c14 => ?_) (fun c14 => ?_)
      · refine Rj_pre (ls' := [vA 74, vI t, vI k, vI n]) (t := [vI s]) rfl ?_
        first
          | (exfalso; omega)
          | (rw [dpt_out (by have e : s = 0 := by omega
                             rw [e, hD.1]; decide), Int.add_zero] at hQ; exact hQ)
      · refine Rj_iinc (q := 20) (ls' := [vA 74, vI t, vI k, vI (n + 1), vI s]) d_Pl_followBack_17 rfl rfl (by decide) rfl ?_
        refine Rj_aload_n (q := 21) d_Pl_followBack_20 rfl rfl rfl ?_
        refine Rj_gr (q := 24) (zd := 76) gD_Pl_15_74 rfl rfl d_Pl_followBack_21 rfl ?_
        refine Rj_iload (q := 26) d_Pl_followBack_24 rfl rfl ?_
        refine Rj_ia (q := 27) (v := F s) aD_76 rfl (by omega) (by first | exact congrFun hF s | (rw [mset_nc _ _ _ _ _ (by decide)]; exact congrFun hF s)) d_Pl_followBack_26 rfl ?_
        refine Rj_istore (q := 29) (ls' := [vA 74, vI t, vI k, vI (n + 1), vI (F s)]) d_Pl_followBack_27 rfl (by decide) rfl ?_
        refine Rj_goto (t := 5) d_Pl_followBack_29 (by decide) ?_
        rw [dpt_go (by omega), show n + (dpt F f (F s) + 1) = n + 1 + dpt F f (F s) by omega] at hQ
        exact ih (by omega) hF hD hm (by omega) (by omega) hQ
set_option maxHeartbeats 4000000 in
theorem s_follow_40 : ∀ (f : Nat) {μ : Mem} {Q : PV → Mem → Prop} {F C : Int → Int} {t k n s m j : Int}, (s.toNat < f) → (μ 76 = F) → (μ 77 = C) → (DOWN F m) → (m ≤ 2000) → (0 ≤ s ∧ s < m) → (-2147483648 ≤ k ∧ k ≤ 2147483647) → (j = dpt F f s - 1) → (∀ μ', Fr (fun c i => c = 74 ∧ i = 8) μ μ' → (0 ≤ k ∧ k < dpt F f s → μ' 74 8 = kth F C f s k) → (¬ (0 ≤ k ∧ k < dpt F f s) → μ' 74 8 = μ 74 8) → Rj YD y_Pl_followBack 82 [vA 74, vI t, vI k, vI n] [] μ' Q) → Rj YD y_Pl_followBack 40 [vA 74, vI t, vI k, vI n, vI s, vI j] [] μ Q := by
  intro f
  induction f with
  | zero => intro μ Q F C t k n s m j hf hF hC hD hm hs hk hj hQ; exact absurd hf (by omega)
  | succ f ih =>
    intro μ Q F C t k n s m j hf hF hC hD hm hs hk hj hQ
    have da := hD.all hs.1 hs.2
    have d1 := dpt_bd hD (f + 1) s hs.1 hs.2
    refine Rj_iload (q := 42) d_Pl_followBack_40 rfl rfl ?_
    refine Rj_if_lt (q := 45) (t := 82) d_Pl_followBack_42 rfl (by decide) ⟨by omega, by omega⟩ (fun c42 => ?_) (fun c42 => ?_)
    · refine Rj_pre (ls' := [vA 74, vI t, vI k, vI n]) (t := [vI s, vI j]) rfl ?_
      first
        | (exfalso; omega)
        | exact hQ μ (Fr.refl _ _) (fun q => by omega) (fun _ => rfl)
    · refine Rj_iload (q := 47) d_Pl_followBack_45 rfl rfl ?_
      refine Rj_if_le (q := 50) (t := 82) d_Pl_followBack_47 rfl (by decide) ⟨by omega, by omega⟩ (fun c47 => ?_) (fun c47 => ?_)
      · refine Rj_pre (ls' := [vA 74, vI t, vI k, vI n]) (t := [vI s, vI j]) rfl ?_
        first
          | (exfalso; omega)
          | exact hQ μ (Fr.refl _ _) (fun q => by omega) (fun _ => rfl)
      · have db := hD.2 s (by omega) hs.2
        have dg := dpt_go (F := F) (f := f) (s := s) (by omega)
        have d2 := dpt_bd hD f (F s) (by omega) (by omega)
        refine Rj_iload (q := 52) d_Pl_followBack_50 rfl rfl ?_
        refine Rj_iload_n (q := 53) d_Pl_followBack_52 rfl rfl rfl ?_
        refine Rj_icmp_ne (q := 56) (t := 67) d_Pl_followBack_53 rfl (by decide) ⟨by omega, by omega⟩ ⟨by omega, by omega⟩ (fun c53 => ?_) (fun c53 => ?_)
        · refine Rj_aload_n (q := 68) d_Pl_followBack_67 rfl rfl rfl ?_
          refine Rj_gr (q := 71) (zd := 76) gD_Pl_15_74 rfl rfl d_Pl_followBack_68 rfl ?_
          refine Rj_iload (q := 73) d_Pl_followBack_71 rfl rfl ?_
          refine Rj_ia (q := 74) (v := F s) aD_76 rfl (by omega) (by first | exact congrFun hF s | (rw [mset_nc _ _ _ _ _ (by decide)]; exact congrFun hF s)) d_Pl_followBack_73 rfl ?_
          refine Rj_istore (q := 76) (ls' := [vA 74, vI t, vI k, vI n, vI (F s), vI j]) d_Pl_followBack_74 rfl (by decide) rfl ?_
          refine Rj_iinc (q := 79) (ls' := [vA 74, vI t, vI k, vI n, vI (F s), vI (j + (-1))]) d_Pl_followBack_76 rfl rfl (by decide) rfl ?_
          refine Rj_goto (t := 40) d_Pl_followBack_79 (by decide) ?_
          refine ih (F := F) (C := C) (by omega) hF hC hD hm (by omega) hk (by omega) (fun m2 a1 a2 a3 => ?_)
          have ek : ¬ k = dpt F f (F s) := by omega
          refine hQ m2 a1 (fun q => ?_) (fun q => a3 (by omega))
          rw [kth_go (by omega) ek, a2 (by omega)]
        · refine Rj_aload_n (q := 57) d_Pl_followBack_56 rfl rfl rfl ?_
          refine Rj_aload_n (q := 58) d_Pl_followBack_57 rfl rfl rfl ?_
          refine Rj_gr (q := 61) (zd := 77) gD_Pl_19_74 rfl rfl d_Pl_followBack_58 rfl ?_
          refine Rj_iload (q := 63) d_Pl_followBack_61 rfl rfl ?_
          refine Rj_ia (q := 64) (v := C s) aD_77 rfl (by omega) (by first | exact congrFun hC s | (rw [mset_nc _ _ _ _ _ (by decide)]; exact congrFun hC s)) d_Pl_followBack_63 rfl ?_
          refine Rj_pi (q := 67) (ki := 8) pD_Pl_33_74 rfl rfl d_Pl_followBack_64 rfl ?_
          refine Rj_aload_n (q := 68) d_Pl_followBack_67 rfl rfl rfl ?_
          refine Rj_gr (q := 71) (zd := 76) gD_Pl_15_74 rfl rfl d_Pl_followBack_68 rfl ?_
          refine Rj_iload (q := 73) d_Pl_followBack_71 rfl rfl ?_
          refine Rj_ia (q := 74) (v := F s) aD_76 rfl (by omega) (by first | exact congrFun hF s | (rw [mset_nc _ _ _ _ _ (by decide)]; exact congrFun hF s)) d_Pl_followBack_73 rfl ?_
          refine Rj_istore (q := 76) (ls' := [vA 74, vI t, vI k, vI n, vI (F s), vI j]) d_Pl_followBack_74 rfl (by decide) rfl ?_
          refine Rj_iinc (q := 79) (ls' := [vA 74, vI t, vI k, vI n, vI (F s), vI (j + (-1))]) d_Pl_followBack_76 rfl rfl (by decide) rfl ?_
          refine Rj_goto (t := 40) d_Pl_followBack_79 (by decide) ?_
          refine ih (μ := (mset μ 74 8 (C s))) (F := F) (C := C) (by omega) (by rw [mset_nc _ _ _ _ _ (by decide)]; exact hF) (by rw [mset_nc _ _ _ _ _ (by decide)]; exact hC) hD hm (by omega) hk (by omega) (fun m2 a1 a2 a3 => ?_)
          have ek : k = dpt F f (F s) := by omega
          refine hQ m2 ((Fr.put (Fr.refl _ _) ⟨rfl, rfl⟩).trans a1) (fun q => ?_) (fun q => by omega)
          rw [kth_at (by omega) ek, a3 (by omega), mset_same]
