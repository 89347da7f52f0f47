theorem gM_M_80_0 : GI YM "DoorsOnCogsModel" 80 0 38 (some (some 22)) := ⟨by decide, _, _, _, fl_M_80, cM_0, by decide, rfl⟩
theorem aM_22 : AI YM 22 (.int) 24000 := ⟨by decide, cM_22, by decide⟩
theorem gM_M_420_0 : GI YM "DoorsOnCogsModel" 420 0 39 none := ⟨by decide, _, _, _, fl_M_420, cM_0, by decide, rfl⟩
theorem pM_M_420_0 : PI YM "DoorsOnCogsModel" 420 0 39 none .int := ⟨by decide, _, _, _, fl_M_420, fp_10_39, cM_0, by decide, rfl⟩
/-! rows of pushes: pure -/
def smt (S lo : Int → Int) (l : Int) : Prop := ∃ x, 0 ≤ x ∧ x < S 0 ∧ lo x = l ∧ (zbit (S 3) x = 1 ∨ zbit (S 4) x = 1)
/-- how many pushes led to a state -/
def dpt (F : Int → Int) : Nat → Int → Int
  | 0, _ => 0
  | f + 1, s => if F s < 0 then 0 else dpt F f (F s) + 1
/-- the i-th of them -/
def kth (F C : Int → Int) : Nat → Int → Int → Int
  | 0, _, _ => -2
  | f + 1, s, i => if F s < 0 then -2 else if i = dpt F f (F s) then C s else kth F C f (F s) i
theorem dpt_out {F : Int → Int} {f : Nat} {s : Int} (h : F s < 0) : dpt F (f + 1) s = 0 := by
  show (if _ then _ else _) = _
  rw [if_pos h]
theorem dpt_go {F : Int → Int} {f : Nat} {s : Int} (h : ¬ F s < 0) : dpt F (f + 1) s = dpt F f (F s) + 1 := by
  show (if _ then _ else _) = _
  rw [if_neg h]
theorem kth_at {F C : Int → Int} {f : Nat} {s i : Int} (h : ¬ F s < 0) (e : i = dpt F f (F s)) : kth F C (f + 1) s i = C s := by
  show (if _ then _ else _) = _
  rw [if_neg h, if_pos e]
theorem kth_go {F C : Int → Int} {f : Nat} {s i : Int} (h : ¬ F s < 0) (e : ¬ i = dpt F f (F s)) : kth F C (f + 1) s i = kth F C f (F s) i := by
  show (if _ then _ else _) = _
  rw [if_neg h, if_neg e]
/-- each state came from an earlier one -/
def DOWN (F : Int → Int) (m : Int) : Prop := F 0 = -1 ∧ ∀ s, 0 < s → s < m → 0 ≤ F s ∧ F s < s
theorem DOWN.all {F : Int → Int} {m : Int} (h : DOWN F m) {s : Int} (s0 : 0 ≤ s) (s1 : s < m) : -1 ≤ F s ∧ F s < s := by
  by_cases e : s = 0
  · rw [e, h.1]; decide
  · have := h.2 s (by omega) s1; omega
theorem dpt_bd {F : Int → Int} {m : Int} (h : DOWN F m) : ∀ (f : Nat) (s : Int), 0 ≤ s → s < m → 0 ≤ dpt F f s ∧ dpt F f s ≤ s
  | 0, s, s0, _ => ⟨Int.le_refl _, s0⟩
  | f + 1, s, s0, s1 => by
    by_cases c : F s < 0
    · rw [dpt_out c]; exact ⟨Int.le_refl _, s0⟩
    · rw [dpt_go c]
      have a := h.all s0 s1
      have b := dpt_bd h f (F s) (by omega) (by omega)
      omega
set_option maxHeartbeats 4000000 in
theorem s_M_isSomething_l : ∀ (f : Nat) {μ : Mem} {Q : PV → Mem → Prop} {l d : Int}, ((μ 11 0 - d).toNat < f) → (MX μ) → (0 ≤ μ 11 3 ∧ μ 11 3 ≤ 2147483647) → (0 ≤ μ 11 4 ∧ μ 11 4 ≤ 2147483647) → (0 ≤ l ∧ l < 12) → (0 ≤ d ∧ d ≤ μ 11 0) → (∀ x, 0 ≤ x → x < d → μ 14 x = l → ¬ zbit (μ 11 3) x = 1 ∧ ¬ zbit (μ 11 4) x = 1) → (smt (μ 11) (μ 14) l → Q (vI 1) μ) → (¬ smt (μ 11) (μ 14) l → Q (vI 0) μ) → Rj YM y_M_isSomething 2 [vA 0, vI l, vI d] [] μ Q := by
  intro f
  induction f with
  | zero => intro μ Q l d hf h hw3 hw4 hl hd hp h1 h0; exact absurd hf (by omega)
  | succ f ih =>
    intro μ Q l d hf h hw3 hw4 hl hd hp h1 h0
    obtain ⟨z0, z1, z6, z5⟩ := h.z
    have orr := z_or_rng (a := μ 11 3) (b := μ 11 4) (n := 31) (by decide) ⟨by omega, by omega⟩ ⟨by omega, by omega⟩
    have ozb := zbit_or (a := μ 11 3) (b := μ 11 4) (k := d) (by omega) (by omega) hd.1
    refine Rj_iload_n (q := 3) d_M_isSomething_2 rfl rfl rfl ?_
    refine Rj_aload_n (q := 4) d_M_isSomething_3 rfl rfl rfl ?_
    refine Rj_gr (q := 7) (zd := 11) gM_M_42_0 rfl rfl d_M_isSomething_4 rfl ?_
    refine Rj_iconst (q := 8) d_M_isSomething_7 rfl ?_
    refine Rj_ia (q := 9) (v := μ 11 0) aM_11 rfl (by decide) rfl d_M_isSomething_8 rfl ?_
    refine Rj_icmp_ge (q := 12) (t := 50) d_M_isSomething_9 rfl (by decide) (by first | assumption | exact ⟨by omega, by omega⟩) (by first | assumption | exact ⟨by omega, by omega⟩) (fun c9 => ?_) (fun c9 => ?_)
    · refine Rj_iconst (q := 51) d_M_isSomething_50 rfl ?_
      refine Rj_bret0 d_M_isSomething_51 rfl ?_
      exact h0 (fun ⟨x, x0, x1, x2, x3⟩ => by have := hp x x0 (by omega) x2; omega)
    · have ld := (Hu_d h.1 h.2.1 (d := d) (by omega)).2.2.1
      refine Rj_aload_n (q := 13) d_M_isSomething_12 rfl rfl rfl ?_
      refine Rj_gr (q := 16) (zd := 14) gM_M_51_0 rfl rfl d_M_isSomething_13 rfl ?_
      refine Rj_iload_n (q := 17) d_M_isSomething_16 rfl rfl rfl ?_
      refine Rj_ia (q := 18) (v := μ 14 d) aM_14 rfl (by omega) rfl d_M_isSomething_17 rfl ?_
      refine Rj_iload_n (q := 19) d_M_isSomething_18 rfl rfl rfl ?_
      refine Rj_icmp_ne (q := 22) (t := 44) d_M_isSomething_19 rfl (by decide) (by first | assumption | exact ⟨by omega, by omega⟩) (by first | assumption | exact ⟨by omega, by omega⟩) (fun c19 => ?_) (fun c19 => ?_)
      · refine Rj_iinc (q := 47) (ls' := [vA 0, vI l, vI (d + 1)]) d_M_isSomething_44 rfl rfl (by decide) rfl ?_
        refine Rj_goto (t := 2) d_M_isSomething_47 (by decide) ?_
        refine ih (by omega) h hw3 hw4 hl (by omega) (fun x x0 x1 x2 => ?_) h1 h0
        by_cases e : x = d
        · subst e
          first
            | exact absurd x2 c19
            | exact ⟨fun q => c39 (ozb.mpr (Or.inl q)), fun q => c39 (ozb.mpr (Or.inr q))⟩
        · exact hp x x0 (by omega) x2
      · refine Rj_aload_n (q := 23) d_M_isSomething_22 rfl rfl rfl ?_
        refine Rj_gr (q := 26) (zd := 11) gM_M_42_0 rfl rfl d_M_isSomething_23 rfl ?_
        refine Rj_iconst (q := 27) d_M_isSomething_26 rfl ?_
        refine Rj_ia (q := 28) (v := μ 11 3) aM_11 rfl (by decide) rfl d_M_isSomething_27 rfl ?_
        refine Rj_aload_n (q := 29) d_M_isSomething_28 rfl rfl rfl ?_
        refine Rj_gr (q := 32) (zd := 11) gM_M_42_0 rfl rfl d_M_isSomething_29 rfl ?_
        refine Rj_iconst (q := 33) d_M_isSomething_32 rfl ?_
        refine Rj_ia (q := 34) (v := μ 11 4) aM_11 rfl (by decide) rfl d_M_isSomething_33 rfl ?_
        refine Rj_ior (q := 35) (z := z_or (μ 11 3) (μ 11 4)) d_M_isSomething_34 rfl rfl ?_
        refine Rj_iload_n (q := 36) d_M_isSomething_35 rfl rfl rfl ?_
        refine Rj_cs (q := 39) (z := y_M_isOf) (as := [vI (z_or (μ 11 3) (μ 11 4)), vI d]) (rest := []) (la := [vI (z_or (μ 11 3) (μ 11 4)), vI d]) ml_M_317 mw_M_isOf ms_M_isOf d_M_isSomething_36 rfl rfl rfl rfl rfl ?_
        refine s_M_isOf (by first | assumption | exact ⟨by omega, by omega⟩) (by omega) ?_
        refine Rj_b_eq (q := 42) (t := 44) d_M_isSomething_39 rfl (by decide) (fun c39 => ?_) (fun c39 => ?_)
        · have c39 := of_decide_eq_false c39
          refine Rj_iinc (q := 47) (ls' := [vA 0, vI l, vI (d + 1)]) d_M_isSomething_44 rfl rfl (by decide) rfl ?_
          refine Rj_goto (t := 2) d_M_isSomething_47 (by decide) ?_
          refine ih (by omega) h hw3 hw4 hl (by omega) (fun x x0 x1 x2 => ?_) h1 h0
          by_cases e : x = d
          · subst e
            first
              | exact absurd x2 c19
              | exact ⟨fun q => c39 (ozb.mpr (Or.inl q)), fun q => c39 (ozb.mpr (Or.inr q))⟩
          · exact hp x x0 (by omega) x2
        · have c39 := of_decide_eq_true c39
          refine Rj_iconst (q := 43) d_M_isSomething_42 rfl ?_
          refine Rj_bret1 d_M_isSomething_43 rfl ?_
          exact h1 ⟨d, by omega, by omega, by omega, ozb.mp c39⟩
set_option maxHeartbeats 4000000 in
theorem s_M_isSomething {μ : Mem} {Q : PV → Mem → Prop} (h : MX μ) (hw3 : 0 ≤ μ 11 3 ∧ μ 11 3 ≤ 2147483647) (hw4 : 0 ≤ μ 11 4 ∧ μ 11 4 ≤ 2147483647) {l : Int} (hl : 0 ≤ l ∧ l < 12) (h1 : smt (μ 11) (μ 14) l → Q (vI 1) μ) (h0 : ¬ smt (μ 11) (μ 14) l → Q (vI 0) μ) : Rj YM y_M_isSomething 0 [vA 0, vI l] [] μ Q := by
  obtain ⟨z0, z1, z6, z5⟩ := h.z
  refine Rj_iconst (q := 1) d_M_isSomething_0 rfl ?_
  refine Rj_istore_n (q := 2) (ls' := [vA 0, vI l, vI 0]) d_M_isSomething_1 rfl rfl (by decide) rfl ?_
  exact s_M_isSomething_l _ (Nat.lt_succ_self _) h hw3 hw4 hl (by omega) (fun x x0 x1 => by omega) h1 h0
set_option maxHeartbeats 4000000 in
theorem s_M_rows_4 : ∀ (f : Nat) {μ : Mem} {Q : PV → Mem → Prop} {F : Int → Int} {t n s m : Int}, (s.toNat < f) → (μ 19 = F) → (DOWN F m) → (m ≤ 2000) → (0 ≤ s ∧ s < m) → (0 ≤ n ∧ n + s ≤ 2000) → (Rj YM y_M_rows 26 [vA 0, vI t, vI (n + dpt F f s)] [] μ Q) → Rj YM y_M_rows 4 [vA 0, vI t, vI n, vI s] [] μ Q := by
  intro f
  induction f with
  | zero => intro μ Q F t n s m hf hF hD hm hs hn hQ; exact absurd hf (by omega)
  | succ f ih =>
    intro μ Q F t n s m hf hF hD hm hs hn hQ
    have da := hD.all hs.1 hs.2
    refine Rj_aload_n (q := 5) d_M_rows_4 rfl rfl rfl ?_
    refine Rj_gr (q := 8) (zd := 19) gM_M_71_0 rfl rfl d_M_rows_5 rfl ?_
    refine Rj_iload_n (q := 9) d_M_rows_8 rfl rfl rfl ?_
    refine Rj_ia (q := 10) (v := F s) aM_19 rfl (by omega) (by first | exact congrFun hF s | (rw [mset_nc _ _ _ _ _ (by decide)]; exact congrFun hF s)) d_M_rows_9 rfl ?_
    refine Rj_if_lt (q := 13) (t := 26) d_M_rows_10 rfl (by decide) ⟨by omega, by omega⟩ (fun c10 => ?_) (fun c10 => ?_)
    · refine Rj_pre (ls' := [vA 0, vI t, vI n]) (t := [vI s]) rfl ?_
      rw [dpt_out c10, Int.add_zero] at hQ
      exact hQ
    · refine Rj_iinc (q := 16) (ls' := [vA 0, vI t, vI (n + 1), vI s]) d_M_rows_13 rfl rfl (by decide) rfl ?_
      refine Rj_aload_n (q := 17) d_M_rows_16 rfl rfl rfl ?_
      refine Rj_gr (q := 20) (zd := 19) gM_M_71_0 rfl rfl d_M_rows_17 rfl ?_
      refine Rj_iload_n (q := 21) d_M_rows_20 rfl rfl rfl ?_
      refine Rj_ia (q := 22) (v := F s) aM_19 rfl (by omega) (by first | exact congrFun hF s | (rw [mset_nc _ _ _ _ _ (by decide)]; exact congrFun hF s)) d_M_rows_21 rfl ?_
      refine Rj_istore_n (q := 23) (ls' := [vA 0, vI t, vI (n + 1), vI (F s)]) d_M_rows_22 rfl rfl (by decide) rfl ?_
      refine Rj_goto (t := 4) d_M_rows_23 (by decide) ?_
      rw [dpt_go (by omega), show n + (dpt F f (F s) + 1) = n + 1 + dpt F f (F s) by omega] at hQ
      exact ih (by omega) hF hD hm (by omega) (by omega) hQ
set_option maxHeartbeats 4000000 in
theorem s_M_rows_36 : ∀ (f : Nat) {μ : Mem} {Q : PV → Mem → Prop} {F C : Int → Int} {t n r s m b : Int}, (s.toNat < f) → (μ 19 = F) → (μ 20 = C) → (DOWN F m) → (m ≤ 2000) → (0 ≤ s ∧ s < m) → (0 ≤ b ∧ b + s ≤ 24000) → (r = b + dpt F f s) → (∀ μ', Fr (fun c i => c = 22 ∧ b ≤ i ∧ i < b + dpt F f s) μ μ' → (∀ i, 0 ≤ i → i < dpt F f s → μ' 22 (b + i) = kth F C f s i) → Rj YM y_M_rows 74 [vA 0, vI t, vI n] [] μ' Q) → Rj YM y_M_rows 36 [vA 0, vI t, vI n, vI r, vI s] [] μ Q := by
  intro f
  induction f with
  | zero => intro μ Q F C t n r s m b hf hF hC hD hm hs hb he hQ; exact absurd hf (by omega)
  | succ f ih =>
    intro μ Q F C t n r s m b hf hF hC hD hm hs hb he hQ
    have da := hD.all hs.1 hs.2
    have d1 := dpt_bd hD (f + 1) s hs.1 hs.2
    refine Rj_aload_n (q := 37) d_M_rows_36 rfl rfl rfl ?_
    refine Rj_gr (q := 40) (zd := 19) gM_M_71_0 rfl rfl d_M_rows_37 rfl ?_
    refine Rj_iload (q := 42) d_M_rows_40 rfl rfl ?_
    refine Rj_ia (q := 43) (v := F s) aM_19 rfl (by omega) (by first | exact congrFun hF s | (rw [mset_nc _ _ _ _ _ (by decide)]; exact congrFun hF s)) d_M_rows_42 rfl ?_
    refine Rj_if_lt (q := 46) (t := 74) d_M_rows_43 rfl (by decide) ⟨by omega, by omega⟩ (fun c43 => ?_) (fun c43 => ?_)
    · refine Rj_pre (ls' := [vA 0, vI t, vI n]) (t := [vI r, vI s]) rfl ?_
      exact hQ μ (Fr.refl _ _) (fun i i0 i1 => by rw [dpt_out c43] at i1; omega)
    · have dg := dpt_go (F := F) (f := f) (s := s) (by omega)
      have db := dpt_bd hD f (F s) (by omega) (by omega)
      refine Rj_iinc (q := 49) (ls' := [vA 0, vI t, vI n, vI (r + (-1)), vI s]) d_M_rows_46 rfl rfl (by decide) rfl ?_
      refine Rj_aload_n (q := 50) d_M_rows_49 rfl rfl rfl ?_
      refine Rj_gr (q := 53) (zd := 22) gM_M_80_0 rfl rfl d_M_rows_50 rfl ?_
      refine Rj_iload_n (q := 54) d_M_rows_53 rfl rfl rfl ?_
      refine Rj_aload_n (q := 55) d_M_rows_54 rfl rfl rfl ?_
      refine Rj_gr (q := 58) (zd := 20) gM_M_74_0 rfl rfl d_M_rows_55 rfl ?_
      refine Rj_iload (q := 60) d_M_rows_58 rfl rfl ?_
      refine Rj_ia (q := 61) (v := C s) aM_20 rfl (by omega) (by first | exact congrFun hC s | (rw [mset_nc _ _ _ _ _ (by decide)]; exact congrFun hC s)) d_M_rows_60 rfl ?_
      refine Rj_is (q := 62) aM_22 rfl (by omega) d_M_rows_61 rfl ?_
      refine Rj_aload_n (q := 63) d_M_rows_62 rfl rfl rfl ?_
      refine Rj_gr (q := 66) (zd := 19) gM_M_71_0 rfl rfl d_M_rows_63 rfl ?_
      refine Rj_iload (q := 68) d_M_rows_66 rfl rfl ?_
      refine Rj_ia (q := 69) (v := F s) aM_19 rfl (by omega) (by first | exact congrFun hF s | (rw [mset_nc _ _ _ _ _ (by decide)]; exact congrFun hF s)) d_M_rows_68 rfl ?_
      refine Rj_istore (q := 71) (ls' := [vA 0, vI t, vI n, vI (r + (-1)), vI (F s)]) d_M_rows_69 rfl (by decide) rfl ?_
      refine Rj_goto (t := 36) d_M_rows_71 (by decide) ?_
      refine ih (μ := (mset μ 22 (r + (-1)) (C s))) (F := F) (C := C) (b := b) (by omega) (by rw [mset_nc _ _ _ _ _ (by decide)]; exact hF) (by rw [mset_nc _ _ _ _ _ (by decide)]; exact hC) hD hm (by omega) (by omega) (by omega) (fun m2 a2 b2 => ?_)
      refine hQ m2 (fun c i q => ?_) (fun i i0 i1 => ?_)
      · rw [a2 c i (by omega), mset_o (by omega)]
      · by_cases e : i = dpt F f (F s)
        · rw [kth_at (by omega) e, a2 22 (b + i) (by omega), show b + i = r + (-1) by omega, mset_same]
        · rw [kth_go (by omega) e]; exact b2 i i0 (by omega)
set_option maxHeartbeats 4000000 in
theorem s_M_rows_74 {μ : Mem} {Q : PV → Mem → Prop} {t n b : Int} (he : μ 0 39 = b) (hQ : Q vU (mset μ 0 39 (b + n))) : Rj YM y_M_rows 74 [vA 0, vI t, vI n] [] μ Q := by
  refine Rj_aload_n (q := 75) d_M_rows_74 rfl rfl rfl ?_
  refine Rj_dup (q := 76) d_M_rows_75 rfl (by intro h; cases h) ?_
  refine Rj_gi (q := 79) (ki := 39) (v := b) gM_M_420_0 rfl rfl he d_M_rows_76 rfl ?_
  refine Rj_iload_n (q := 80) d_M_rows_79 rfl rfl rfl ?_
  refine Rj_iadd (q := 81) d_M_rows_80 rfl ?_
  refine Rj_pi (q := 84) (ki := 39) pM_M_420_0 rfl rfl d_M_rows_81 rfl ?_
  refine Rj_vret d_M_rows_84 rfl ?_
  exact hQ
set_option maxHeartbeats 4000000 in
theorem s_M_rows_26 {μ : Mem} {Q : PV → Mem → Prop} {F C : Int → Int} {t m b : Int} (hF : μ 19 = F) (hC : μ 20 = C) (hD : DOWN F m) (hm : m ≤ 2000) (ht : 0 ≤ t ∧ t < m) (hb : 0 ≤ b ∧ b + t ≤ 24000) (he : μ 0 39 = b) (hQ : ∀ μ', Fr (fun c i => (c = 22 ∧ b ≤ i ∧ i < b + dpt F 2001 t) ∨ (c = 0 ∧ i = 39)) μ μ' → (∀ i, 0 ≤ i → i < dpt F 2001 t → μ' 22 (b + i) = kth F C 2001 t i) → μ' 0 39 = b + dpt F 2001 t → Q vU μ') : Rj YM y_M_rows 26 [vA 0, vI t, vI (dpt F 2001 t)] [] μ Q := by
  refine Rj_aload_n (q := 27) d_M_rows_26 rfl rfl rfl ?_
  refine Rj_gi (q := 30) (ki := 39) (v := b) gM_M_420_0 rfl rfl he d_M_rows_27 rfl ?_
  refine Rj_iload_n (q := 31) d_M_rows_30 rfl rfl rfl ?_
  refine Rj_iadd (q := 32) d_M_rows_31 rfl ?_
  refine Rj_istore_n (q := 33) (ls' := [vA 0, vI t, vI (dpt F 2001 t), vI (b + (dpt F 2001 t))]) d_M_rows_32 rfl rfl (by decide) rfl ?_
  refine Rj_iload_n (q := 34) d_M_rows_33 rfl rfl rfl ?_
  refine Rj_istore (q := 36) (ls' := [vA 0, vI t, vI (dpt F 2001 t), vI (b + (dpt F 2001 t)), vI t]) d_M_rows_34 rfl (by decide) rfl ?_
  refine s_M_rows_36 2001 (by omega) hF hC hD hm ht hb rfl (fun m2 a2 b2 => ?_)
  exact s_M_rows_74 ((a2 0 39 (by omega)).trans he) (hQ _ (Fr.put (Fr.wide a2 (fun c i q => Or.inl q)) (Or.inr ⟨rfl, rfl⟩)) (fun i i0 i1 => (mset_o (by omega)).trans (b2 i i0 i1)) (mset_same _ _ _ _))
set_option maxHeartbeats 4000000 in
theorem s_M_rows {μ : Mem} {Q : PV → Mem → Prop} {F C : Int → Int} {t m b : Int} (hF : μ 19 = F) (hC : μ 20 = C) (hD : DOWN F m) (hm : m ≤ 2000) (ht : 0 ≤ t ∧ t < m) (hb : 0 ≤ b ∧ b + t ≤ 24000) (he : μ 0 39 = b) (hQ : ∀ μ', Fr (fun c i => (c = 22 ∧ b ≤ i ∧ i < b + dpt F 2001 t) ∨ (c = 0 ∧ i = 39)) μ μ' → (∀ i, 0 ≤ i → i < dpt F 2001 t → μ' 22 (b + i) = kth F C 2001 t i) → μ' 0 39 = b + dpt F 2001 t → Q vU μ') : Rj YM y_M_rows 0 [vA 0, vI t] [] μ Q := by
  refine Rj_iconst (q := 1) d_M_rows_0 rfl ?_
  refine Rj_istore_n (q := 2) (ls' := [vA 0, vI t, vI 0]) d_M_rows_1 rfl rfl (by decide) rfl ?_
  refine Rj_iload_n (q := 3) d_M_rows_2 rfl rfl rfl ?_
  refine Rj_istore_n (q := 4) (ls' := [vA 0, vI t, vI 0, vI t]) d_M_rows_3 rfl rfl (by decide) rfl ?_
  refine s_M_rows_4 2001 (by omega) hF hD hm ht (by omega) ?_
  rw [Int.zero_add]
  exact s_M_rows_26 hF hC hD hm ht hb he hQ
