theorem gM_M_23_0 : GI YM "DoorsOnCogsModel" 23 0 6 (some (some 5)) := ⟨by decide, _, _, _, fl_M_23, cM_0, by decide, rfl⟩
theorem aM_5 : AI YM 5 (.int) 6 := ⟨by decide, cM_5, by decide⟩
theorem gM_M_20_0 : GI YM "DoorsOnCogsModel" 20 0 5 (some (some 4)) := ⟨by decide, _, _, _, fl_M_20, cM_0, by decide, rfl⟩
theorem aM_4 : AI YM 4 (.int) 288 := ⟨by decide, cM_4, by decide⟩
theorem oM_0_M_takesWord : OI YM 0 y_M_takesWord := ⟨by decide, _, _, _, cM_0, rfl⟩
theorem oM_0_M_tested : OI YM 0 y_M_tested := ⟨by decide, _, _, _, cM_0, rfl⟩
/-! the reference reads a rule: its clauses -/
/-- the table of clauses, from b on; signs from s on -/
def TB (f : Int → Int) : Int → Int → List CLS → Prop
  | _, _, [] => True
  | b, s, x :: D => (f b = s ∧ f (b + 1) = s + (x.1.length : Int) ∧ f (b + 2) = (if x.2 = none then -1 else s + (x.1.length : Int)) ∧ f (b + 3) = s + ((cuC x).length : Int)) ∧ TB f (b + 4) (s + ((cuC x).length : Int)) D
theorem TB_snoc {f : Int → Int} {x : CLS} : ∀ {D : List CLS} {b s : Int}, TB f b s (D ++ [x]) ↔ TB f b s D ∧ (f (b + 4 * (D.length : Int)) = s + ((flM D).length : Int) ∧ f (b + 4 * (D.length : Int) + 1) = s + ((flM D).length : Int) + (x.1.length : Int) ∧ f (b + 4 * (D.length : Int) + 2) = (if x.2 = none then -1 else s + ((flM D).length : Int) + (x.1.length : Int)) ∧ f (b + 4 * (D.length : Int) + 3) = s + ((flM D).length : Int) + ((cuC x).length : Int))
  | [], b, s => by
    show (_ ∧ True) ↔ True ∧ _
    rw [show b + 4 * ((([] : List CLS).length : Nat) : Int) = b by simp, show s + (((flM []).length : Nat) : Int) = s by simp [flM]]
    exact ⟨fun h => ⟨trivial, h.1⟩, fun h => ⟨h.2, trivial⟩⟩
  | y :: D, b, s => by
    show (_ ∧ TB f (b + 4) (s + ((cuC y).length : Int)) (D ++ [x])) ↔ (_ ∧ TB f (b + 4) (s + ((cuC y).length : Int)) D) ∧ _
    rw [TB_snoc (D := D)]
    have e1 : b + 4 * (((y :: D).length : Nat) : Int) = b + 4 + 4 * (D.length : Int) := by simp; omega
    have e2 : s + (((flM (y :: D)).length : Nat) : Int) = s + ((cuC y).length : Int) + ((flM D).length : Int) := by
      show s + (((cuC y ++ flM D).length : Nat) : Int) = _
      rw [List.length_append]; omega
    rw [e1, e2]
    exact ⟨fun h => ⟨⟨h.1, h.2.1⟩, h.2.2⟩, fun h => ⟨h.1.1, h.1.2, h.2⟩⟩
theorem TB_keep {f g : Int → Int} : ∀ {D : List CLS} {b s : Int}, TB f b s D → (∀ i, b ≤ i → i < b + 4 * (D.length : Int) → g i = f i) → TB g b s D
  | [], _, _, _, _ => trivial
  | x :: D, b, s, h, e => by
    have l : b + 4 * (((x :: D).length : Nat) : Int) = b + 4 + 4 * (D.length : Int) := by simp; omega
    rw [l] at e
    have h1 : f b = s ∧ f (b + 1) = s + (x.1.length : Int) ∧ f (b + 2) = (if x.2 = none then -1 else s + (x.1.length : Int)) ∧ f (b + 3) = s + ((cuC x).length : Int) := h.1
    refine ⟨?_, TB_keep h.2 (fun i i0 i1 => e i (by omega) (by omega))⟩
    rw [e b (by omega) (by omega), e (b + 1) (by omega) (by omega), e (b + 2) (by omega) (by omega), e (b + 3) (by omega) (by omega)]
    exact h1
/-- the reference has read these clauses -/
def TBL (μ : Mem) (t : Int) (D : List CLS) : Prop := TB (μ 4) (48 * t) 0 D ∧ μ 5 t = (D.length : Int)
abbrev Wcl (t : Int) (c : Nat) (i : Int) : Prop := (c = 0 ∧ (i = 13 ∨ i = 14 ∨ i = 15 ∨ i = 17 ∨ i = 18 ∨ i = 19 ∨ i = 21)) ∨ (c = 2 ∧ 400 * t ≤ i ∧ i < 400 * t + 400) ∨ (c = 3 ∧ i = t) ∨ c = 8 ∨ (c = 4 ∧ 48 * t ≤ i ∧ i < 48 * t + 48) ∨ (c = 5 ∧ i = t)
theorem Fr.cl {μ ν : Mem} {t : Int} (f : Fr (Wte t) μ ν) : Fr (Wcl t) μ ν := Fr.wide f (fun c i q => by unfold Wte at q; unfold Wcl; omega)
theorem nM_N (D : List CLS) (c : CLS) : nM (D ++ [c]) ([], none) = nM D c := by
  unfold nM; rw [flM_snoc]; simp
theorem RM.N {μ : Mem} {A : Int → Int} {n t k cl vl : Int} {D : List CLS} {c : CLS} (h : RM μ A n t k cl vl D c) : RM μ A n t k cl vl (D ++ [c]) ([], none) := by
  obtain ⟨hA, hn, hX, hk, hw, ht, hv, hc, hL, hl⟩ := h
  refine ⟨hA, hn, hX, hk, hw, ht, hv, hc, ?_, by rw [nM_N]; exact hl⟩
  rw [flM_snoc, show cuC ([], none) = [] from rfl, List.append_nil]; exact hL
theorem RM.upd3 {μ μ' : Mem} {A : Int → Int} {n t k k' cl cl' vl vl' : Int} {D : List CLS} {c : CLS} (h : RM μ A n t k cl vl D c) (f : Fr (fun c i => (c = 0 ∧ ¬ (i = 1 ∨ i = 14 ∨ i = 16)) ∨ c = 4 ∨ c = 5) μ μ') (a1 : μ' 0 13 = k') (a2 : μ' 0 17 = vl') (a3 : μ' 0 19 = cl') : RM μ' A n t k' cl' vl' D c := by
  obtain ⟨hA, hn, hX, hk, hw, ht, hv, hc, hL, hl⟩ := h
  exact ⟨(f.row (fun i q => by omega)).trans hA, (f 0 1 (by omega)).trans hn, hX, a1, (f 0 14 (by omega)).trans hw, ⟨(f 0 16 (by omega)).trans ht.1, ht.2⟩, a2, a3, LST_keep hL (fun i i0 i1 => f 2 i (by omega)), (f 3 t (by omega)).trans hl⟩
theorem RM.iff {μ : Mem} {A : Int → Int} {n t k cl vl : Int} {D : List CLS} {a : CLS} (ha : a.2 = none) (h : RM μ A n t k cl vl D a) : RM μ A n t k cl vl D (a.1, some []) := by
  unfold RM nM at *
  rw [cuC_if ha]; exact h
theorem nM_flM (D : List CLS) : nM D ([], none) = ((flM D).length : Int) := by unfold nM; simp
theorem TBL_snoc {μ μ' : Mem} {t b : Int} {D : List CLS} (x : CLS) (hT : TBL μ t D) (hb : b = 48 * t + 4 * (D.length : Int)) (f : ∀ i, 48 * t ≤ i → i < b → μ' 4 i = μ 4 i) (e0 : μ' 4 b = ((flM D).length : Int)) (e1 : μ' 4 (b + 1) = ((flM D).length : Int) + (x.1.length : Int)) (e2 : μ' 4 (b + 2) = (if x.2 = none then -1 else ((flM D).length : Int) + (x.1.length : Int))) (e3 : μ' 4 (b + 3) = ((flM D).length : Int) + ((cuC x).length : Int)) (e5 : μ' 5 t = (D.length : Int) + 1) : TBL μ' t (D ++ [x]) := by
  subst hb
  refine ⟨TB_snoc.mpr ⟨TB_keep hT.1 (fun i i0 i1 => f i i0 i1), by rw [e0]; omega, by rw [e1]; omega, ?_, by rw [e3]; omega⟩, by rw [e5]; simp⟩
  rw [e2, Int.zero_add]
theorem nM_sum {D : List CLS} {c : CLS} (h : c.2 = none) : nM D c = ((flM D).length : Int) + (c.1.length : Int) := by unfold nM cuC; rw [h]; simp
theorem nM_cu (D : List CLS) (c : CLS) : nM D c = ((flM D).length : Int) + ((cuC c).length : Int) := by unfold nM; omega
set_option maxHeartbeats 4000000 in
theorem s_M_isPushHere {μ : Mem} {Q : PV → Mem → Prop} {A : Int → Int} {n t k cl vl : Int} {D : List CLS} (hC : RM μ A n t k cl vl D ([], none)) (hT : TBL μ t D) (hw : wat A n k 1886745448 = true) (hI : IV n (lend A n k) [] cl vl 0 D ([], none)) (h0 : 0 ≤ k ∧ k ≤ n) (hE : ∀ e μ', RUN A n (lend A n k) [] cl vl 0 D ([], none) (.error e) → Fr (Wcl t) μ μ' → μ' 0 14 = e → (1 ≤ e ∧ e ≤ 5000) → Q (vI 0) μ') (hG : ∀ μ' k' nx' vl' c', (∀ x, RUN A n k' [] cl vl' nx' D c' x → RUN A n (lend A n k) [] cl vl 0 D ([], none) x) → Fr (Wcl t) μ μ' → RM μ' A n t k' cl vl' (D ++ [c']) ([], none) → TBL μ' t (D ++ [c']) → IV n k' [] cl vl' nx' D c' → k < k' → sk A n k' = k' → nmo A n k' nx' → Q (vI 1) μ') : Rj YM y_M_isPushHere 0 [vA 0] [] μ Q := by
  obtain ⟨hA, hn, hX, hk, hw0, ht, hv, hc, hL, hl⟩ := id hC
  obtain ⟨i1, i2, i3, i4, i5, i6, i7, i8⟩ := id hI
  have hX1 := hX.1
  refine Rj_aload_n (q := 1) d_M_isPushHere_0 rfl rfl rfl ?_
  refine Rj_vov (q := 4) (z := y_M_passWord) (as := []) (rest := []) (la := [vA 0]) oM_0_M_passWord ml_M_125 mw_M_passWord mv_M_passWord rfl d_M_isPushHere_1 rfl rfl rfl rfl rfl ?_
  refine s_M_passWord (μ := μ) (A := A) (n := n) (k := k) hX hA hn hk (by omega) ?_
  have lb1 := lend_bd A (n := n) (k := k) (by omega)
  have wl := wat_len hw
  refine Rj_bipush (q := 6) d_M_isPushHere_4 rfl (by decide +kernel) ?_
  refine Rj_aload_n (q := 7) d_M_isPushHere_6 rfl rfl rfl ?_
  refine Rj_gi (q := 10) (ki := 16) (v := t) gM_M_158_0 rfl rfl ht.1 d_M_isPushHere_7 rfl ?_
  refine Rj_imul (q := 11) d_M_isPushHere_10 rfl ?_
  refine Rj_iconst (q := 12) d_M_isPushHere_11 rfl ?_
  refine Rj_aload_n (q := 13) d_M_isPushHere_12 rfl rfl rfl ?_
  refine Rj_gr (q := 16) (zd := 5) gM_M_23_0 rfl rfl d_M_isPushHere_13 rfl ?_
  refine Rj_aload_n (q := 17) d_M_isPushHere_16 rfl rfl rfl ?_
  refine Rj_gi (q := 20) (ki := 16) (v := t) gM_M_158_0 rfl rfl ht.1 d_M_isPushHere_17 rfl ?_
  refine Rj_ia (q := 21) (v := (D.length : Int)) aM_5 rfl (by omega) hT.2 d_M_isPushHere_20 rfl ?_
  refine Rj_imul (q := 22) d_M_isPushHere_21 rfl ?_
  refine Rj_iadd (q := 23) d_M_isPushHere_22 rfl ?_
  refine Rj_istore_n (q := 24) (ls' := [vA 0, vI ((48 * t) + (4 * (D.length : Int)))]) d_M_isPushHere_23 rfl rfl (by decide) rfl ?_
  refine Rj_aload_n (q := 25) d_M_isPushHere_24 rfl rfl rfl ?_
  refine Rj_gr (q := 28) (zd := 4) gM_M_20_0 rfl rfl d_M_isPushHere_25 rfl ?_
  refine Rj_iload_n (q := 29) d_M_isPushHere_28 rfl rfl rfl ?_
  refine Rj_aload_n (q := 30) d_M_isPushHere_29 rfl rfl rfl ?_
  refine Rj_gr (q := 33) (zd := 3) gM_M_17_0 rfl rfl d_M_isPushHere_30 rfl ?_
  refine Rj_aload_n (q := 34) d_M_isPushHere_33 rfl rfl rfl ?_
  refine Rj_gi (q := 37) (ki := 16) (v := t) gM_M_158_0 rfl rfl ht.1 d_M_isPushHere_34 rfl ?_
  refine Rj_ia (q := 38) (v := nM D ([], none)) aM_3 rfl (by omega) hl d_M_isPushHere_37 rfl ?_
  refine Rj_is (q := 39) aM_4 rfl (by omega) d_M_isPushHere_38 rfl ?_
  refine Rj_aload_n (q := 40) d_M_isPushHere_39 rfl rfl rfl ?_
  refine Rj_vo (q := 43) (z := y_M_sum) (as := []) (rest := []) (la := [vA 0]) oM_0_M_sum ml_M_195 mw_M_sum mv_M_sum rfl d_M_isPushHere_40 rfl rfl rfl rfl rfl ?_
  have cv : RM ((mset (mset μ 0 13 (lend A n k)) 4 ((48 * t) + (4 * (D.length : Int))) (nM D ([], none)))) A n t (lend A n k) cl vl D ([], none) := hC.upd3 (Fr.put (Fr.put (Fr.refl _ _) (by omega)) (by omega)) rfl hv hc
  have fr0 : Fr (Wcl t) μ ((mset (mset μ 0 13 (lend A n k)) 4 ((48 * t) + (4 * (D.length : Int))) (nM D ([], none)))) := (Fr.put (Fr.put (Fr.refl _ _) (by unfold Wcl; omega)) (by unfold Wcl; omega))
  refine s_M_sum cv hI (by decide) (fun q => absurd q.1 (by decide)) trivial (fun e m a1 a2 a3 a4 => ?_) (fun m k2 vl2 c2 a1 a2 a3 a4 a5 a6 _ => ?_)
  · have zz := True.intro
    refine Rj_if_ne (q := 46) (t := 48) d_M_isPushHere_43 rfl (by decide) (by decide) (fun c => absurd c (by decide)) (fun _ => ?_)
    refine Rj_iconst (q := 47) d_M_isPushHere_46 rfl ?_
    refine Rj_bret0 d_M_isPushHere_47 rfl ?_
    exact hE e m a1 (fr0.trans (Fr.cl (Fr.te a2))) a3 a4
  · rw [if_neg (by decide)] at a1 a4
    rw [show (0 : Int) + 1 = 1 from rfl] at a1 a4
    have j1 := a4.1
    have fr1 : Fr (Wcl t) μ m := fr0.trans (Fr.cl (Fr.te a2))
    have cn : c2.2 = none := a4.2.2.2.2.2.2.1.mpr (by decide)
    have m4 : m 4 = _ := a2.row (c := 4) (fun i q => by unfold Wsm at q; omega)
    have m5 : m 5 = _ := a2.row (c := 5) (fun i q => by unfold Wsm at q; omega)
    refine Rj_if_ne (q := 46) (t := 48) d_M_isPushHere_43 rfl (by decide) (by decide) (fun _ => ?_) (fun c => absurd c (by decide))
    refine Rj_aload_n (q := 49) d_M_isPushHere_48 rfl rfl rfl ?_
    refine Rj_gr (q := 52) (zd := 4) gM_M_20_0 rfl rfl d_M_isPushHere_49 rfl ?_
    refine Rj_iload_n (q := 53) d_M_isPushHere_52 rfl rfl rfl ?_
    refine Rj_iconst (q := 54) d_M_isPushHere_53 rfl ?_
    refine Rj_iadd (q := 55) d_M_isPushHere_54 rfl ?_
    refine Rj_aload_n (q := 56) d_M_isPushHere_55 rfl rfl rfl ?_
    refine Rj_gr (q := 59) (zd := 3) gM_M_17_0 rfl rfl d_M_isPushHere_56 rfl ?_
    refine Rj_aload_n (q := 60) d_M_isPushHere_59 rfl rfl rfl ?_
    refine Rj_gi (q := 63) (ki := 16) (v := t) gM_M_158_0 rfl rfl a3.2.2.2.2.2.1.1 d_M_isPushHere_60 rfl ?_
    refine Rj_ia (q := 64) (v := nM D c2) aM_3 rfl (by omega) a3.2.2.2.2.2.2.2.2.2 d_M_isPushHere_63 rfl ?_
    refine Rj_is (q := 65) aM_4 rfl (by omega) d_M_isPushHere_64 rfl ?_
    refine Rj_aload_n (q := 66) d_M_isPushHere_65 rfl rfl rfl ?_
    refine Rj_gr (q := 69) (zd := 4) gM_M_20_0 rfl rfl d_M_isPushHere_66 rfl ?_
    refine Rj_iload_n (q := 70) d_M_isPushHere_69 rfl rfl rfl ?_
    refine Rj_iconst (q := 71) d_M_isPushHere_70 rfl ?_
    refine Rj_iadd (q := 72) d_M_isPushHere_71 rfl ?_
    refine Rj_iconst (q := 73) d_M_isPushHere_72 rfl ?_
    refine Rj_is (q := 74) aM_4 rfl (by omega) d_M_isPushHere_73 rfl ?_
    refine Rj_aload_n (q := 75) d_M_isPushHere_74 rfl rfl rfl ?_
    refine Rj_ldc2 (q := 78) k_M_222 d_M_isPushHere_75 rfl ?_
    refine Rj_vo (q := 81) (z := y_M_takesWord) (as := [vL 26982]) (rest := []) (la := [vA 0, vL 26982, vU]) oM_0_M_takesWord ml_M_224 mw_M_takesWord mv_M_takesWord rfl d_M_isPushHere_78 rfl rfl rfl rfl rfl ?_
    refine s_M_takesWord (μ := (mset (mset m 4 (((48 * t) + (4 * (D.length : Int))) + 1) (nM D c2)) 4 (((48 * t) + (4 * (D.length : Int))) + 2) (-1))) (A := A) (n := n) (k := k2) hX a3.1 a3.2.1 a3.2.2.2.1 (by omega) (w := 26982) (by decide) ?_
    rw [a6.1]
    have lb78 := lend_bd A (n := n) (k := k2) (by omega)
    by_cases w78 : wat A n k2 26982 = true
    · rw [if_pos w78, bI_t w78]
      refine Rj_if_eq (q := 84) (t := 110) d_M_isPushHere_81 rfl (by decide) (by decide) (fun c => absurd c (by decide)) (fun _ => ?_)
      refine Rj_aload_n (q := 85) d_M_isPushHere_84 rfl rfl rfl ?_
      refine Rj_gr (q := 88) (zd := 4) gM_M_20_0 rfl rfl d_M_isPushHere_85 rfl ?_
      refine Rj_iload_n (q := 89) d_M_isPushHere_88 rfl rfl rfl ?_
      refine Rj_iconst (q := 90) d_M_isPushHere_89 rfl ?_
      refine Rj_iadd (q := 91) d_M_isPushHere_90 rfl ?_
      refine Rj_aload_n (q := 92) d_M_isPushHere_91 rfl rfl rfl ?_
      refine Rj_gr (q := 95) (zd := 3) gM_M_17_0 rfl rfl d_M_isPushHere_92 rfl ?_
      refine Rj_aload_n (q := 96) d_M_isPushHere_95 rfl rfl rfl ?_
      refine Rj_gi (q := 99) (ki := 16) (v := t) gM_M_158_0 rfl rfl a3.2.2.2.2.2.1.1 d_M_isPushHere_96 rfl ?_
      refine Rj_ia (q := 100) (v := nM D c2) aM_3 rfl (by omega) a3.2.2.2.2.2.2.2.2.2 d_M_isPushHere_99 rfl ?_
      refine Rj_is (q := 101) aM_4 rfl (by omega) d_M_isPushHere_100 rfl ?_
      refine Rj_aload_n (q := 102) d_M_isPushHere_101 rfl rfl rfl ?_
      refine Rj_vo (q := 105) (z := y_M_tested) (as := []) (rest := []) (la := [vA 0]) oM_0_M_tested ml_M_227 mw_M_tested mv_M_tested rfl d_M_isPushHere_102 rfl rfl rfl rfl rfl ?_
      have wl2 := wat_len w78
      have cv1 : RM ((mset (mset (mset (mset m 4 (((48 * t) + (4 * (D.length : Int))) + 1) (nM D c2)) 4 (((48 * t) + (4 * (D.length : Int))) + 2) (-1)) 0 13 (lend A n k2)) 4 (((48 * t) + (4 * (D.length : Int))) + 2) (nM D c2))) A n t (lend A n k2) cl vl2 D c2 := a3.upd3 (Fr.put (Fr.put (Fr.put (Fr.put (Fr.refl _ _) (by omega)) (by omega)) (by omega)) (by omega)) rfl a3.2.2.2.2.2.2.1 a3.2.2.2.2.2.2.2.1
      have cv2 := cv1.iff cn
      have iv2 : IV n (lend A n k2) [] cl vl2 6 D (c2.1, some []) := (a4.to (by omega) (by omega)).iff cn (by decide)
      have fr2 : Fr (Wcl t) μ ((mset (mset (mset (mset m 4 (((48 * t) + (4 * (D.length : Int))) + 1) (nM D c2)) 4 (((48 * t) + (4 * (D.length : Int))) + 2) (-1)) 0 13 (lend A n k2)) 4 (((48 * t) + (4 * (D.length : Int))) + 2) (nM D c2))) := Fr.trans fr1 (Fr.put (Fr.put (Fr.put (Fr.put (Fr.refl _ _) (by unfold Wcl; omega)) (by unfold Wcl; omega)) (by unfold Wcl; omega)) (by unfold Wcl; omega))
      have stp : ∀ x, RUN A n (lend A n k2) [] cl vl2 6 D (c2.1, some []) x → RUN A n (lend A n k) [] cl vl 0 D ([], none) x := fun x g => a1 x (RUN_if a6.1 a6.2 w78 rfl g)
      refine s_M_tested cv2 iv2 (fun e m3 b1 b2 b3 b4 => ?_) (fun m3 k3 vl3 c3 b1 b2 b3 b4 b5 b6 b7 pf => ?_)
      · have zz := True.intro
        refine Rj_if_ne (q := 108) (t := 110) d_M_isPushHere_105 rfl (by decide) (by decide) (fun c => absurd c (by decide)) (fun _ => ?_)
        refine Rj_iconst (q := 109) d_M_isPushHere_108 rfl ?_
        refine Rj_bret0 d_M_isPushHere_109 rfl ?_
        exact hE e m3 (stp _ b1) (fr2.trans (Fr.cl b2)) b3 b4
      · have m34 : m3 4 = _ := b2.row (c := 4) (fun i q => by unfold Wte at q; omega)
        have m35 : m3 5 t = (D.length : Int) := (b2 5 t (by unfold Wte; omega)).trans ((congrFun m5 t).trans hT.2)
        have j3 := b4.1
        have d3 := b4.2.1
        refine Rj_if_ne (q := 108) (t := 110) d_M_isPushHere_105 rfl (by decide) (by decide) (fun _ => ?_) (fun c => absurd c (by decide))
        refine Rj_aload_n (q := 111) d_M_isPushHere_110 rfl rfl rfl ?_
        refine Rj_gr (q := 114) (zd := 4) gM_M_20_0 rfl rfl d_M_isPushHere_111 rfl ?_
        refine Rj_iload_n (q := 115) d_M_isPushHere_114 rfl rfl rfl ?_
        refine Rj_iconst (q := 116) d_M_isPushHere_115 rfl ?_
        refine Rj_iadd (q := 117) d_M_isPushHere_116 rfl ?_
        refine Rj_aload_n (q := 118) d_M_isPushHere_117 rfl rfl rfl ?_
        refine Rj_gr (q := 121) (zd := 3) gM_M_17_0 rfl rfl d_M_isPushHere_118 rfl ?_
        refine Rj_aload_n (q := 122) d_M_isPushHere_121 rfl rfl rfl ?_
        refine Rj_gi (q := 125) (ki := 16) (v := t) gM_M_158_0 rfl rfl b3.2.2.2.2.2.1.1 d_M_isPushHere_122 rfl ?_
        refine Rj_ia (q := 126) (v := nM D c3) aM_3 rfl (by omega) b3.2.2.2.2.2.2.2.2.2 d_M_isPushHere_125 rfl ?_
        refine Rj_is (q := 127) aM_4 rfl (by omega) d_M_isPushHere_126 rfl ?_
        refine Rj_aload_n (q := 128) d_M_isPushHere_127 rfl rfl rfl ?_
        refine Rj_gr (q := 131) (zd := 5) gM_M_23_0 rfl rfl d_M_isPushHere_128 rfl ?_
        refine Rj_aload_n (q := 132) d_M_isPushHere_131 rfl rfl rfl ?_
        refine Rj_gi (q := 135) (ki := 16) (v := t) gM_M_158_0 rfl rfl b3.2.2.2.2.2.1.1 d_M_isPushHere_132 rfl ?_
        refine Rj_dup2 (q := 136) d_M_isPushHere_135 rfl (by intro h; cases h) (by intro h; cases h) ?_
        refine Rj_ia (q := 137) (v := (D.length : Int)) aM_5 rfl (by omega) ((mset_o (by omega)).trans m35) d_M_isPushHere_136 rfl ?_
        refine Rj_iconst (q := 138) d_M_isPushHere_137 rfl ?_
        refine Rj_iadd (q := 139) d_M_isPushHere_138 rfl ?_
        refine Rj_is (q := 140) aM_5 rfl (by omega) d_M_isPushHere_139 rfl ?_
        refine Rj_iconst (q := 141) d_M_isPushHere_140 rfl ?_
        refine Rj_bret1 d_M_isPushHere_141 rfl ?_
        have pq := pf (by simp)
        have e1 : c3.1 = c2.1 := pq.2
        have tb : TBL ((mset (mset m3 4 (((48 * t) + (4 * (D.length : Int))) + 3) (nM D c3)) 5 t ((D.length : Int) + 1))) t (D ++ [c3]) := TBL_snoc (b := (48 * t) + (4 * (D.length : Int))) c3 hT rfl (fun i j0 j1 => ((mset_o (by omega)).trans ((mset_o (by omega)).trans ((congrFun m34 i).trans (((mset_o (by omega)).trans ((mset_o (by omega)).trans ((mset_o (by omega)).trans ((mset_o (by omega)).trans ((congrFun m4 i).trans (((mset_o (by omega)).trans ((mset_o (by omega)).trans (rfl)))))))))))))) (((mset_o (by omega)).trans ((mset_o (by omega)).trans ((congrFun m34 _).trans (((mset_o (by omega)).trans ((mset_o (by omega)).trans ((mset_o (by omega)).trans ((mset_o (by omega)).trans ((congrFun m4 _).trans ((mset_same _ _ _ _))))))))))).trans (nM_flM D)) (((mset_o (by omega)).trans ((mset_o (by omega)).trans ((congrFun m34 _).trans (((mset_o (by omega)).trans ((mset_o (by omega)).trans ((mset_o (by omega)).trans (mset_same _ _ _ _)))))))).trans ((nM_sum cn).trans (by rw [e1]))) (((mset_o (by omega)).trans ((mset_o (by omega)).trans ((congrFun m34 _).trans ((mset_same _ _ _ _))))).trans ((nM_sum cn).trans (by rw [if_neg pq.1, e1]))) (((mset_o (by omega)).trans (mset_same _ _ _ _)).trans (nM_cu D c3)) (mset_same _ _ _ _)
        exact hG _ k3 7 vl3 c3 (fun x g => stp x (b1 x g)) (Fr.trans (fr2.trans (Fr.cl b2)) (Fr.put (Fr.put (Fr.refl _ _) (by unfold Wcl; omega)) (by unfold Wcl; omega))) (RM.N (b3.upd3 (Fr.put (Fr.put (Fr.refl _ _) (by omega)) (by omega)) b3.2.2.2.1 b3.2.2.2.2.2.2.1 b3.2.2.2.2.2.2.2.1)) tb b4 (by omega) b6 b7
    · rw [if_neg w78, bI_f (bool_f w78)]
      refine Rj_eqm (μ' := (mset (mset m 4 (((48 * t) + (4 * (D.length : Int))) + 1) (nM D c2)) 4 (((48 * t) + (4 * (D.length : Int))) + 2) (-1))) (mset_idv a3.2.2.2.1) ?_
      refine Rj_if_eq (q := 84) (t := 110) d_M_isPushHere_81 rfl (by decide) (by decide) (fun _ => ?_) (fun c => absurd c (by decide))
      refine Rj_aload_n (q := 111) d_M_isPushHere_110 rfl rfl rfl ?_
      refine Rj_gr (q := 114) (zd := 4) gM_M_20_0 rfl rfl d_M_isPushHere_111 rfl ?_
      refine Rj_iload_n (q := 115) d_M_isPushHere_114 rfl rfl rfl ?_
      refine Rj_iconst (q := 116) d_M_isPushHere_115 rfl ?_
      refine Rj_iadd (q := 117) d_M_isPushHere_116 rfl ?_
      refine Rj_aload_n (q := 118) d_M_isPushHere_117 rfl rfl rfl ?_
      refine Rj_gr (q := 121) (zd := 3) gM_M_17_0 rfl rfl d_M_isPushHere_118 rfl ?_
      refine Rj_aload_n (q := 122) d_M_isPushHere_121 rfl rfl rfl ?_
      refine Rj_gi (q := 125) (ki := 16) (v := t) gM_M_158_0 rfl rfl a3.2.2.2.2.2.1.1 d_M_isPushHere_122 rfl ?_
      refine Rj_ia (q := 126) (v := nM D c2) aM_3 rfl (by omega) a3.2.2.2.2.2.2.2.2.2 d_M_isPushHere_125 rfl ?_
      refine Rj_is (q := 127) aM_4 rfl (by omega) d_M_isPushHere_126 rfl ?_
      refine Rj_aload_n (q := 128) d_M_isPushHere_127 rfl rfl rfl ?_
      refine Rj_gr (q := 131) (zd := 5) gM_M_23_0 rfl rfl d_M_isPushHere_128 rfl ?_
      refine Rj_aload_n (q := 132) d_M_isPushHere_131 rfl rfl rfl ?_
      refine Rj_gi (q := 135) (ki := 16) (v := t) gM_M_158_0 rfl rfl a3.2.2.2.2.2.1.1 d_M_isPushHere_132 rfl ?_
      refine Rj_dup2 (q := 136) d_M_isPushHere_135 rfl (by intro h; cases h) (by intro h; cases h) ?_
      refine Rj_ia (q := 137) (v := (D.length : Int)) aM_5 rfl (by omega) ((mset_o (by omega)).trans ((mset_o (by omega)).trans ((mset_o (by omega)).trans ((congrFun m5 t).trans hT.2)))) d_M_isPushHere_136 rfl ?_
      refine Rj_iconst (q := 138) d_M_isPushHere_137 rfl ?_
      refine Rj_iadd (q := 139) d_M_isPushHere_138 rfl ?_
      refine Rj_is (q := 140) aM_5 rfl (by omega) d_M_isPushHere_139 rfl ?_
      refine Rj_iconst (q := 141) d_M_isPushHere_140 rfl ?_
      refine Rj_bret1 d_M_isPushHere_141 rfl ?_
      have tb : TBL ((mset (mset (mset (mset m 4 (((48 * t) + (4 * (D.length : Int))) + 1) (nM D c2)) 4 (((48 * t) + (4 * (D.length : Int))) + 2) (-1)) 4 (((48 * t) + (4 * (D.length : Int))) + 3) (nM D c2)) 5 t ((D.length : Int) + 1))) t (D ++ [c2]) := TBL_snoc (b := (48 * t) + (4 * (D.length : Int))) c2 hT rfl (fun i j0 j1 => ((mset_o (by omega)).trans ((mset_o (by omega)).trans ((mset_o (by omega)).trans ((mset_o (by omega)).trans ((congrFun m4 i).trans (((mset_o (by omega)).trans ((mset_o (by omega)).trans (rfl)))))))))) (((mset_o (by omega)).trans ((mset_o (by omega)).trans ((mset_o (by omega)).trans ((mset_o (by omega)).trans ((congrFun m4 _).trans ((mset_same _ _ _ _))))))).trans (nM_flM D)) (((mset_o (by omega)).trans ((mset_o (by omega)).trans ((mset_o (by omega)).trans (mset_same _ _ _ _)))).trans (nM_sum cn)) (((mset_o (by omega)).trans ((mset_o (by omega)).trans (mset_same _ _ _ _))).trans (if_pos cn).symm) (((mset_o (by omega)).trans (mset_same _ _ _ _)).trans (nM_cu D c2)) (mset_same _ _ _ _)
      exact hG _ k2 1 vl2 c2 a1 (Fr.trans fr1 (Fr.put (Fr.put (Fr.put (Fr.put (Fr.refl _ _) (by unfold Wcl; omega)) (by unfold Wcl; omega)) (by unfold Wcl; omega)) (by unfold Wcl; omega))) (RM.N (a3.upd3 (Fr.put (Fr.put (Fr.put (Fr.put (Fr.refl _ _) (by omega)) (by omega)) (by omega)) (by omega)) a3.2.2.2.1 a3.2.2.2.2.2.2.1 a3.2.2.2.2.2.2.2.1)) tb a4 (by omega) a6.1 (Or.inl ⟨rfl, a6.2, w78⟩)
